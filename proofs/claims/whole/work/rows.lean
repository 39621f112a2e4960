section
/-- a private method of a class that the tables say can be made, by its rows of tables_1 -/
def lw_okq (q : MethodName × Nat) : Prop := (q.1.cls ≠ "java/lang/invoke/MethodHandle" ∧ q.1.cls ≠ "java/lang/invoke/VarHandle") ∧ Cond.instantiable q.1.cls q.2 ∈ tables_1 ∧ Cond.privateMethod q.1 ∈ tables_1 ∧ Cond.instanceMethod q.1 ∈ tables_1
theorem lw_p0 : lw_okq (⟨"BarrelMoon$TownReader", "peek", "()I"⟩, 6) := ⟨⟨by decide +kernel, by decide +kernel⟩, List.mem_of_getElem? (i := 21) (by decide +kernel), List.mem_of_getElem? (i := 221) (by decide +kernel), List.mem_of_getElem? (i := 222) (by decide +kernel)⟩
theorem lw_p1 : lw_okq (⟨"BarrelMoon$TownReader", "readThings", "(LBarrelMoon$Town;)V"⟩, 6) := ⟨⟨by decide +kernel, by decide +kernel⟩, List.mem_of_getElem? (i := 21) (by decide +kernel), List.mem_of_getElem? (i := 225) (by decide +kernel), List.mem_of_getElem? (i := 226) (by decide +kernel)⟩
theorem lw_p2 : lw_okq (⟨"BarrelMoon$TownReader", "take", "(I)Z"⟩, 6) := ⟨⟨by decide +kernel, by decide +kernel⟩, List.mem_of_getElem? (i := 21) (by decide +kernel), List.mem_of_getElem? (i := 229) (by decide +kernel), List.mem_of_getElem? (i := 230) (by decide +kernel)⟩
theorem lw_p3 : lw_okq (⟨"BarrelMoon$TownReader", "stop", "(II)V"⟩, 6) := ⟨⟨by decide +kernel, by decide +kernel⟩, List.mem_of_getElem? (i := 21) (by decide +kernel), List.mem_of_getElem? (i := 233) (by decide +kernel), List.mem_of_getElem? (i := 234) (by decide +kernel)⟩
theorem lw_p4 : lw_okq (⟨"BarrelMoon$TownReader", "number", "(II)I"⟩, 6) := ⟨⟨by decide +kernel, by decide +kernel⟩, List.mem_of_getElem? (i := 21) (by decide +kernel), List.mem_of_getElem? (i := 237) (by decide +kernel), List.mem_of_getElem? (i := 238) (by decide +kernel)⟩
theorem lw_p5 : lw_okq (⟨"BarrelMoon$TownReader", "readClause", "(LBarrelMoon$Town;)V"⟩, 6) := ⟨⟨by decide +kernel, by decide +kernel⟩, List.mem_of_getElem? (i := 21) (by decide +kernel), List.mem_of_getElem? (i := 247) (by decide +kernel), List.mem_of_getElem? (i := 248) (by decide +kernel)⟩
theorem lw_p6 : lw_okq (⟨"BarrelMoon$TownReader", "readRule", "(LBarrelMoon$Town;)V"⟩, 6) := ⟨⟨by decide +kernel, by decide +kernel⟩, List.mem_of_getElem? (i := 21) (by decide +kernel), List.mem_of_getElem? (i := 255) (by decide +kernel), List.mem_of_getElem? (i := 256) (by decide +kernel)⟩
theorem lw_p7 : lw_okq (⟨"BarrelMoon$TownReader", "readPremises", "(LBarrelMoon$Town;I)I"⟩, 6) := ⟨⟨by decide +kernel, by decide +kernel⟩, List.mem_of_getElem? (i := 21) (by decide +kernel), List.mem_of_getElem? (i := 263) (by decide +kernel), List.mem_of_getElem? (i := 264) (by decide +kernel)⟩
theorem lw_p8 : lw_okq (⟨"BarrelMoon$TownReader", "readSeen", "(LBarrelMoon$Town;)V"⟩, 6) := ⟨⟨by decide +kernel, by decide +kernel⟩, List.mem_of_getElem? (i := 21) (by decide +kernel), List.mem_of_getElem? (i := 275) (by decide +kernel), List.mem_of_getElem? (i := 276) (by decide +kernel)⟩
theorem lw_p9 : lw_okq (⟨"BarrelMoon", "beginAnew", "()V"⟩, 12) := ⟨⟨by decide +kernel, by decide +kernel⟩, List.mem_of_getElem? (i := 13) (by decide +kernel), List.mem_of_getElem? (i := 287) (by decide +kernel), List.mem_of_getElem? (i := 288) (by decide +kernel)⟩
theorem lw_p10 : lw_okq (⟨"BarrelMoon", "trialNow", "()LBarrelMoon$Trial;"⟩, 12) := ⟨⟨by decide +kernel, by decide +kernel⟩, List.mem_of_getElem? (i := 13) (by decide +kernel), List.mem_of_getElem? (i := 315) (by decide +kernel), List.mem_of_getElem? (i := 316) (by decide +kernel)⟩
theorem lw_p11 : lw_okq (⟨"BarrelMoon", "rulesGoneBy", "()I"⟩, 12) := ⟨⟨by decide +kernel, by decide +kernel⟩, List.mem_of_getElem? (i := 13) (by decide +kernel), List.mem_of_getElem? (i := 321) (by decide +kernel), List.mem_of_getElem? (i := 322) (by decide +kernel)⟩
theorem lw_p12 : lw_okq (⟨"BarrelMoon", "change", "(LBarrelMoon$Moment;)V"⟩, 12) := ⟨⟨by decide +kernel, by decide +kernel⟩, List.mem_of_getElem? (i := 13) (by decide +kernel), List.mem_of_getElem? (i := 391) (by decide +kernel), List.mem_of_getElem? (i := 392) (by decide +kernel)⟩
theorem lw_p13 : lw_okq (⟨"BarrelMoon$History", "loseOldest", "()V"⟩, 2) := ⟨⟨by decide +kernel, by decide +kernel⟩, List.mem_of_getElem? (i := 47) (by decide +kernel), List.mem_of_getElem? (i := 399) (by decide +kernel), List.mem_of_getElem? (i := 400) (by decide +kernel)⟩
theorem lw_p14 : lw_okq (⟨"BarrelMoon", "draw", "(I)I"⟩, 12) := ⟨⟨by decide +kernel, by decide +kernel⟩, List.mem_of_getElem? (i := 13) (by decide +kernel), List.mem_of_getElem? (i := 426) (by decide +kernel), List.mem_of_getElem? (i := 427) (by decide +kernel)⟩
theorem lw_p15 : lw_okq (⟨"BarrelMoon$Trial", "concludesBy", "(II)Z"⟩, 3) := ⟨⟨by decide +kernel, by decide +kernel⟩, List.mem_of_getElem? (i := 319) (by decide +kernel), List.mem_of_getElem? (i := 465) (by decide +kernel), List.mem_of_getElem? (i := 466) (by decide +kernel)⟩
def lw_privs_1 : List (MethodName × Nat) := [(⟨"BarrelMoon$TownReader", "peek", "()I"⟩, 6), (⟨"BarrelMoon$TownReader", "readThings", "(LBarrelMoon$Town;)V"⟩, 6), (⟨"BarrelMoon$TownReader", "take", "(I)Z"⟩, 6), (⟨"BarrelMoon$TownReader", "stop", "(II)V"⟩, 6), (⟨"BarrelMoon$TownReader", "number", "(II)I"⟩, 6), (⟨"BarrelMoon$TownReader", "readClause", "(LBarrelMoon$Town;)V"⟩, 6), (⟨"BarrelMoon$TownReader", "readRule", "(LBarrelMoon$Town;)V"⟩, 6), (⟨"BarrelMoon$TownReader", "readPremises", "(LBarrelMoon$Town;I)I"⟩, 6), (⟨"BarrelMoon$TownReader", "readSeen", "(LBarrelMoon$Town;)V"⟩, 6), (⟨"BarrelMoon", "beginAnew", "()V"⟩, 12), (⟨"BarrelMoon", "trialNow", "()LBarrelMoon$Trial;"⟩, 12), (⟨"BarrelMoon", "rulesGoneBy", "()I"⟩, 12), (⟨"BarrelMoon", "change", "(LBarrelMoon$Moment;)V"⟩, 12), (⟨"BarrelMoon$History", "loseOldest", "()V"⟩, 2), (⟨"BarrelMoon", "draw", "(I)I"⟩, 12), (⟨"BarrelMoon$Trial", "concludesBy", "(II)Z"⟩, 3)]
theorem lw_r1 : ∀ q ∈ lw_privs_1, lw_okq q := List.forall_mem_cons.mpr ⟨lw_p0, List.forall_mem_cons.mpr ⟨lw_p1, List.forall_mem_cons.mpr ⟨lw_p2, List.forall_mem_cons.mpr ⟨lw_p3, List.forall_mem_cons.mpr ⟨lw_p4, List.forall_mem_cons.mpr ⟨lw_p5, List.forall_mem_cons.mpr ⟨lw_p6, List.forall_mem_cons.mpr ⟨lw_p7, List.forall_mem_cons.mpr ⟨lw_p8, List.forall_mem_cons.mpr ⟨lw_p9, List.forall_mem_cons.mpr ⟨lw_p10, List.forall_mem_cons.mpr ⟨lw_p11, List.forall_mem_cons.mpr ⟨lw_p12, List.forall_mem_cons.mpr ⟨lw_p13, List.forall_mem_cons.mpr ⟨lw_p14, List.forall_mem_cons.mpr ⟨lw_p15, fun _ h => absurd h List.not_mem_nil⟩⟩⟩⟩⟩⟩⟩⟩⟩⟩⟩⟩⟩⟩⟩⟩
theorem lw_p16 : lw_okq (⟨"BarrelMoon$Trial", "isAllowed", "(I)Z"⟩, 3) := ⟨⟨by decide +kernel, by decide +kernel⟩, List.mem_of_getElem? (i := 319) (by decide +kernel), List.mem_of_getElem? (i := 476) (by decide +kernel), List.mem_of_getElem? (i := 477) (by decide +kernel)⟩
theorem lw_p17 : lw_okq (⟨"BarrelMoon$Trial", "isPeaceWithout", "(I)Z"⟩, 3) := ⟨⟨by decide +kernel, by decide +kernel⟩, List.mem_of_getElem? (i := 319) (by decide +kernel), List.mem_of_getElem? (i := 494) (by decide +kernel), List.mem_of_getElem? (i := 495) (by decide +kernel)⟩
theorem lw_p18 : lw_okq (⟨"BarrelMoon$Trial", "leastWords", "(IIII)I"⟩, 3) := ⟨⟨by decide +kernel, by decide +kernel⟩, List.mem_of_getElem? (i := 319) (by decide +kernel), List.mem_of_getElem? (i := 508) (by decide +kernel), List.mem_of_getElem? (i := 509) (by decide +kernel)⟩
theorem lw_p19 : lw_okq (⟨"BarrelMoon$Trial", "bringTo", "(II)Z"⟩, 3) := ⟨⟨by decide +kernel, by decide +kernel⟩, List.mem_of_getElem? (i := 319) (by decide +kernel), List.mem_of_getElem? (i := 512) (by decide +kernel), List.mem_of_getElem? (i := 513) (by decide +kernel)⟩
theorem lw_p20 : lw_okq (⟨"BarrelMoon$Trial", "returnsTo", "(I)Z"⟩, 3) := ⟨⟨by decide +kernel, by decide +kernel⟩, List.mem_of_getElem? (i := 319) (by decide +kernel), List.mem_of_getElem? (i := 551) (by decide +kernel), List.mem_of_getElem? (i := 552) (by decide +kernel)⟩
theorem lw_p21 : lw_okq (⟨"BarrelMoon", "shareVotes", "(II)V"⟩, 12) := ⟨⟨by decide +kernel, by decide +kernel⟩, List.mem_of_getElem? (i := 13) (by decide +kernel), List.mem_of_getElem? (i := 559) (by decide +kernel), List.mem_of_getElem? (i := 560) (by decide +kernel)⟩
theorem lw_p22 : lw_okq (⟨"BarrelMoon", "countAnswers", "()I"⟩, 12) := ⟨⟨by decide +kernel, by decide +kernel⟩, List.mem_of_getElem? (i := 13) (by decide +kernel), List.mem_of_getElem? (i := 587) (by decide +kernel), List.mem_of_getElem? (i := 588) (by decide +kernel)⟩
theorem lw_p23 : lw_okq (⟨"BarrelMoon", "countYes", "(I)V"⟩, 12) := ⟨⟨by decide +kernel, by decide +kernel⟩, List.mem_of_getElem? (i := 13) (by decide +kernel), List.mem_of_getElem? (i := 591) (by decide +kernel), List.mem_of_getElem? (i := 592) (by decide +kernel)⟩
theorem lw_p24 : lw_okq (⟨"BarrelMoonModel", "here", "()I"⟩, 32) := ⟨⟨by decide +kernel, by decide +kernel⟩, List.mem_of_getElem? (i := 631) (by decide +kernel), List.mem_of_getElem? (i := 748) (by decide +kernel), List.mem_of_getElem? (i := 749) (by decide +kernel)⟩
theorem lw_p25 : lw_okq (⟨"BarrelMoonModel", "takeClause", "()I"⟩, 32) := ⟨⟨by decide +kernel, by decide +kernel⟩, List.mem_of_getElem? (i := 631) (by decide +kernel), List.mem_of_getElem? (i := 752) (by decide +kernel), List.mem_of_getElem? (i := 753) (by decide +kernel)⟩
theorem lw_p26 : lw_okq (⟨"BarrelMoonModel", "fails", "(II)I"⟩, 32) := ⟨⟨by decide +kernel, by decide +kernel⟩, List.mem_of_getElem? (i := 631) (by decide +kernel), List.mem_of_getElem? (i := 756) (by decide +kernel), List.mem_of_getElem? (i := 757) (by decide +kernel)⟩
theorem lw_p27 : lw_okq (⟨"BarrelMoonModel", "takeThings", "()I"⟩, 32) := ⟨⟨by decide +kernel, by decide +kernel⟩, List.mem_of_getElem? (i := 631) (by decide +kernel), List.mem_of_getElem? (i := 760) (by decide +kernel), List.mem_of_getElem? (i := 761) (by decide +kernel)⟩
theorem lw_p28 : lw_okq (⟨"BarrelMoonModel", "takeNumber", "(II)I"⟩, 32) := ⟨⟨by decide +kernel, by decide +kernel⟩, List.mem_of_getElem? (i := 631) (by decide +kernel), List.mem_of_getElem? (i := 764) (by decide +kernel), List.mem_of_getElem? (i := 765) (by decide +kernel)⟩
theorem lw_p29 : lw_okq (⟨"BarrelMoonModel", "takeRule", "()I"⟩, 32) := ⟨⟨by decide +kernel, by decide +kernel⟩, List.mem_of_getElem? (i := 631) (by decide +kernel), List.mem_of_getElem? (i := 770) (by decide +kernel), List.mem_of_getElem? (i := 771) (by decide +kernel)⟩
theorem lw_p30 : lw_okq (⟨"BarrelMoonModel", "takeSaying", "(I)I"⟩, 32) := ⟨⟨by decide +kernel, by decide +kernel⟩, List.mem_of_getElem? (i := 631) (by decide +kernel), List.mem_of_getElem? (i := 774) (by decide +kernel), List.mem_of_getElem? (i := 775) (by decide +kernel)⟩
theorem lw_p31 : lw_okq (⟨"BarrelMoonModel", "takeSeen", "()I"⟩, 32) := ⟨⟨by decide +kernel, by decide +kernel⟩, List.mem_of_getElem? (i := 631) (by decide +kernel), List.mem_of_getElem? (i := 781) (by decide +kernel), List.mem_of_getElem? (i := 782) (by decide +kernel)⟩
def lw_privs_2 : List (MethodName × Nat) := [(⟨"BarrelMoon$Trial", "isAllowed", "(I)Z"⟩, 3), (⟨"BarrelMoon$Trial", "isPeaceWithout", "(I)Z"⟩, 3), (⟨"BarrelMoon$Trial", "leastWords", "(IIII)I"⟩, 3), (⟨"BarrelMoon$Trial", "bringTo", "(II)Z"⟩, 3), (⟨"BarrelMoon$Trial", "returnsTo", "(I)Z"⟩, 3), (⟨"BarrelMoon", "shareVotes", "(II)V"⟩, 12), (⟨"BarrelMoon", "countAnswers", "()I"⟩, 12), (⟨"BarrelMoon", "countYes", "(I)V"⟩, 12), (⟨"BarrelMoonModel", "here", "()I"⟩, 32), (⟨"BarrelMoonModel", "takeClause", "()I"⟩, 32), (⟨"BarrelMoonModel", "fails", "(II)I"⟩, 32), (⟨"BarrelMoonModel", "takeThings", "()I"⟩, 32), (⟨"BarrelMoonModel", "takeNumber", "(II)I"⟩, 32), (⟨"BarrelMoonModel", "takeRule", "()I"⟩, 32), (⟨"BarrelMoonModel", "takeSaying", "(I)I"⟩, 32), (⟨"BarrelMoonModel", "takeSeen", "()I"⟩, 32)]
theorem lw_r2 : ∀ q ∈ lw_privs_2, lw_okq q := List.forall_mem_cons.mpr ⟨lw_p16, List.forall_mem_cons.mpr ⟨lw_p17, List.forall_mem_cons.mpr ⟨lw_p18, List.forall_mem_cons.mpr ⟨lw_p19, List.forall_mem_cons.mpr ⟨lw_p20, List.forall_mem_cons.mpr ⟨lw_p21, List.forall_mem_cons.mpr ⟨lw_p22, List.forall_mem_cons.mpr ⟨lw_p23, List.forall_mem_cons.mpr ⟨lw_p24, List.forall_mem_cons.mpr ⟨lw_p25, List.forall_mem_cons.mpr ⟨lw_p26, List.forall_mem_cons.mpr ⟨lw_p27, List.forall_mem_cons.mpr ⟨lw_p28, List.forall_mem_cons.mpr ⟨lw_p29, List.forall_mem_cons.mpr ⟨lw_p30, List.forall_mem_cons.mpr ⟨lw_p31, fun _ h => absurd h List.not_mem_nil⟩⟩⟩⟩⟩⟩⟩⟩⟩⟩⟩⟩⟩⟩⟩⟩
theorem lw_p32 : lw_okq (⟨"BarrelMoonModel", "followsNow", "()I"⟩, 32) := ⟨⟨by decide +kernel, by decide +kernel⟩, List.mem_of_getElem? (i := 631) (by decide +kernel), List.mem_of_getElem? (i := 793) (by decide +kernel), List.mem_of_getElem? (i := 794) (by decide +kernel)⟩
theorem lw_p33 : lw_okq (⟨"BarrelMoonModel", "allowed", "()I"⟩, 32) := ⟨⟨by decide +kernel, by decide +kernel⟩, List.mem_of_getElem? (i := 631) (by decide +kernel), List.mem_of_getElem? (i := 797) (by decide +kernel), List.mem_of_getElem? (i := 798) (by decide +kernel)⟩
theorem lw_p34 : lw_okq (⟨"BarrelMoonModel", "close", "(II)I"⟩, 32) := ⟨⟨by decide +kernel, by decide +kernel⟩, List.mem_of_getElem? (i := 631) (by decide +kernel), List.mem_of_getElem? (i := 801) (by decide +kernel), List.mem_of_getElem? (i := 802) (by decide +kernel)⟩
theorem lw_p35 : lw_okq (⟨"BarrelMoonModel", "isRule", "(I)Z"⟩, 32) := ⟨⟨by decide +kernel, by decide +kernel⟩, List.mem_of_getElem? (i := 631) (by decide +kernel), List.mem_of_getElem? (i := 812) (by decide +kernel), List.mem_of_getElem? (i := 813) (by decide +kernel)⟩
theorem lw_p36 : lw_okq (⟨"BarrelMoonModel", "isSaying", "(I)Z"⟩, 32) := ⟨⟨by decide +kernel, by decide +kernel⟩, List.mem_of_getElem? (i := 631) (by decide +kernel), List.mem_of_getElem? (i := 821) (by decide +kernel), List.mem_of_getElem? (i := 822) (by decide +kernel)⟩
theorem lw_p37 : lw_okq (⟨"BarrelMoonModel", "remember", "()V"⟩, 32) := ⟨⟨by decide +kernel, by decide +kernel⟩, List.mem_of_getElem? (i := 631) (by decide +kernel), List.mem_of_getElem? (i := 825) (by decide +kernel), List.mem_of_getElem? (i := 826) (by decide +kernel)⟩
theorem lw_p38 : lw_okq (⟨"BarrelMoonModel", "debateNow", "()V"⟩, 32) := ⟨⟨by decide +kernel, by decide +kernel⟩, List.mem_of_getElem? (i := 631) (by decide +kernel), List.mem_of_getElem? (i := 841) (by decide +kernel), List.mem_of_getElem? (i := 842) (by decide +kernel)⟩
theorem lw_p39 : lw_okq (⟨"BarrelMoonModel", "draw", "(I)I"⟩, 32) := ⟨⟨by decide +kernel, by decide +kernel⟩, List.mem_of_getElem? (i := 631) (by decide +kernel), List.mem_of_getElem? (i := 854) (by decide +kernel), List.mem_of_getElem? (i := 855) (by decide +kernel)⟩
theorem lw_p40 : lw_okq (⟨"BarrelMoonModel", "isSet", "(I)Z"⟩, 32) := ⟨⟨by decide +kernel, by decide +kernel⟩, List.mem_of_getElem? (i := 631) (by decide +kernel), List.mem_of_getElem? (i := 873) (by decide +kernel), List.mem_of_getElem? (i := 874) (by decide +kernel)⟩
theorem lw_p41 : lw_okq (⟨"BarrelMoonModel", "costOf", "(I)I"⟩, 32) := ⟨⟨by decide +kernel, by decide +kernel⟩, List.mem_of_getElem? (i := 631) (by decide +kernel), List.mem_of_getElem? (i := 889) (by decide +kernel), List.mem_of_getElem? (i := 890) (by decide +kernel)⟩
theorem lw_p42 : lw_okq (⟨"BarrelMoonModel", "doWords", "(II)Z"⟩, 32) := ⟨⟨by decide +kernel, by decide +kernel⟩, List.mem_of_getElem? (i := 631) (by decide +kernel), List.mem_of_getElem? (i := 897) (by decide +kernel), List.mem_of_getElem? (i := 898) (by decide +kernel)⟩
theorem lw_p43 : lw_okq (⟨"BarrelMoonModel", "isBelieved", "(I)Z"⟩, 32) := ⟨⟨by decide +kernel, by decide +kernel⟩, List.mem_of_getElem? (i := 631) (by decide +kernel), List.mem_of_getElem? (i := 933) (by decide +kernel), List.mem_of_getElem? (i := 934) (by decide +kernel)⟩
def lw_privs_3 : List (MethodName × Nat) := [(⟨"BarrelMoonModel", "followsNow", "()I"⟩, 32), (⟨"BarrelMoonModel", "allowed", "()I"⟩, 32), (⟨"BarrelMoonModel", "close", "(II)I"⟩, 32), (⟨"BarrelMoonModel", "isRule", "(I)Z"⟩, 32), (⟨"BarrelMoonModel", "isSaying", "(I)Z"⟩, 32), (⟨"BarrelMoonModel", "remember", "()V"⟩, 32), (⟨"BarrelMoonModel", "debateNow", "()V"⟩, 32), (⟨"BarrelMoonModel", "draw", "(I)I"⟩, 32), (⟨"BarrelMoonModel", "isSet", "(I)Z"⟩, 32), (⟨"BarrelMoonModel", "costOf", "(I)I"⟩, 32), (⟨"BarrelMoonModel", "doWords", "(II)Z"⟩, 32), (⟨"BarrelMoonModel", "isBelieved", "(I)Z"⟩, 32)]
theorem lw_r3 : ∀ q ∈ lw_privs_3, lw_okq q := List.forall_mem_cons.mpr ⟨lw_p32, List.forall_mem_cons.mpr ⟨lw_p33, List.forall_mem_cons.mpr ⟨lw_p34, List.forall_mem_cons.mpr ⟨lw_p35, List.forall_mem_cons.mpr ⟨lw_p36, List.forall_mem_cons.mpr ⟨lw_p37, List.forall_mem_cons.mpr ⟨lw_p38, List.forall_mem_cons.mpr ⟨lw_p39, List.forall_mem_cons.mpr ⟨lw_p40, List.forall_mem_cons.mpr ⟨lw_p41, List.forall_mem_cons.mpr ⟨lw_p42, List.forall_mem_cons.mpr ⟨lw_p43, fun _ h => absurd h List.not_mem_nil⟩⟩⟩⟩⟩⟩⟩⟩⟩⟩⟩⟩
def lw_privs : List (MethodName × Nat) := lw_privs_1 ++ (lw_privs_2 ++ (lw_privs_3))
def lw_tbl : List Cond := k2_sels lw_privs ++ tables_1
theorem lw_privs_ok : ∀ q ∈ lw_privs, lw_okq q := by
  show ∀ q ∈ lw_privs_1 ++ (lw_privs_2 ++ (lw_privs_3)), lw_okq q
  exact List.forall_mem_append.mpr ⟨lw_r1, List.forall_mem_append.mpr ⟨lw_r2, lw_r3⟩⟩
/-! THE CLAIM OUT OF ONE WALK OF THE LAW'S BODY. Your part is whole_start (and what it stands on); all else here is the same for every law, but numbers. -/
def R_law : String := "BarrelMoonLaw"
def lw_P (b : Addr) (xs : List Int32) (args : Array Value) (s : State) : Prop := args = #[.ref b] ∧ s.IntsAt b xs ∧ xs.length ≤ 256 ∧ (Jvm.Cond.and given_1 narrow_1).before args s = true
def lw_Q (_ : Array Value) (s : State) (o : Outcome) (t : State) : Prop := o = .returned (some (.int 1)) ∧ Framed s o t [] 600000 7302250
def lw_Z (below : List Frame) (a : Array Value) (s : State) : State → Prop := fun t => ∃ o, t.status = .running ∧ Ended t below o ∧ lw_Q a s o t
/-- the law's own end, with 1 on the stack, nothing written that was there before, its room as the claim has it -/
theorem lw_ret {p : Program} {l : Launch} {e : Env} {s : State} {m : MethodId} {below : List Frame} {meth : Method} {c : Code} {b : Nat} (hx : p.tables.exec = Jvm.exec) (hb : c.code = code) (hr : meth.sig.returnType = ret) (hlocks : meth.locks = false) {pc : Nat} {H : Heap} {ls : Array Slot} (hdg : decode code pc = .ok (.ireturn, 1)) : W p l e room_1 s m #[Value.ref b] below meth c H [] 600000 7302250 (lw_Z below #[Value.ref b] s) (F0 m pc ls [.int 1]) := by
  intro T hT X
  obtain ⟨fs, hret, hrun, hended, hW, hframe⟩ := X.leave (v := some (.int 1)) (hlocks := hlocks) (fun h => by rw [hr] at h; cases h)
  have hmeth' : T.vm.method? m = some meth := X.method'
  refine ⟨T.setFrames fs, ?_, .returned (some (.int 1)), hrun, hended, rfl, ⟨_, rfl⟩, hW, hframe⟩
  jvm_step X.here [X.here.top, hx, hb, hdg, hmeth', hr, ret, narrow_b1]
  (try refine ⟨rfl, ?_⟩); (try refine ⟨rfl, ?_⟩)
  first | (intro acts; rw [hret _ acts rfl rfl rfl]) | rw [hret _ _ rfl rfl rfl]
  exact Steps.refl _
/-- what holds at the law's entry: the machine, the code, the tables' words (any of lw_tbl by 'hts w (by decide +kernel)'), the script of L ints xs at the cell b, what the Statement gives of the start (any of its parts by flat_of_before) -/
def lw_At (p : Program) (s : State) (m : MethodId) (meth : Method) (c : Code) (b L : Nat) (xs : Nat → Int32) : Prop :=
  p.tables.exec = Jvm.exec ∧ c.code = code ∧ meth.sig.returnType = ret ∧ c.maxLocals = 4 ∧ s.vm.findClass R_law = some m.cls ∧ (∀ w ∈ lw_tbl, w.before #[Value.ref b] s = true) ∧ va_X b L xs s s.heap ∧ b < s.heap.size ∧ meth.locks = false ∧ (Jvm.Cond.and given_1 narrow_1).before #[Value.ref b] s = true
end
section
/-! names, fields; the one table of words -/
def RX0 : String := "BarrelMoon$Book"
def TX0 : u_T := fun k => match k with
  | 0 => ("BarrelMoon$Book", "sayings", "[I", true)
  | 1 => ("BarrelMoon$Book", "follow", "[Z", true)
  | _ => ("BarrelMoon$Book", "count", "I", false)
def tyX0 : Nat → FieldType := fun k => match k with
  | 0 => .array .int
  | 1 => .array .boolean
  | _ => .int
theorem nmX0 : ∀ a, a < 3 → ∀ b, b < 3 → a ≠ b → (TX0 a).2.1 ≠ (TX0 b).2.1 := by decide +kernel
theorem tyX0_ok : ∀ k, k < 3 → parseFieldDescriptor (TX0 k).2.2.1 = some (tyX0 k) := by decide +kernel
abbrev cX0_init : ByteArray := prog_2_method_1_code
def yX0_init : MethodName := ⟨RX0, "<init>", "()V"⟩
abbrev cX0_size : ByteArray := prog_2_method_2_code
def yX0_size : MethodName := ⟨RX0, "size", "()I"⟩
abbrev cX0_clear : ByteArray := prog_2_method_3_code
def yX0_clear : MethodName := ⟨RX0, "clear", "()V"⟩
abbrev cX0_add : ByteArray := prog_2_method_4_code
def yX0_add : MethodName := ⟨RX0, "add", "(IZ)Z"⟩
abbrev cX0_firstWrong : ByteArray := prog_2_method_5_code
def yX0_firstWrong : MethodName := ⟨RX0, "firstWrong", "(I)I"⟩
def RX1 : String := "BarrelMoon$History"
def TX1 : u_T := fun k => match k with
  | 0 => ("BarrelMoon$History", "moments", "[LBarrelMoon$Moment;", true)
  | _ => ("BarrelMoon$History", "count", "I", false)
def tyX1 : Nat → FieldType := fun k => match k with
  | 0 => .array (.object "BarrelMoon$Moment")
  | _ => .int
theorem nmX1 : ∀ a, a < 2 → ∀ b, b < 2 → a ≠ b → (TX1 a).2.1 ≠ (TX1 b).2.1 := by decide +kernel
theorem tyX1_ok : ∀ k, k < 2 → parseFieldDescriptor (TX1 k).2.2.1 = some (tyX1 k) := by decide +kernel
abbrev cX1_init : ByteArray := prog_3_method_1_code
def yX1_init : MethodName := ⟨RX1, "<init>", "()V"⟩
abbrev cX1_size : ByteArray := prog_3_method_2_code
def yX1_size : MethodName := ⟨RX1, "size", "()I"⟩
abbrev cX1_clear : ByteArray := prog_3_method_3_code
def yX1_clear : MethodName := ⟨RX1, "clear", "()V"⟩
abbrev cX1_add : ByteArray := prog_3_method_4_code
def yX1_add : MethodName := ⟨RX1, "add", "(LBarrelMoon$Moment;)V"⟩
abbrev cX1_loseOldest : ByteArray := prog_3_method_5_code
def yX1_loseOldest : MethodName := ⟨RX1, "loseOldest", "()V"⟩
abbrev cX1_takeLatest : ByteArray := prog_3_method_6_code
def yX1_takeLatest : MethodName := ⟨RX1, "takeLatest", "()LBarrelMoon$Moment;"⟩
def RX2 : String := "BarrelMoon$Moment"
def TX2 : u_T := fun k => match k with
  | 0 => ("BarrelMoon$Moment", "seen", "I", true)
  | 1 => ("BarrelMoon$Moment", "held", "I", true)
  | 2 => ("BarrelMoon$Moment", "forbidden", "I", true)
  | _ => ("BarrelMoon$Moment", "debates", "I", true)
def tyX2 : Nat → FieldType := fun k => match k with
  | 0 => .int
  | 1 => .int
  | 2 => .int
  | _ => .int
theorem nmX2 : ∀ a, a < 4 → ∀ b, b < 4 → a ≠ b → (TX2 a).2.1 ≠ (TX2 b).2.1 := by decide +kernel
theorem tyX2_ok : ∀ k, k < 4 → parseFieldDescriptor (TX2 k).2.2.1 = some (tyX2 k) := by decide +kernel
abbrev cX2_init : ByteArray := prog_4_method_1_code
def yX2_init : MethodName := ⟨RX2, "<init>", "(IIII)V"⟩
def RX3 : String := "BarrelMoon$Questions"
def TX3 : u_T := fun k => match k with
  | 0 => ("BarrelMoon$Questions", "sets", "[I", true)
  | 1 => ("BarrelMoon$Questions", "sayings", "[I", true)
  | 2 => ("BarrelMoon$Questions", "concluded", "[Z", true)
  | _ => ("BarrelMoon$Questions", "count", "I", false)
def tyX3 : Nat → FieldType := fun k => match k with
  | 0 => .array .int
  | 1 => .array .int
  | 2 => .array .boolean
  | _ => .int
theorem nmX3 : ∀ a, a < 4 → ∀ b, b < 4 → a ≠ b → (TX3 a).2.1 ≠ (TX3 b).2.1 := by decide +kernel
theorem tyX3_ok : ∀ k, k < 4 → parseFieldDescriptor (TX3 k).2.2.1 = some (tyX3 k) := by decide +kernel
abbrev cX3_init : ByteArray := prog_5_method_1_code
def yX3_init : MethodName := ⟨RX3, "<init>", "()V"⟩
abbrev cX3_size : ByteArray := prog_5_method_2_code
def yX3_size : MethodName := ⟨RX3, "size", "()I"⟩
abbrev cX3_clear : ByteArray := prog_5_method_3_code
def yX3_clear : MethodName := ⟨RX3, "clear", "()V"⟩
abbrev cX3_add : ByteArray := prog_5_method_4_code
def yX3_add : MethodName := ⟨RX3, "add", "(IIZ)Z"⟩
abbrev cX3_fit : ByteArray := prog_5_method_5_code
def yX3_fit : MethodName := ⟨RX3, "fit", "(LBarrelMoon$Town;I)Z"⟩
def RX4 : String := "BarrelMoon$Town"
def TX4 : u_T := fun k => match k with
  | 0 => ("BarrelMoon$Town", "cost", "[I", true)
  | 1 => ("BarrelMoon$Town", "concludes", "[I", true)
  | 2 => ("BarrelMoon$Town", "needs", "[I", true)
  | 3 => ("BarrelMoon$Town", "things", "I", false)
  | 4 => ("BarrelMoon$Town", "rules", "I", false)
  | _ => ("BarrelMoon$Town", "seenAtFirst", "I", false)
def tyX4 : Nat → FieldType := fun k => match k with
  | 0 => .array .int
  | 1 => .array .int
  | 2 => .array .int
  | 3 => .int
  | 4 => .int
  | _ => .int
theorem nmX4 : ∀ a, a < 6 → ∀ b, b < 6 → a ≠ b → (TX4 a).2.1 ≠ (TX4 b).2.1 := by decide +kernel
theorem tyX4_ok : ∀ k, k < 6 → parseFieldDescriptor (TX4 k).2.2.1 = some (tyX4 k) := by decide +kernel
abbrev cX4_init : ByteArray := prog_6_method_1_code
def yX4_init : MethodName := ⟨RX4, "<init>", "()V"⟩
abbrev cX4_clear : ByteArray := prog_6_method_2_code
def yX4_clear : MethodName := ⟨RX4, "clear", "()V"⟩
abbrev cX4_isNone : ByteArray := prog_6_method_3_code
def yX4_isNone : MethodName := ⟨RX4, "isNone", "()Z"⟩
abbrev cX4_isFull : ByteArray := prog_6_method_4_code
def yX4_isFull : MethodName := ⟨RX4, "isFull", "()Z"⟩
abbrev cX4_addRule : ByteArray := prog_6_method_5_code
def yX4_addRule : MethodName := ⟨RX4, "addRule", "(III)V"⟩
abbrev cX4_sayings : ByteArray := prog_6_method_6_code
def yX4_sayings : MethodName := ⟨RX4, "sayings", "()I"⟩
abbrev cX4_allSayings : ByteArray := prog_6_method_7_code
def yX4_allSayings : MethodName := ⟨RX4, "allSayings", "()I"⟩
abbrev cX4_allRules : ByteArray := prog_6_method_8_code
def yX4_allRules : MethodName := ⟨RX4, "allRules", "()I"⟩
abbrev cX4_hasSaying : ByteArray := prog_6_method_9_code
def yX4_hasSaying : MethodName := ⟨RX4, "hasSaying", "(I)Z"⟩
abbrev cX4_hasSayings : ByteArray := prog_6_method_10_code
def yX4_hasSayings : MethodName := ⟨RX4, "hasSayings", "(I)Z"⟩
abbrev cX4_hasRule : ByteArray := prog_6_method_11_code
def yX4_hasRule : MethodName := ⟨RX4, "hasRule", "(I)Z"⟩
abbrev cX4_closure : ByteArray := prog_6_method_12_code
def yX4_closure : MethodName := ⟨RX4, "closure", "(II)I"⟩
abbrev cX4_quarrelsIn : ByteArray := prog_6_method_13_code
def yX4_quarrelsIn : MethodName := ⟨RX4, "quarrelsIn", "(I)I"⟩
abbrev cX4_costOf : ByteArray := prog_6_method_14_code
def yX4_costOf : MethodName := ⟨RX4, "costOf", "(I)I"⟩
abbrev cX4_concludedBy : ByteArray := prog_6_method_15_code
def yX4_concludedBy : MethodName := ⟨RX4, "concludedBy", "(I)I"⟩
def RX5 : String := "BarrelMoon$TownReader"
def TX5 : u_T := fun k => match k with
  | 0 => ("BarrelMoon$TownReader", "letters", "[I", true)
  | 1 => ("BarrelMoon$TownReader", "length", "I", false)
  | 2 => ("BarrelMoon$TownReader", "at", "I", false)
  | 3 => ("BarrelMoon$TownReader", "numberAt", "I", false)
  | 4 => ("BarrelMoon$TownReader", "faultKind", "I", false)
  | _ => ("BarrelMoon$TownReader", "faultAt", "I", false)
def tyX5 : Nat → FieldType := fun k => match k with
  | 0 => .array .int
  | 1 => .int
  | 2 => .int
  | 3 => .int
  | 4 => .int
  | _ => .int
theorem nmX5 : ∀ a, a < 6 → ∀ b, b < 6 → a ≠ b → (TX5 a).2.1 ≠ (TX5 b).2.1 := by decide +kernel
theorem tyX5_ok : ∀ k, k < 6 → parseFieldDescriptor (TX5 k).2.2.1 = some (tyX5 k) := by decide +kernel
abbrev cX5_init : ByteArray := prog_7_method_1_code
def yX5_init : MethodName := ⟨RX5, "<init>", "()V"⟩
abbrev cX5_append : ByteArray := prog_7_method_2_code
def yX5_append : MethodName := ⟨RX5, "append", "(I)Z"⟩
abbrev cX5_length : ByteArray := prog_7_method_3_code
def yX5_length : MethodName := ⟨RX5, "length", "()I"⟩
abbrev cX5_forgetText : ByteArray := prog_7_method_4_code
def yX5_forgetText : MethodName := ⟨RX5, "forgetText", "()V"⟩
abbrev cX5_faultKind : ByteArray := prog_7_method_5_code
def yX5_faultKind : MethodName := ⟨RX5, "faultKind", "()I"⟩
abbrev cX5_faultAt : ByteArray := prog_7_method_6_code
def yX5_faultAt : MethodName := ⟨RX5, "faultAt", "()I"⟩
abbrev cX5_readInto : ByteArray := prog_7_method_7_code
def yX5_readInto : MethodName := ⟨RX5, "readInto", "(LBarrelMoon$Town;)V"⟩
abbrev cX5_readThings : ByteArray := prog_7_method_8_code
def yX5_readThings : MethodName := ⟨RX5, "readThings", "(LBarrelMoon$Town;)V"⟩
abbrev cX5_readClause : ByteArray := prog_7_method_9_code
def yX5_readClause : MethodName := ⟨RX5, "readClause", "(LBarrelMoon$Town;)V"⟩
abbrev cX5_readRule : ByteArray := prog_7_method_10_code
def yX5_readRule : MethodName := ⟨RX5, "readRule", "(LBarrelMoon$Town;)V"⟩
abbrev cX5_readPremises : ByteArray := prog_7_method_11_code
def yX5_readPremises : MethodName := ⟨RX5, "readPremises", "(LBarrelMoon$Town;I)I"⟩
abbrev cX5_readSeen : ByteArray := prog_7_method_12_code
def yX5_readSeen : MethodName := ⟨RX5, "readSeen", "(LBarrelMoon$Town;)V"⟩
abbrev cX5_number : ByteArray := prog_7_method_13_code
def yX5_number : MethodName := ⟨RX5, "number", "(II)I"⟩
abbrev cX5_isFigure : ByteArray := prog_7_method_14_code
def yX5_isFigure : MethodName := ⟨RX5, "isFigure", "(I)Z"⟩
abbrev cX5_take : ByteArray := prog_7_method_15_code
def yX5_take : MethodName := ⟨RX5, "take", "(I)Z"⟩
abbrev cX5_peek : ByteArray := prog_7_method_16_code
def yX5_peek : MethodName := ⟨RX5, "peek", "()I"⟩
abbrev cX5_stop : ByteArray := prog_7_method_17_code
def yX5_stop : MethodName := ⟨RX5, "stop", "(II)V"⟩
def RX6 : String := "BarrelMoon$Trial"
def TX6 : u_T := fun k => match k with
  | 0 => ("BarrelMoon$Trial", "town", "LBarrelMoon$Town;", true)
  | 1 => ("BarrelMoon$Trial", "seen", "I", true)
  | _ => ("BarrelMoon$Trial", "allowed", "I", true)
def tyX6 : Nat → FieldType := fun k => match k with
  | 0 => .object "BarrelMoon$Town"
  | 1 => .int
  | _ => .int
theorem nmX6 : ∀ a, a < 3 → ∀ b, b < 3 → a ≠ b → (TX6 a).2.1 ≠ (TX6 b).2.1 := by decide +kernel
theorem tyX6_ok : ∀ k, k < 3 → parseFieldDescriptor (TX6 k).2.2.1 = some (tyX6 k) := by decide +kernel
abbrev cX6_init : ByteArray := prog_8_method_1_code
def yX6_init : MethodName := ⟨RX6, "<init>", "(LBarrelMoon$Town;II)V"⟩
abbrev cX6_conclusions : ByteArray := prog_8_method_2_code
def yX6_conclusions : MethodName := ⟨RX6, "conclusions", "()I"⟩
abbrev cX6_concludesBy : ByteArray := prog_8_method_3_code
def yX6_concludesBy : MethodName := ⟨RX6, "concludesBy", "(II)Z"⟩
abbrev cX6_leastProof : ByteArray := prog_8_method_4_code
def yX6_leastProof : MethodName := ⟨RX6, "leastProof", "(I)I"⟩
abbrev cX6_cheapestPeace : ByteArray := prog_8_method_5_code
def yX6_cheapestPeace : MethodName := ⟨RX6, "cheapestPeace", "()I"⟩
abbrev cX6_isPeaceWithout : ByteArray := prog_8_method_6_code
def yX6_isPeaceWithout : MethodName := ⟨RX6, "isPeaceWithout", "(I)Z"⟩
abbrev cX6_fewestWords : ByteArray := prog_8_method_7_code
def yX6_fewestWords : MethodName := ⟨RX6, "fewestWords", "(I)I"⟩
abbrev cX6_leastWords : ByteArray := prog_8_method_8_code
def yX6_leastWords : MethodName := ⟨RX6, "leastWords", "(IIII)I"⟩
abbrev cX6_bringTo : ByteArray := prog_8_method_9_code
def yX6_bringTo : MethodName := ⟨RX6, "bringTo", "(II)Z"⟩
abbrev cX6_neededRules : ByteArray := prog_8_method_10_code
def yX6_neededRules : MethodName := ⟨RX6, "neededRules", "(I)I"⟩
abbrev cX6_fewestBars : ByteArray := prog_8_method_11_code
def yX6_fewestBars : MethodName := ⟨RX6, "fewestBars", "(I)I"⟩
abbrev cX6_circles : ByteArray := prog_8_method_12_code
def yX6_circles : MethodName := ⟨RX6, "circles", "()I"⟩
abbrev cX6_returnsTo : ByteArray := prog_8_method_13_code
def yX6_returnsTo : MethodName := ⟨RX6, "returnsTo", "(I)Z"⟩
abbrev cX6_isAllowed : ByteArray := prog_8_method_14_code
def yX6_isAllowed : MethodName := ⟨RX6, "isAllowed", "(I)Z"⟩
def RX7 : String := "BarrelMoon"
def TX7 : u_T := fun k => match k with
  | 0 => ("BarrelMoon", "reader", "LBarrelMoon$TownReader;", true)
  | 1 => ("BarrelMoon", "history", "LBarrelMoon$History;", true)
  | 2 => ("BarrelMoon", "questions", "LBarrelMoon$Questions;", true)
  | 3 => ("BarrelMoon", "book", "LBarrelMoon$Book;", true)
  | 4 => ("BarrelMoon", "images", "[LBarrelMoon$Moment;", true)
  | 5 => ("BarrelMoon", "imageSeeds", "[I", true)
  | 6 => ("BarrelMoon", "voteParts", "[J", true)
  | 7 => ("BarrelMoon", "yesCounts", "[I", true)
  | 8 => ("BarrelMoon", "theTown", "LBarrelMoon$Town;", false)
  | 9 => ("BarrelMoon", "draft", "LBarrelMoon$Town;", false)
  | 10 => ("BarrelMoon", "now", "LBarrelMoon$Moment;", false)
  | _ => ("BarrelMoon", "theSeed", "I", false)
def tyX7 : Nat → FieldType := fun k => match k with
  | 0 => .object "BarrelMoon$TownReader"
  | 1 => .object "BarrelMoon$History"
  | 2 => .object "BarrelMoon$Questions"
  | 3 => .object "BarrelMoon$Book"
  | 4 => .array (.object "BarrelMoon$Moment")
  | 5 => .array .int
  | 6 => .array .long
  | 7 => .array .int
  | 8 => .object "BarrelMoon$Town"
  | 9 => .object "BarrelMoon$Town"
  | 10 => .object "BarrelMoon$Moment"
  | _ => .int
theorem nmX7 : ∀ a, a < 12 → ∀ b, b < 12 → a ≠ b → (TX7 a).2.1 ≠ (TX7 b).2.1 := by decide +kernel
theorem tyX7_ok : ∀ k, k < 12 → parseFieldDescriptor (TX7 k).2.2.1 = some (tyX7 k) := by decide +kernel
abbrev cX7_init : ByteArray := prog_1_method_1_code
def yX7_init : MethodName := ⟨RX7, "<init>", "()V"⟩
abbrev cX7_feed : ByteArray := prog_1_method_2_code
def yX7_feed : MethodName := ⟨RX7, "feed", "(I)I"⟩
abbrev cX7_town : ByteArray := prog_1_method_3_code
def yX7_town : MethodName := ⟨RX7, "town", "()I"⟩
abbrev cX7_beginAnew : ByteArray := prog_1_method_4_code
def yX7_beginAnew : MethodName := ⟨RX7, "beginAnew", "()V"⟩
abbrev cX7_fault : ByteArray := prog_1_method_5_code
def yX7_fault : MethodName := ⟨RX7, "fault", "()I"⟩
abbrev cX7_told : ByteArray := prog_1_method_6_code
def yX7_told : MethodName := ⟨RX7, "told", "(I)I"⟩
abbrev cX7_rule : ByteArray := prog_1_method_7_code
def yX7_rule : MethodName := ⟨RX7, "rule", "(II)I"⟩
abbrev cX7_see : ByteArray := prog_1_method_8_code
def yX7_see : MethodName := ⟨RX7, "see", "(IZ)I"⟩
abbrev cX7_forbid : ByteArray := prog_1_method_9_code
def yX7_forbid : MethodName := ⟨RX7, "forbid", "(IZ)I"⟩
abbrev cX7_debate : ByteArray := prog_1_method_10_code
def yX7_debate : MethodName := ⟨RX7, "debate", "()I"⟩
abbrev cX7_drop : ByteArray := prog_1_method_11_code
def yX7_drop : MethodName := ⟨RX7, "drop", "()I"⟩
abbrev cX7_drift : ByteArray := prog_1_method_12_code
def yX7_drift : MethodName := ⟨RX7, "drift", "(I)I"⟩
abbrev cX7_undo : ByteArray := prog_1_method_13_code
def yX7_undo : MethodName := ⟨RX7, "undo", "()I"⟩
abbrev cX7_change : ByteArray := prog_1_method_14_code
def yX7_change : MethodName := ⟨RX7, "change", "(LBarrelMoon$Moment;)V"⟩
abbrev cX7_follows : ByteArray := prog_1_method_15_code
def yX7_follows : MethodName := ⟨RX7, "follows", "(I)I"⟩
abbrev cX7_proof : ByteArray := prog_1_method_16_code
def yX7_proof : MethodName := ⟨RX7, "proof", "(II)I"⟩
abbrev cX7_giveUp : ByteArray := prog_1_method_17_code
def yX7_giveUp : MethodName := ⟨RX7, "giveUp", "(I)I"⟩
abbrev cX7_words : ByteArray := prog_1_method_18_code
def yX7_words : MethodName := ⟨RX7, "words", "(I)I"⟩
abbrev cX7_step : ByteArray := prog_1_method_19_code
def yX7_step : MethodName := ⟨RX7, "step", "(I)I"⟩
abbrev cX7_barred : ByteArray := prog_1_method_20_code
def yX7_barred : MethodName := ⟨RX7, "barred", "(I)I"⟩
abbrev cX7_never : ByteArray := prog_1_method_21_code
def yX7_never : MethodName := ⟨RX7, "never", "()I"⟩
abbrev cX7_round : ByteArray := prog_1_method_22_code
def yX7_round : MethodName := ⟨RX7, "round", "()I"⟩
abbrev cX7_vote : ByteArray := prog_1_method_23_code
def yX7_vote : MethodName := ⟨RX7, "vote", "(II)I"⟩
abbrev cX7_shareVotes : ByteArray := prog_1_method_24_code
def yX7_shareVotes : MethodName := ⟨RX7, "shareVotes", "(II)V"⟩
abbrev cX7_ask : ByteArray := prog_1_method_25_code
def yX7_ask : MethodName := ⟨RX7, "ask", "(IIZ)I"⟩
abbrev cX7_believed : ByteArray := prog_1_method_26_code
def yX7_believed : MethodName := ⟨RX7, "believed", "(I)I"⟩
abbrev cX7_askNext : ByteArray := prog_1_method_27_code
def yX7_askNext : MethodName := ⟨RX7, "askNext", "()I"⟩
abbrev cX7_countAnswers : ByteArray := prog_1_method_28_code
def yX7_countAnswers : MethodName := ⟨RX7, "countAnswers", "()I"⟩
abbrev cX7_countYes : ByteArray := prog_1_method_29_code
def yX7_countYes : MethodName := ⟨RX7, "countYes", "(I)V"⟩
abbrev cX7_write : ByteArray := prog_1_method_30_code
def yX7_write : MethodName := ⟨RX7, "write", "(II)I"⟩
abbrev cX7_tear : ByteArray := prog_1_method_31_code
def yX7_tear : MethodName := ⟨RX7, "tear", "()I"⟩
abbrev cX7_judge : ByteArray := prog_1_method_32_code
def yX7_judge : MethodName := ⟨RX7, "judge", "()I"⟩
abbrev cX7_seed : ByteArray := prog_1_method_33_code
def yX7_seed : MethodName := ⟨RX7, "seed", "(I)I"⟩
abbrev cX7_keep : ByteArray := prog_1_method_34_code
def yX7_keep : MethodName := ⟨RX7, "keep", "(I)I"⟩
abbrev cX7_goBack : ByteArray := prog_1_method_35_code
def yX7_goBack : MethodName := ⟨RX7, "goBack", "(I)I"⟩
abbrev cX7_draw : ByteArray := prog_1_method_36_code
def yX7_draw : MethodName := ⟨RX7, "draw", "(I)I"⟩
abbrev cX7_rulesGoneBy : ByteArray := prog_1_method_37_code
def yX7_rulesGoneBy : MethodName := ⟨RX7, "rulesGoneBy", "()I"⟩
abbrev cX7_trialNow : ByteArray := prog_1_method_38_code
def yX7_trialNow : MethodName := ⟨RX7, "trialNow", "()LBarrelMoon$Trial;"⟩
abbrev cX7_has : ByteArray := prog_1_method_39_code
def yX7_has : MethodName := ⟨RX7, "has", "(II)Z"⟩
abbrev cX7_put : ByteArray := prog_1_method_40_code
def yX7_put : MethodName := ⟨RX7, "put", "(IIZ)I"⟩
abbrev cX7_denialOf : ByteArray := prog_1_method_41_code
def yX7_denialOf : MethodName := ⟨RX7, "denialOf", "(I)I"⟩
def RX8 : String := "BarrelMoonModel"
def TX8 : u_T := fun k => match k with
  | 0 => ("BarrelMoonModel", "things", "I", false)
  | 1 => ("BarrelMoonModel", "rules", "I", false)
  | 2 => ("BarrelMoonModel", "cost", "[I", true)
  | 3 => ("BarrelMoonModel", "concludes", "[I", true)
  | 4 => ("BarrelMoonModel", "needs", "[I", true)
  | 5 => ("BarrelMoonModel", "now", "[I", true)
  | 6 => ("BarrelMoonModel", "seed", "I", false)
  | 7 => ("BarrelMoonModel", "text", "[I", true)
  | 8 => ("BarrelMoonModel", "texted", "I", false)
  | 9 => ("BarrelMoonModel", "faultPlace", "I", false)
  | 10 => ("BarrelMoonModel", "at0", "I", false)
  | 11 => ("BarrelMoonModel", "number", "I", false)
  | 12 => ("BarrelMoonModel", "numberAt", "I", false)
  | 13 => ("BarrelMoonModel", "readThings", "I", false)
  | 14 => ("BarrelMoonModel", "readRules", "I", false)
  | 15 => ("BarrelMoonModel", "readCost", "[I", true)
  | 16 => ("BarrelMoonModel", "readConcludes", "[I", true)
  | 17 => ("BarrelMoonModel", "readNeeds", "[I", true)
  | 18 => ("BarrelMoonModel", "readSeen", "I", false)
  | 19 => ("BarrelMoonModel", "undos", "I", false)
  | 20 => ("BarrelMoonModel", "past", "[I", true)
  | 21 => ("BarrelMoonModel", "parts", "[J", true)
  | 22 => ("BarrelMoonModel", "asked", "I", false)
  | 23 => ("BarrelMoonModel", "askedFrom", "[I", true)
  | 24 => ("BarrelMoonModel", "askedWhat", "[I", true)
  | 25 => ("BarrelMoonModel", "askedIs", "[Z", true)
  | 26 => ("BarrelMoonModel", "answers", "[I", true)
  | 27 => ("BarrelMoonModel", "booked", "I", false)
  | 28 => ("BarrelMoonModel", "bookWhat", "[I", true)
  | 29 => ("BarrelMoonModel", "bookIs", "[I", true)
  | 30 => ("BarrelMoonModel", "images", "[I", true)
  | _ => ("BarrelMoonModel", "isKept", "[Z", true)
def tyX8 : Nat → FieldType := fun k => match k with
  | 0 => .int
  | 1 => .int
  | 2 => .array .int
  | 3 => .array .int
  | 4 => .array .int
  | 5 => .array .int
  | 6 => .int
  | 7 => .array .int
  | 8 => .int
  | 9 => .int
  | 10 => .int
  | 11 => .int
  | 12 => .int
  | 13 => .int
  | 14 => .int
  | 15 => .array .int
  | 16 => .array .int
  | 17 => .array .int
  | 18 => .int
  | 19 => .int
  | 20 => .array .int
  | 21 => .array .long
  | 22 => .int
  | 23 => .array .int
  | 24 => .array .int
  | 25 => .array .boolean
  | 26 => .array .int
  | 27 => .int
  | 28 => .array .int
  | 29 => .array .int
  | 30 => .array .int
  | _ => .array .boolean
theorem nmX8 : ∀ a, a < 32 → ∀ b, b < 32 → a ≠ b → (TX8 a).2.1 ≠ (TX8 b).2.1 := by decide +kernel
theorem tyX8_ok : ∀ k, k < 32 → parseFieldDescriptor (TX8 k).2.2.1 = some (tyX8 k) := by decide +kernel
abbrev cX8_init : ByteArray := prog_10_method_1_code
def yX8_init : MethodName := ⟨RX8, "<init>", "()V"⟩
abbrev cX8_in : ByteArray := prog_10_method_3_code
def yX8_in : MethodName := ⟨RX8, "in", "(JJJ)Z"⟩
abbrev cX8_has : ByteArray := prog_10_method_4_code
def yX8_has : MethodName := ⟨RX8, "has", "(II)Z"⟩
abbrev cX8_bits : ByteArray := prog_10_method_5_code
def yX8_bits : MethodName := ⟨RX8, "bits", "(I)I"⟩
abbrev cX8_isSaying : ByteArray := prog_10_method_6_code
def yX8_isSaying : MethodName := ⟨RX8, "isSaying", "(I)Z"⟩
abbrev cX8_isSet : ByteArray := prog_10_method_7_code
def yX8_isSet : MethodName := ⟨RX8, "isSet", "(I)Z"⟩
abbrev cX8_isRule : ByteArray := prog_10_method_8_code
def yX8_isRule : MethodName := ⟨RX8, "isRule", "(I)Z"⟩
abbrev cX8_denial : ByteArray := prog_10_method_9_code
def yX8_denial : MethodName := ⟨RX8, "denial", "(I)I"⟩
abbrev cX8_feed : ByteArray := prog_10_method_10_code
def yX8_feed : MethodName := ⟨RX8, "feed", "(I)I"⟩
abbrev cX8_here : ByteArray := prog_10_method_11_code
def yX8_here : MethodName := ⟨RX8, "here", "()I"⟩
abbrev cX8_fails : ByteArray := prog_10_method_12_code
def yX8_fails : MethodName := ⟨RX8, "fails", "(II)I"⟩
abbrev cX8_takeNumber : ByteArray := prog_10_method_13_code
def yX8_takeNumber : MethodName := ⟨RX8, "takeNumber", "(II)I"⟩
abbrev cX8_takeThings : ByteArray := prog_10_method_14_code
def yX8_takeThings : MethodName := ⟨RX8, "takeThings", "()I"⟩
abbrev cX8_takeSaying : ByteArray := prog_10_method_15_code
def yX8_takeSaying : MethodName := ⟨RX8, "takeSaying", "(I)I"⟩
abbrev cX8_takeRule : ByteArray := prog_10_method_16_code
def yX8_takeRule : MethodName := ⟨RX8, "takeRule", "()I"⟩
abbrev cX8_takeSeen : ByteArray := prog_10_method_17_code
def yX8_takeSeen : MethodName := ⟨RX8, "takeSeen", "()I"⟩
abbrev cX8_takeClause : ByteArray := prog_10_method_18_code
def yX8_takeClause : MethodName := ⟨RX8, "takeClause", "()I"⟩
abbrev cX8_town : ByteArray := prog_10_method_19_code
def yX8_town : MethodName := ⟨RX8, "town", "()I"⟩
abbrev cX8_fault : ByteArray := prog_10_method_20_code
def yX8_fault : MethodName := ⟨RX8, "fault", "()I"⟩
abbrev cX8_close : ByteArray := prog_10_method_21_code
def yX8_close : MethodName := ⟨RX8, "close", "(II)I"⟩
abbrev cX8_allowed : ByteArray := prog_10_method_22_code
def yX8_allowed : MethodName := ⟨RX8, "allowed", "()I"⟩
abbrev cX8_followsNow : ByteArray := prog_10_method_23_code
def yX8_followsNow : MethodName := ⟨RX8, "followsNow", "()I"⟩
abbrev cX8_quarrels : ByteArray := prog_10_method_24_code
def yX8_quarrels : MethodName := ⟨RX8, "quarrels", "(I)I"⟩
abbrev cX8_told : ByteArray := prog_10_method_25_code
def yX8_told : MethodName := ⟨RX8, "told", "(I)I"⟩
abbrev cX8_rule : ByteArray := prog_10_method_26_code
def yX8_rule : MethodName := ⟨RX8, "rule", "(II)I"⟩
abbrev cX8_remember : ByteArray := prog_10_method_27_code
def yX8_remember : MethodName := ⟨RX8, "remember", "()V"⟩
abbrev cX8_with : ByteArray := prog_10_method_28_code
def yX8_with : MethodName := ⟨RX8, "with", "(IIZ)I"⟩
abbrev cX8_see : ByteArray := prog_10_method_29_code
def yX8_see : MethodName := ⟨RX8, "see", "(IZ)I"⟩
abbrev cX8_forbid : ByteArray := prog_10_method_30_code
def yX8_forbid : MethodName := ⟨RX8, "forbid", "(IZ)I"⟩
abbrev cX8_debateNow : ByteArray := prog_10_method_31_code
def yX8_debateNow : MethodName := ⟨RX8, "debateNow", "()V"⟩
abbrev cX8_debate : ByteArray := prog_10_method_32_code
def yX8_debate : MethodName := ⟨RX8, "debate", "()I"⟩
abbrev cX8_drop : ByteArray := prog_10_method_33_code
def yX8_drop : MethodName := ⟨RX8, "drop", "()I"⟩
abbrev cX8_draw : ByteArray := prog_10_method_34_code
def yX8_draw : MethodName := ⟨RX8, "draw", "(I)I"⟩
abbrev cX8_drift : ByteArray := prog_10_method_35_code
def yX8_drift : MethodName := ⟨RX8, "drift", "(I)I"⟩
abbrev cX8_undo : ByteArray := prog_10_method_36_code
def yX8_undo : MethodName := ⟨RX8, "undo", "()I"⟩
abbrev cX8_follows : ByteArray := prog_10_method_37_code
def yX8_follows : MethodName := ⟨RX8, "follows", "(I)I"⟩
abbrev cX8_proof : ByteArray := prog_10_method_38_code
def yX8_proof : MethodName := ⟨RX8, "proof", "(II)I"⟩
abbrev cX8_costOf : ByteArray := prog_10_method_39_code
def yX8_costOf : MethodName := ⟨RX8, "costOf", "(I)I"⟩
abbrev cX8_giveUp : ByteArray := prog_10_method_40_code
def yX8_giveUp : MethodName := ⟨RX8, "giveUp", "(I)I"⟩
abbrev cX8_doWords : ByteArray := prog_10_method_41_code
def yX8_doWords : MethodName := ⟨RX8, "doWords", "(II)Z"⟩
abbrev cX8_words : ByteArray := prog_10_method_42_code
def yX8_words : MethodName := ⟨RX8, "words", "(I)I"⟩
abbrev cX8_step : ByteArray := prog_10_method_43_code
def yX8_step : MethodName := ⟨RX8, "step", "(I)I"⟩
abbrev cX8_barred : ByteArray := prog_10_method_44_code
def yX8_barred : MethodName := ⟨RX8, "barred", "(I)I"⟩
abbrev cX8_never : ByteArray := prog_10_method_45_code
def yX8_never : MethodName := ⟨RX8, "never", "()I"⟩
abbrev cX8_round : ByteArray := prog_10_method_46_code
def yX8_round : MethodName := ⟨RX8, "round", "()I"⟩
abbrev cX8_vote : ByteArray := prog_10_method_47_code
def yX8_vote : MethodName := ⟨RX8, "vote", "(II)I"⟩
abbrev cX8_ask : ByteArray := prog_10_method_48_code
def yX8_ask : MethodName := ⟨RX8, "ask", "(IIZ)I"⟩
abbrev cX8_isBelieved : ByteArray := prog_10_method_49_code
def yX8_isBelieved : MethodName := ⟨RX8, "isBelieved", "(I)Z"⟩
abbrev cX8_believed : ByteArray := prog_10_method_50_code
def yX8_believed : MethodName := ⟨RX8, "believed", "(I)I"⟩
abbrev cX8_askNext : ByteArray := prog_10_method_51_code
def yX8_askNext : MethodName := ⟨RX8, "askNext", "()I"⟩
abbrev cX8_write : ByteArray := prog_10_method_52_code
def yX8_write : MethodName := ⟨RX8, "write", "(II)I"⟩
abbrev cX8_tear : ByteArray := prog_10_method_53_code
def yX8_tear : MethodName := ⟨RX8, "tear", "()I"⟩
abbrev cX8_judge : ByteArray := prog_10_method_54_code
def yX8_judge : MethodName := ⟨RX8, "judge", "()I"⟩
abbrev cX8_seed : ByteArray := prog_10_method_55_code
def yX8_seed : MethodName := ⟨RX8, "seed", "(I)I"⟩
abbrev cX8_keep : ByteArray := prog_10_method_56_code
def yX8_keep : MethodName := ⟨RX8, "keep", "(I)I"⟩
abbrev cX8_goBack : ByteArray := prog_10_method_57_code
def yX8_goBack : MethodName := ⟨RX8, "goBack", "(I)I"⟩
def RJ6 : String := "java/lang/Integer"
def TJ6 : u_T := fun k => match k with
  | _ => ("", "", "", false)
def tyJ6 : Nat → FieldType := fun k => match k with
  | _ => .int
theorem nmJ6 : ∀ a, a < 0 → ∀ b, b < 0 → a ≠ b → (TJ6 a).2.1 ≠ (TJ6 b).2.1 := by decide +kernel
theorem tyJ6_ok : ∀ k, k < 0 → parseFieldDescriptor (TJ6 k).2.2.1 = some (tyJ6 k) := by decide +kernel
abbrev cJ6_bitCount_0f7a4 : ByteArray := prog_11_method_49_code
def yJ6_bitCount_0f7a4 : MethodName := ⟨RJ6, "bitCount", "(I)I"⟩
def RJ9 : String := "java/lang/Math"
def TJ9 : u_T := fun k => match k with
  | _ => ("", "", "", false)
def tyJ9 : Nat → FieldType := fun k => match k with
  | _ => .int
theorem nmJ9 : ∀ a, a < 0 → ∀ b, b < 0 → a ≠ b → (TJ9 a).2.1 ≠ (TJ9 b).2.1 := by decide +kernel
theorem tyJ9_ok : ∀ k, k < 0 → parseFieldDescriptor (TJ9 k).2.2.1 = some (tyJ9 k) := by decide +kernel
abbrev cJ9_max_7cf53 : ByteArray := prog_12_method_65_code
def yJ9_max_7cf53 : MethodName := ⟨RJ9, "max", "(II)I"⟩
abbrev cJ9_min_7cf53 : ByteArray := prog_12_method_69_code
def yJ9_min_7cf53 : MethodName := ⟨RJ9, "min", "(II)I"⟩
def RL : String := "BarrelMoonLaw"
abbrev cL_law : ByteArray := code
def yL_law : MethodName := ⟨RL, "law", "([I)Z"⟩
def UT : List Cond := lw_tbl.filter goodWord
theorem ut {w : Cond} {i : Nat} (h : lw_tbl[i]? = some w) (g : goodWord w = true) : w ∈ UT := List.mem_filter.mpr ⟨List.mem_of_getElem? h, g⟩
theorem ut_good : GoodIn UT UT := fun w h => ⟨h, good_of_word (List.mem_filter.mp h).2⟩
theorem in_L : Cond.initialized RL ∈ UT := ut (i := 44) (by decide +kernel) rfl
theorem in_X7 : Cond.initialized RX7 ∈ UT := ut (i := 45) (by decide +kernel) rfl
theorem in_X5 : Cond.initialized RX5 ∈ UT := ut (i := 46) (by decide +kernel) rfl
theorem in_X1 : Cond.initialized RX1 ∈ UT := ut (i := 47) (by decide +kernel) rfl
theorem in_X3 : Cond.initialized RX3 ∈ UT := ut (i := 48) (by decide +kernel) rfl
theorem in_X0 : Cond.initialized RX0 ∈ UT := ut (i := 49) (by decide +kernel) rfl
theorem in_X4 : Cond.initialized RX4 ∈ UT := ut (i := 50) (by decide +kernel) rfl
theorem in_X2 : Cond.initialized RX2 ∈ UT := ut (i := 51) (by decide +kernel) rfl
theorem in_X8 : Cond.initialized RX8 ∈ UT := ut (i := 52) (by decide +kernel) rfl
theorem in_J9 : Cond.initialized RJ9 ∈ UT := ut (i := 53) (by decide +kernel) rfl
theorem in_X6 : Cond.initialized RX6 ∈ UT := ut (i := 54) (by decide +kernel) rfl
theorem in_J6 : Cond.initialized RJ6 ∈ UT := ut (i := 55) (by decide +kernel) rfl
theorem cl_L_7 : Cond.classLink RL 7 RX7 ∈ UT := ut (i := 56) (by decide +kernel) rfl
theorem ic_X7 : Cond.instantiable RX7 12 ∈ UT := ut (i := 57) (by decide +kernel) rfl
theorem ml_L_9 : Cond.methodLink RL 9 yX7_init ∈ UT := ut (i := 58) (by decide +kernel) rfl
theorem im_yX7_init : Cond.instanceMethod yX7_init ∈ UT := ut (i := 59) (by decide +kernel) rfl
theorem co_yX7_init : Cond.code yX7_init cX7_init 1 none ∈ UT := ut (i := 60) (by decide +kernel) rfl
theorem ml_X7_3 : Cond.methodLink RX7 3 objectInit ∈ UT := ut (i := 61) (by decide +kernel) rfl
theorem im_objectInit : Cond.instanceMethod objectInit ∈ UT := ut (i := 62) (by decide +kernel) rfl
theorem co_objectInit : Cond.code objectInit ⟨#[0xb1]⟩ 1 none ∈ UT := ut (i := 63) (by decide +kernel) rfl
theorem cl_X7_9 : Cond.classLink RX7 9 RX5 ∈ UT := ut (i := 64) (by decide +kernel) rfl
theorem ic_X5 : Cond.instantiable RX5 6 ∈ UT := ut (i := 65) (by decide +kernel) rfl
theorem im_yX5_init : Cond.instanceMethod yX5_init ∈ UT := ut (i := 67) (by decide +kernel) rfl
theorem co_yX5_init : Cond.code yX5_init cX5_init 1 none ∈ UT := ut (i := 68) (by decide +kernel) rfl
theorem ml_X5_3 : Cond.methodLink RX5 3 objectInit ∈ UT := ut (i := 69) (by decide +kernel) rfl
theorem fl_X5_9 : Cond.fieldLink RX5 9 (TX5 0).1 (TX5 0).2.1 (TX5 0).2.2.1 ∈ UT := ut (i := 70) (by decide +kernel) rfl
theorem fl_X5_15 : Cond.fieldLink RX5 15 (TX5 1).1 (TX5 1).2.1 (TX5 1).2.2.1 ∈ UT := ut (i := 71) (by decide +kernel) rfl
theorem fl_X5_19 : Cond.fieldLink RX5 19 (TX5 2).1 (TX5 2).2.1 (TX5 2).2.2.1 ∈ UT := ut (i := 72) (by decide +kernel) rfl
theorem fl_X5_22 : Cond.fieldLink RX5 22 (TX5 3).1 (TX5 3).2.1 (TX5 3).2.2.1 ∈ UT := ut (i := 73) (by decide +kernel) rfl
theorem fl_X5_25 : Cond.fieldLink RX5 25 (TX5 4).1 (TX5 4).2.1 (TX5 4).2.2.1 ∈ UT := ut (i := 74) (by decide +kernel) rfl
theorem fl_X5_28 : Cond.fieldLink RX5 28 (TX5 5).1 (TX5 5).2.1 (TX5 5).2.2.1 ∈ UT := ut (i := 75) (by decide +kernel) rfl
theorem ac_int : Cond.arrayClass .int ∈ UT := ut (i := 89) (by decide +kernel) rfl
theorem cl_X7_16 : Cond.classLink RX7 16 RX1 ∈ UT := ut (i := 90) (by decide +kernel) rfl
theorem ic_X1 : Cond.instantiable RX1 2 ∈ UT := ut (i := 91) (by decide +kernel) rfl
theorem im_yX1_init : Cond.instanceMethod yX1_init ∈ UT := ut (i := 93) (by decide +kernel) rfl
theorem co_yX1_init : Cond.code yX1_init cX1_init 1 none ∈ UT := ut (i := 94) (by decide +kernel) rfl
theorem ml_X1_3 : Cond.methodLink RX1 3 objectInit ∈ UT := ut (i := 95) (by decide +kernel) rfl
theorem cl_X1_9 : Cond.classLink RX1 9 RX2 ∈ UT := ut (i := 96) (by decide +kernel) rfl
theorem ao_word : Cond.arrayOver (.object RX2) ∈ lw_tbl := List.mem_of_getElem? (i := 97) (by decide +kernel)
theorem fl_X1_11 : Cond.fieldLink RX1 11 (TX1 0).1 (TX1 0).2.1 (TX1 0).2.2.1 ∈ UT := ut (i := 98) (by decide +kernel) rfl
theorem fl_X1_17 : Cond.fieldLink RX1 17 (TX1 1).1 (TX1 1).2.1 (TX1 1).2.2.1 ∈ UT := ut (i := 99) (by decide +kernel) rfl
theorem cl_X7_23 : Cond.classLink RX7 23 RX3 ∈ UT := ut (i := 105) (by decide +kernel) rfl
theorem ic_X3 : Cond.instantiable RX3 4 ∈ UT := ut (i := 106) (by decide +kernel) rfl
theorem im_yX3_init : Cond.instanceMethod yX3_init ∈ UT := ut (i := 108) (by decide +kernel) rfl
theorem co_yX3_init : Cond.code yX3_init cX3_init 1 none ∈ UT := ut (i := 109) (by decide +kernel) rfl
theorem ml_X3_3 : Cond.methodLink RX3 3 objectInit ∈ UT := ut (i := 110) (by decide +kernel) rfl
theorem fl_X3_9 : Cond.fieldLink RX3 9 (TX3 0).1 (TX3 0).2.1 (TX3 0).2.2.1 ∈ UT := ut (i := 111) (by decide +kernel) rfl
theorem fl_X3_15 : Cond.fieldLink RX3 15 (TX3 1).1 (TX3 1).2.1 (TX3 1).2.2.1 ∈ UT := ut (i := 112) (by decide +kernel) rfl
theorem fl_X3_18 : Cond.fieldLink RX3 18 (TX3 2).1 (TX3 2).2.1 (TX3 2).2.2.1 ∈ UT := ut (i := 113) (by decide +kernel) rfl
theorem fl_X3_22 : Cond.fieldLink RX3 22 (TX3 3).1 (TX3 3).2.1 (TX3 3).2.2.1 ∈ UT := ut (i := 114) (by decide +kernel) rfl
theorem ac_boolean : Cond.arrayClass .boolean ∈ UT := ut (i := 124) (by decide +kernel) rfl
theorem cl_X7_30 : Cond.classLink RX7 30 RX0 ∈ UT := ut (i := 125) (by decide +kernel) rfl
theorem ic_X0 : Cond.instantiable RX0 3 ∈ UT := ut (i := 126) (by decide +kernel) rfl
theorem im_yX0_init : Cond.instanceMethod yX0_init ∈ UT := ut (i := 128) (by decide +kernel) rfl
theorem co_yX0_init : Cond.code yX0_init cX0_init 1 none ∈ UT := ut (i := 129) (by decide +kernel) rfl
theorem ml_X0_3 : Cond.methodLink RX0 3 objectInit ∈ UT := ut (i := 130) (by decide +kernel) rfl
theorem fl_X0_9 : Cond.fieldLink RX0 9 (TX0 0).1 (TX0 0).2.1 (TX0 0).2.2.1 ∈ UT := ut (i := 131) (by decide +kernel) rfl
theorem fl_X0_15 : Cond.fieldLink RX0 15 (TX0 1).1 (TX0 1).2.1 (TX0 1).2.2.1 ∈ UT := ut (i := 132) (by decide +kernel) rfl
theorem fl_X0_19 : Cond.fieldLink RX0 19 (TX0 2).1 (TX0 2).2.1 (TX0 2).2.2.1 ∈ UT := ut (i := 133) (by decide +kernel) rfl
theorem cl_X7_37 : Cond.classLink RX7 37 RX2 ∈ UT := ut (i := 141) (by decide +kernel) rfl
theorem cl_X7_54 : Cond.classLink RX7 54 RX4 ∈ UT := ut (i := 142) (by decide +kernel) rfl
theorem ic_X4 : Cond.instantiable RX4 6 ∈ UT := ut (i := 143) (by decide +kernel) rfl
theorem im_yX4_init : Cond.instanceMethod yX4_init ∈ UT := ut (i := 145) (by decide +kernel) rfl
theorem co_yX4_init : Cond.code yX4_init cX4_init 1 none ∈ UT := ut (i := 146) (by decide +kernel) rfl
theorem ml_X4_3 : Cond.methodLink RX4 3 objectInit ∈ UT := ut (i := 147) (by decide +kernel) rfl
theorem fl_X4_9 : Cond.fieldLink RX4 9 (TX4 0).1 (TX4 0).2.1 (TX4 0).2.2.1 ∈ UT := ut (i := 148) (by decide +kernel) rfl
theorem fl_X7_149 : Cond.fieldLink RX7 149 (TX4 0).1 (TX4 0).2.1 (TX4 0).2.2.1 ∈ UT := ut (i := 149) (by decide +kernel) rfl
theorem fl_X4_15 : Cond.fieldLink RX4 15 (TX4 1).1 (TX4 1).2.1 (TX4 1).2.2.1 ∈ UT := ut (i := 150) (by decide +kernel) rfl
theorem fl_X7_152 : Cond.fieldLink RX7 152 (TX4 1).1 (TX4 1).2.1 (TX4 1).2.2.1 ∈ UT := ut (i := 151) (by decide +kernel) rfl
theorem fl_X6_78 : Cond.fieldLink RX6 78 (TX4 1).1 (TX4 1).2.1 (TX4 1).2.2.1 ∈ UT := ut (i := 152) (by decide +kernel) rfl
theorem fl_X4_18 : Cond.fieldLink RX4 18 (TX4 2).1 (TX4 2).2.1 (TX4 2).2.2.1 ∈ UT := ut (i := 153) (by decide +kernel) rfl
theorem fl_X7_155 : Cond.fieldLink RX7 155 (TX4 2).1 (TX4 2).2.1 (TX4 2).2.2.1 ∈ UT := ut (i := 154) (by decide +kernel) rfl
theorem fl_X6_82 : Cond.fieldLink RX6 82 (TX4 2).1 (TX4 2).2.1 (TX4 2).2.2.1 ∈ UT := ut (i := 155) (by decide +kernel) rfl
theorem fl_X4_21 : Cond.fieldLink RX4 21 (TX4 3).1 (TX4 3).2.1 (TX4 3).2.2.1 ∈ UT := ut (i := 156) (by decide +kernel) rfl
theorem fl_X7_112 : Cond.fieldLink RX7 112 (TX4 3).1 (TX4 3).2.1 (TX4 3).2.2.1 ∈ UT := ut (i := 157) (by decide +kernel) rfl
theorem fl_X5_55 : Cond.fieldLink RX5 55 (TX4 3).1 (TX4 3).2.1 (TX4 3).2.2.1 ∈ UT := ut (i := 158) (by decide +kernel) rfl
theorem fl_X4_25 : Cond.fieldLink RX4 25 (TX4 4).1 (TX4 4).2.1 (TX4 4).2.2.1 ∈ UT := ut (i := 159) (by decide +kernel) rfl
theorem fl_X7_98 : Cond.fieldLink RX7 98 (TX4 4).1 (TX4 4).2.1 (TX4 4).2.2.1 ∈ UT := ut (i := 160) (by decide +kernel) rfl
theorem fl_X6_68 : Cond.fieldLink RX6 68 (TX4 4).1 (TX4 4).2.1 (TX4 4).2.2.1 ∈ UT := ut (i := 161) (by decide +kernel) rfl
theorem fl_X4_28 : Cond.fieldLink RX4 28 (TX4 5).1 (TX4 5).2.1 (TX4 5).2.2.1 ∈ UT := ut (i := 162) (by decide +kernel) rfl
theorem fl_X7_101 : Cond.fieldLink RX7 101 (TX4 5).1 (TX4 5).2.1 (TX4 5).2.2.1 ∈ UT := ut (i := 163) (by decide +kernel) rfl
theorem fl_X5_87 : Cond.fieldLink RX5 87 (TX4 5).1 (TX4 5).2.1 (TX4 5).2.2.1 ∈ UT := ut (i := 164) (by decide +kernel) rfl
theorem ac_long : Cond.arrayClass .long ∈ UT := ut (i := 178) (by decide +kernel) rfl
theorem ic_X2 : Cond.instantiable RX2 4 ∈ UT := ut (i := 179) (by decide +kernel) rfl
theorem ml_X7_64 : Cond.methodLink RX7 64 yX2_init ∈ UT := ut (i := 180) (by decide +kernel) rfl
theorem im_yX2_init : Cond.instanceMethod yX2_init ∈ UT := ut (i := 181) (by decide +kernel) rfl
theorem co_yX2_init : Cond.code yX2_init cX2_init 5 none ∈ UT := ut (i := 182) (by decide +kernel) rfl
theorem ml_X2_1 : Cond.methodLink RX2 1 objectInit ∈ UT := ut (i := 183) (by decide +kernel) rfl
theorem fl_X2_7 : Cond.fieldLink RX2 7 (TX2 0).1 (TX2 0).2.1 (TX2 0).2.2.1 ∈ UT := ut (i := 184) (by decide +kernel) rfl
theorem fl_X7_115 : Cond.fieldLink RX7 115 (TX2 0).1 (TX2 0).2.1 (TX2 0).2.2.1 ∈ UT := ut (i := 185) (by decide +kernel) rfl
theorem fl_X2_13 : Cond.fieldLink RX2 13 (TX2 1).1 (TX2 1).2.1 (TX2 1).2.2.1 ∈ UT := ut (i := 186) (by decide +kernel) rfl
theorem fl_X7_118 : Cond.fieldLink RX7 118 (TX2 1).1 (TX2 1).2.1 (TX2 1).2.2.1 ∈ UT := ut (i := 187) (by decide +kernel) rfl
theorem fl_X2_16 : Cond.fieldLink RX2 16 (TX2 2).1 (TX2 2).2.1 (TX2 2).2.2.1 ∈ UT := ut (i := 188) (by decide +kernel) rfl
theorem fl_X7_121 : Cond.fieldLink RX7 121 (TX2 2).1 (TX2 2).2.1 (TX2 2).2.2.1 ∈ UT := ut (i := 189) (by decide +kernel) rfl
theorem fl_X2_19 : Cond.fieldLink RX2 19 (TX2 3).1 (TX2 3).2.1 (TX2 3).2.2.1 ∈ UT := ut (i := 190) (by decide +kernel) rfl
theorem fl_X7_124 : Cond.fieldLink RX7 124 (TX2 3).1 (TX2 3).2.1 (TX2 3).2.2.1 ∈ UT := ut (i := 191) (by decide +kernel) rfl
theorem fl_X7_12 : Cond.fieldLink RX7 12 (TX7 0).1 (TX7 0).2.1 (TX7 0).2.2.1 ∈ UT := ut (i := 201) (by decide +kernel) rfl
theorem fl_X7_19 : Cond.fieldLink RX7 19 (TX7 1).1 (TX7 1).2.1 (TX7 1).2.2.1 ∈ UT := ut (i := 202) (by decide +kernel) rfl
theorem fl_X7_26 : Cond.fieldLink RX7 26 (TX7 2).1 (TX7 2).2.1 (TX7 2).2.2.1 ∈ UT := ut (i := 203) (by decide +kernel) rfl
theorem fl_X7_33 : Cond.fieldLink RX7 33 (TX7 3).1 (TX7 3).2.1 (TX7 3).2.2.1 ∈ UT := ut (i := 204) (by decide +kernel) rfl
theorem fl_X7_39 : Cond.fieldLink RX7 39 (TX7 4).1 (TX7 4).2.1 (TX7 4).2.2.1 ∈ UT := ut (i := 205) (by decide +kernel) rfl
theorem fl_X7_43 : Cond.fieldLink RX7 43 (TX7 5).1 (TX7 5).2.1 (TX7 5).2.2.1 ∈ UT := ut (i := 206) (by decide +kernel) rfl
theorem fl_X7_47 : Cond.fieldLink RX7 47 (TX7 6).1 (TX7 6).2.1 (TX7 6).2.2.1 ∈ UT := ut (i := 207) (by decide +kernel) rfl
theorem fl_X7_51 : Cond.fieldLink RX7 51 (TX7 7).1 (TX7 7).2.1 (TX7 7).2.2.1 ∈ UT := ut (i := 208) (by decide +kernel) rfl
theorem fl_X7_57 : Cond.fieldLink RX7 57 (TX7 8).1 (TX7 8).2.1 (TX7 8).2.2.1 ∈ UT := ut (i := 209) (by decide +kernel) rfl
theorem fl_X7_61 : Cond.fieldLink RX7 61 (TX7 9).1 (TX7 9).2.1 (TX7 9).2.2.1 ∈ UT := ut (i := 210) (by decide +kernel) rfl
theorem fl_X7_67 : Cond.fieldLink RX7 67 (TX7 10).1 (TX7 10).2.1 (TX7 10).2.2.1 ∈ UT := ut (i := 211) (by decide +kernel) rfl
theorem fl_X7_71 : Cond.fieldLink RX7 71 (TX7 11).1 (TX7 11).2.1 (TX7 11).2.2.1 ∈ UT := ut (i := 212) (by decide +kernel) rfl
theorem ml_L_13 : Cond.methodLink RL 13 yX7_feed ∈ UT := ut (i := 238) (by decide +kernel) rfl
theorem im_yX7_feed : Cond.instanceMethod yX7_feed ∈ UT := ut (i := 239) (by decide +kernel) rfl
theorem se_yX7_feed : Cond.selects RX7 yX7_feed yX7_feed ∈ UT := ut (i := 240) (by decide +kernel) rfl
theorem co_yX7_feed : Cond.code yX7_feed cX7_feed 2 (some .int) ∈ UT := ut (i := 241) (by decide +kernel) rfl
theorem kc_X7_75 : Cond.constant RX7 75 (-1000000002) ∈ UT := ut (i := 242) (by decide +kernel) rfl
theorem ml_X7_76 : Cond.methodLink RX7 76 yX5_append ∈ UT := ut (i := 243) (by decide +kernel) rfl
theorem im_yX5_append : Cond.instanceMethod yX5_append ∈ UT := ut (i := 244) (by decide +kernel) rfl
theorem se_yX5_append : Cond.selects RX5 yX5_append yX5_append ∈ UT := ut (i := 245) (by decide +kernel) rfl
theorem co_yX5_append : Cond.code yX5_append cX5_append 2 (some .boolean) ∈ UT := ut (i := 246) (by decide +kernel) rfl
theorem ml_X7_80 : Cond.methodLink RX7 80 yX5_length ∈ UT := ut (i := 247) (by decide +kernel) rfl
theorem im_yX5_length : Cond.instanceMethod yX5_length ∈ UT := ut (i := 248) (by decide +kernel) rfl
theorem se_yX5_length : Cond.selects RX5 yX5_length yX5_length ∈ UT := ut (i := 249) (by decide +kernel) rfl
theorem co_yX5_length : Cond.code yX5_length cX5_length 1 (some .int) ∈ UT := ut (i := 250) (by decide +kernel) rfl
theorem kc_X7_84 : Cond.constant RX7 84 (-1000000004) ∈ UT := ut (i := 251) (by decide +kernel) rfl
theorem ml_L_18 : Cond.methodLink RL 18 yX7_town ∈ UT := ut (i := 252) (by decide +kernel) rfl
theorem im_yX7_town : Cond.instanceMethod yX7_town ∈ UT := ut (i := 253) (by decide +kernel) rfl
theorem se_yX7_town : Cond.selects RX7 yX7_town yX7_town ∈ UT := ut (i := 254) (by decide +kernel) rfl
theorem co_yX7_town : Cond.code yX7_town cX7_town 2 (some .int) ∈ UT := ut (i := 255) (by decide +kernel) rfl
theorem ml_X7_85 : Cond.methodLink RX7 85 yX5_readInto ∈ UT := ut (i := 256) (by decide +kernel) rfl
theorem im_yX5_readInto : Cond.instanceMethod yX5_readInto ∈ UT := ut (i := 257) (by decide +kernel) rfl
theorem se_yX5_readInto : Cond.selects RX5 yX5_readInto yX5_readInto ∈ UT := ut (i := 258) (by decide +kernel) rfl
theorem co_yX5_readInto : Cond.code yX5_readInto cX5_readInto 3 none ∈ UT := ut (i := 259) (by decide +kernel) rfl
theorem ml_X5_31 : Cond.methodLink RX5 31 yX4_clear ∈ UT := ut (i := 260) (by decide +kernel) rfl
theorem im_yX4_clear : Cond.instanceMethod yX4_clear ∈ UT := ut (i := 261) (by decide +kernel) rfl
theorem se_yX4_clear : Cond.selects RX4 yX4_clear yX4_clear ∈ UT := ut (i := 262) (by decide +kernel) rfl
theorem co_yX4_clear : Cond.code yX4_clear cX4_clear 1 none ∈ UT := ut (i := 263) (by decide +kernel) rfl
theorem ml_X5_36 : Cond.methodLink RX5 36 yX5_peek ∈ UT := ut (i := 264) (by decide +kernel) rfl
theorem im_yX5_peek : Cond.instanceMethod yX5_peek ∈ UT := ut (i := 266) (by decide +kernel) rfl
theorem co_yX5_peek : Cond.code yX5_peek cX5_peek 1 (some .int) ∈ UT := ut (i := 267) (by decide +kernel) rfl
theorem ml_X5_40 : Cond.methodLink RX5 40 yX5_readThings ∈ UT := ut (i := 268) (by decide +kernel) rfl
theorem im_yX5_readThings : Cond.instanceMethod yX5_readThings ∈ UT := ut (i := 270) (by decide +kernel) rfl
theorem co_yX5_readThings : Cond.code yX5_readThings cX5_readThings 3 none ∈ UT := ut (i := 271) (by decide +kernel) rfl
theorem ml_X5_47 : Cond.methodLink RX5 47 yX5_take ∈ UT := ut (i := 272) (by decide +kernel) rfl
theorem im_yX5_take : Cond.instanceMethod yX5_take ∈ UT := ut (i := 274) (by decide +kernel) rfl
theorem co_yX5_take : Cond.code yX5_take cX5_take 2 (some .boolean) ∈ UT := ut (i := 275) (by decide +kernel) rfl
theorem ml_X5_62 : Cond.methodLink RX5 62 yX5_stop ∈ UT := ut (i := 276) (by decide +kernel) rfl
theorem im_yX5_stop : Cond.instanceMethod yX5_stop ∈ UT := ut (i := 278) (by decide +kernel) rfl
theorem co_yX5_stop : Cond.code yX5_stop cX5_stop 3 none ∈ UT := ut (i := 279) (by decide +kernel) rfl
theorem ml_X5_51 : Cond.methodLink RX5 51 yX5_number ∈ UT := ut (i := 280) (by decide +kernel) rfl
theorem im_yX5_number : Cond.instanceMethod yX5_number ∈ UT := ut (i := 282) (by decide +kernel) rfl
theorem co_yX5_number : Cond.code yX5_number cX5_number 4 (some .int) ∈ UT := ut (i := 283) (by decide +kernel) rfl
theorem ml_X5_90 : Cond.methodLink RX5 90 yX5_isFigure ∈ UT := ut (i := 284) (by decide +kernel) rfl
theorem sm_yX5_isFigure : Cond.static yX5_isFigure ∈ UT := ut (i := 285) (by decide +kernel) rfl
theorem co_yX5_isFigure : Cond.code yX5_isFigure cX5_isFigure 1 (some .boolean) ∈ UT := ut (i := 286) (by decide +kernel) rfl
theorem ml_X5_93 : Cond.methodLink RX5 93 Lib.Math.min.name ∈ UT := ut (i := 287) (by decide +kernel) rfl
theorem sm_Lib_Math_min_name : Cond.static Lib.Math.min.name ∈ UT := ut (i := 288) (by decide +kernel) rfl
theorem co_Lib_Math_min_name : Cond.code Lib.Math.min.name Lib.Math.min.code 2 (some .int) ∈ UT := ut (i := 289) (by decide +kernel) rfl
theorem ml_X5_44 : Cond.methodLink RX5 44 yX5_readClause ∈ UT := ut (i := 290) (by decide +kernel) rfl
theorem im_yX5_readClause : Cond.instanceMethod yX5_readClause ∈ UT := ut (i := 292) (by decide +kernel) rfl
theorem co_yX5_readClause : Cond.code yX5_readClause cX5_readClause 3 none ∈ UT := ut (i := 293) (by decide +kernel) rfl
theorem ml_X5_58 : Cond.methodLink RX5 58 yX4_isFull ∈ UT := ut (i := 294) (by decide +kernel) rfl
theorem im_yX4_isFull : Cond.instanceMethod yX4_isFull ∈ UT := ut (i := 295) (by decide +kernel) rfl
theorem se_yX4_isFull : Cond.selects RX4 yX4_isFull yX4_isFull ∈ UT := ut (i := 296) (by decide +kernel) rfl
theorem co_yX4_isFull : Cond.code yX4_isFull cX4_isFull 1 (some .boolean) ∈ UT := ut (i := 297) (by decide +kernel) rfl
theorem ml_X5_66 : Cond.methodLink RX5 66 yX5_readRule ∈ UT := ut (i := 298) (by decide +kernel) rfl
theorem im_yX5_readRule : Cond.instanceMethod yX5_readRule ∈ UT := ut (i := 300) (by decide +kernel) rfl
theorem co_yX5_readRule : Cond.code yX5_readRule cX5_readRule 5 none ∈ UT := ut (i := 301) (by decide +kernel) rfl
theorem ml_X5_72 : Cond.methodLink RX5 72 yX4_sayings ∈ UT := ut (i := 302) (by decide +kernel) rfl
theorem im_yX4_sayings : Cond.instanceMethod yX4_sayings ∈ UT := ut (i := 303) (by decide +kernel) rfl
theorem se_yX4_sayings : Cond.selects RX4 yX4_sayings yX4_sayings ∈ UT := ut (i := 304) (by decide +kernel) rfl
theorem co_yX4_sayings : Cond.code yX4_sayings cX4_sayings 1 (some .int) ∈ UT := ut (i := 305) (by decide +kernel) rfl
theorem ml_X5_75 : Cond.methodLink RX5 75 yX5_readPremises ∈ UT := ut (i := 306) (by decide +kernel) rfl
theorem im_yX5_readPremises : Cond.instanceMethod yX5_readPremises ∈ UT := ut (i := 308) (by decide +kernel) rfl
theorem co_yX5_readPremises : Cond.code yX5_readPremises cX5_readPremises 6 (some .int) ∈ UT := ut (i := 309) (by decide +kernel) rfl
theorem sm_yX7_has : Cond.static yX7_has ∈ UT := ut (i := 311) (by decide +kernel) rfl
theorem co_yX7_has : Cond.code yX7_has cX7_has 2 (some .boolean) ∈ UT := ut (i := 312) (by decide +kernel) rfl
theorem ml_X5_79 : Cond.methodLink RX5 79 yX4_addRule ∈ UT := ut (i := 313) (by decide +kernel) rfl
theorem im_yX4_addRule : Cond.instanceMethod yX4_addRule ∈ UT := ut (i := 314) (by decide +kernel) rfl
theorem se_yX4_addRule : Cond.selects RX4 yX4_addRule yX4_addRule ∈ UT := ut (i := 315) (by decide +kernel) rfl
theorem co_yX4_addRule : Cond.code yX4_addRule cX4_addRule 4 none ∈ UT := ut (i := 316) (by decide +kernel) rfl
theorem ml_X4_31 : Cond.methodLink RX4 31 yX4_isFull ∈ UT := ut (i := 317) (by decide +kernel) rfl
theorem ml_X5_69 : Cond.methodLink RX5 69 yX5_readSeen ∈ UT := ut (i := 318) (by decide +kernel) rfl
theorem im_yX5_readSeen : Cond.instanceMethod yX5_readSeen ∈ UT := ut (i := 320) (by decide +kernel) rfl
theorem co_yX5_readSeen : Cond.code yX5_readSeen cX5_readSeen 3 none ∈ UT := ut (i := 321) (by decide +kernel) rfl
theorem ml_X7_89 : Cond.methodLink RX7 89 yX5_forgetText ∈ UT := ut (i := 322) (by decide +kernel) rfl
theorem im_yX5_forgetText : Cond.instanceMethod yX5_forgetText ∈ UT := ut (i := 323) (by decide +kernel) rfl
theorem se_yX5_forgetText : Cond.selects RX5 yX5_forgetText yX5_forgetText ∈ UT := ut (i := 324) (by decide +kernel) rfl
theorem co_yX5_forgetText : Cond.code yX5_forgetText cX5_forgetText 1 none ∈ UT := ut (i := 325) (by decide +kernel) rfl
theorem ml_X7_92 : Cond.methodLink RX7 92 yX5_faultKind ∈ UT := ut (i := 326) (by decide +kernel) rfl
theorem im_yX5_faultKind : Cond.instanceMethod yX5_faultKind ∈ UT := ut (i := 327) (by decide +kernel) rfl
theorem se_yX5_faultKind : Cond.selects RX5 yX5_faultKind yX5_faultKind ∈ UT := ut (i := 328) (by decide +kernel) rfl
theorem co_yX5_faultKind : Cond.code yX5_faultKind cX5_faultKind 1 (some .int) ∈ UT := ut (i := 329) (by decide +kernel) rfl
theorem ml_X7_95 : Cond.methodLink RX7 95 yX7_beginAnew ∈ UT := ut (i := 330) (by decide +kernel) rfl
theorem im_yX7_beginAnew : Cond.instanceMethod yX7_beginAnew ∈ UT := ut (i := 332) (by decide +kernel) rfl
theorem co_yX7_beginAnew : Cond.code yX7_beginAnew cX7_beginAnew 2 none ∈ UT := ut (i := 333) (by decide +kernel) rfl
theorem ml_X7_104 : Cond.methodLink RX7 104 yX1_clear ∈ UT := ut (i := 334) (by decide +kernel) rfl
theorem im_yX1_clear : Cond.instanceMethod yX1_clear ∈ UT := ut (i := 335) (by decide +kernel) rfl
theorem se_yX1_clear : Cond.selects RX1 yX1_clear yX1_clear ∈ UT := ut (i := 336) (by decide +kernel) rfl
theorem co_yX1_clear : Cond.code yX1_clear cX1_clear 1 none ∈ UT := ut (i := 337) (by decide +kernel) rfl
theorem ml_X7_107 : Cond.methodLink RX7 107 yX3_clear ∈ UT := ut (i := 338) (by decide +kernel) rfl
theorem im_yX3_clear : Cond.instanceMethod yX3_clear ∈ UT := ut (i := 339) (by decide +kernel) rfl
theorem se_yX3_clear : Cond.selects RX3 yX3_clear yX3_clear ∈ UT := ut (i := 340) (by decide +kernel) rfl
theorem co_yX3_clear : Cond.code yX3_clear cX3_clear 1 none ∈ UT := ut (i := 341) (by decide +kernel) rfl
theorem ml_X7_108 : Cond.methodLink RX7 108 yX0_clear ∈ UT := ut (i := 342) (by decide +kernel) rfl
theorem im_yX0_clear : Cond.instanceMethod yX0_clear ∈ UT := ut (i := 343) (by decide +kernel) rfl
theorem se_yX0_clear : Cond.selects RX0 yX0_clear yX0_clear ∈ UT := ut (i := 344) (by decide +kernel) rfl
theorem co_yX0_clear : Cond.code yX0_clear cX0_clear 1 none ∈ UT := ut (i := 345) (by decide +kernel) rfl
theorem ml_L_23 : Cond.methodLink RL 23 yX7_fault ∈ UT := ut (i := 346) (by decide +kernel) rfl
theorem im_yX7_fault : Cond.instanceMethod yX7_fault ∈ UT := ut (i := 347) (by decide +kernel) rfl
theorem se_yX7_fault : Cond.selects RX7 yX7_fault yX7_fault ∈ UT := ut (i := 348) (by decide +kernel) rfl
theorem co_yX7_fault : Cond.code yX7_fault cX7_fault 1 (some .int) ∈ UT := ut (i := 349) (by decide +kernel) rfl
theorem ml_X7_109 : Cond.methodLink RX7 109 yX5_faultAt ∈ UT := ut (i := 350) (by decide +kernel) rfl
theorem im_yX5_faultAt : Cond.instanceMethod yX5_faultAt ∈ UT := ut (i := 351) (by decide +kernel) rfl
theorem se_yX5_faultAt : Cond.selects RX5 yX5_faultAt yX5_faultAt ∈ UT := ut (i := 352) (by decide +kernel) rfl
theorem co_yX5_faultAt : Cond.code yX5_faultAt cX5_faultAt 1 (some .int) ∈ UT := ut (i := 353) (by decide +kernel) rfl
theorem ml_L_27 : Cond.methodLink RL 27 yX7_told ∈ UT := ut (i := 354) (by decide +kernel) rfl
theorem im_yX7_told : Cond.instanceMethod yX7_told ∈ UT := ut (i := 355) (by decide +kernel) rfl
theorem se_yX7_told : Cond.selects RX7 yX7_told yX7_told ∈ UT := ut (i := 356) (by decide +kernel) rfl
theorem co_yX7_told : Cond.code yX7_told cX7_told 2 (some .int) ∈ UT := ut (i := 357) (by decide +kernel) rfl
theorem ml_X7_127 : Cond.methodLink RX7 127 yX7_trialNow ∈ UT := ut (i := 358) (by decide +kernel) rfl
theorem im_yX7_trialNow : Cond.instanceMethod yX7_trialNow ∈ UT := ut (i := 360) (by decide +kernel) rfl
theorem co_yX7_trialNow : Cond.code yX7_trialNow cX7_trialNow 1 (some (.object "BarrelMoon$Trial")) ∈ UT := ut (i := 361) (by decide +kernel) rfl
theorem cl_X7_132 : Cond.classLink RX7 132 RX6 ∈ UT := ut (i := 362) (by decide +kernel) rfl
theorem ic_X6 : Cond.instantiable RX6 3 ∈ UT := ut (i := 363) (by decide +kernel) rfl
theorem ml_X7_178 : Cond.methodLink RX7 178 yX7_rulesGoneBy ∈ UT := ut (i := 364) (by decide +kernel) rfl
theorem im_yX7_rulesGoneBy : Cond.instanceMethod yX7_rulesGoneBy ∈ UT := ut (i := 366) (by decide +kernel) rfl
theorem co_yX7_rulesGoneBy : Cond.code yX7_rulesGoneBy cX7_rulesGoneBy 1 (some .int) ∈ UT := ut (i := 367) (by decide +kernel) rfl
theorem ml_X7_247 : Cond.methodLink RX7 247 yX4_allRules ∈ UT := ut (i := 368) (by decide +kernel) rfl
theorem im_yX4_allRules : Cond.instanceMethod yX4_allRules ∈ UT := ut (i := 369) (by decide +kernel) rfl
theorem se_yX4_allRules : Cond.selects RX4 yX4_allRules yX4_allRules ∈ UT := ut (i := 370) (by decide +kernel) rfl
theorem co_yX4_allRules : Cond.code yX4_allRules cX4_allRules 1 (some .int) ∈ UT := ut (i := 371) (by decide +kernel) rfl
theorem ml_X7_279 : Cond.methodLink RX7 279 yX6_init ∈ UT := ut (i := 372) (by decide +kernel) rfl
theorem im_yX6_init : Cond.instanceMethod yX6_init ∈ UT := ut (i := 373) (by decide +kernel) rfl
theorem co_yX6_init : Cond.code yX6_init cX6_init 4 none ∈ UT := ut (i := 374) (by decide +kernel) rfl
theorem ml_X6_3 : Cond.methodLink RX6 3 objectInit ∈ UT := ut (i := 375) (by decide +kernel) rfl
theorem fl_X6_9 : Cond.fieldLink RX6 9 (TX6 0).1 (TX6 0).2.1 (TX6 0).2.2.1 ∈ UT := ut (i := 376) (by decide +kernel) rfl
theorem fl_X6_15 : Cond.fieldLink RX6 15 (TX6 1).1 (TX6 1).2.1 (TX6 1).2.2.1 ∈ UT := ut (i := 377) (by decide +kernel) rfl
theorem fl_X6_19 : Cond.fieldLink RX6 19 (TX6 2).1 (TX6 2).2.1 (TX6 2).2.2.1 ∈ UT := ut (i := 378) (by decide +kernel) rfl
theorem ml_X7_131 : Cond.methodLink RX7 131 yX6_conclusions ∈ UT := ut (i := 386) (by decide +kernel) rfl
theorem im_yX6_conclusions : Cond.instanceMethod yX6_conclusions ∈ UT := ut (i := 387) (by decide +kernel) rfl
theorem se_yX6_conclusions : Cond.selects RX6 yX6_conclusions yX6_conclusions ∈ UT := ut (i := 388) (by decide +kernel) rfl
theorem co_yX6_conclusions : Cond.code yX6_conclusions cX6_conclusions 1 (some .int) ∈ UT := ut (i := 389) (by decide +kernel) rfl
theorem ml_X6_22 : Cond.methodLink RX6 22 yX4_closure ∈ UT := ut (i := 390) (by decide +kernel) rfl
theorem im_yX4_closure : Cond.instanceMethod yX4_closure ∈ UT := ut (i := 391) (by decide +kernel) rfl
theorem se_yX4_closure : Cond.selects RX4 yX4_closure yX4_closure ∈ UT := ut (i := 392) (by decide +kernel) rfl
theorem co_yX4_closure : Cond.code yX4_closure cX4_closure 8 (some .int) ∈ UT := ut (i := 393) (by decide +kernel) rfl
theorem ml_X4_42 : Cond.methodLink RX4 42 yX4_allRules ∈ UT := ut (i := 394) (by decide +kernel) rfl
theorem ml_X7_136 : Cond.methodLink RX7 136 yX4_quarrelsIn ∈ UT := ut (i := 395) (by decide +kernel) rfl
theorem im_yX4_quarrelsIn : Cond.instanceMethod yX4_quarrelsIn ∈ UT := ut (i := 396) (by decide +kernel) rfl
theorem se_yX4_quarrelsIn : Cond.selects RX4 yX4_quarrelsIn yX4_quarrelsIn ∈ UT := ut (i := 397) (by decide +kernel) rfl
theorem co_yX4_quarrelsIn : Cond.code yX4_quarrelsIn cX4_quarrelsIn 4 (some .int) ∈ UT := ut (i := 398) (by decide +kernel) rfl
theorem ml_X7_140 : Cond.methodLink RX7 140 yX3_size ∈ UT := ut (i := 400) (by decide +kernel) rfl
theorem im_yX3_size : Cond.instanceMethod yX3_size ∈ UT := ut (i := 401) (by decide +kernel) rfl
theorem se_yX3_size : Cond.selects RX3 yX3_size yX3_size ∈ UT := ut (i := 402) (by decide +kernel) rfl
theorem co_yX3_size : Cond.code yX3_size cX3_size 1 (some .int) ∈ UT := ut (i := 403) (by decide +kernel) rfl
theorem ml_X7_143 : Cond.methodLink RX7 143 yX0_size ∈ UT := ut (i := 404) (by decide +kernel) rfl
theorem im_yX0_size : Cond.instanceMethod yX0_size ∈ UT := ut (i := 405) (by decide +kernel) rfl
theorem se_yX0_size : Cond.selects RX0 yX0_size yX0_size ∈ UT := ut (i := 406) (by decide +kernel) rfl
theorem co_yX0_size : Cond.code yX0_size cX0_size 1 (some .int) ∈ UT := ut (i := 407) (by decide +kernel) rfl
theorem ml_X7_144 : Cond.methodLink RX7 144 yX1_size ∈ UT := ut (i := 408) (by decide +kernel) rfl
theorem im_yX1_size : Cond.instanceMethod yX1_size ∈ UT := ut (i := 409) (by decide +kernel) rfl
theorem se_yX1_size : Cond.selects RX1 yX1_size yX1_size ∈ UT := ut (i := 410) (by decide +kernel) rfl
theorem co_yX1_size : Cond.code yX1_size cX1_size 1 (some .int) ∈ UT := ut (i := 411) (by decide +kernel) rfl
theorem ml_L_31 : Cond.methodLink RL 31 yX7_rule ∈ UT := ut (i := 412) (by decide +kernel) rfl
theorem im_yX7_rule : Cond.instanceMethod yX7_rule ∈ UT := ut (i := 413) (by decide +kernel) rfl
theorem se_yX7_rule : Cond.selects RX7 yX7_rule yX7_rule ∈ UT := ut (i := 414) (by decide +kernel) rfl
theorem co_yX7_rule : Cond.code yX7_rule cX7_rule 3 (some .int) ∈ UT := ut (i := 415) (by decide +kernel) rfl
theorem ml_X7_145 : Cond.methodLink RX7 145 yX4_hasRule ∈ UT := ut (i := 416) (by decide +kernel) rfl
theorem im_yX4_hasRule : Cond.instanceMethod yX4_hasRule ∈ UT := ut (i := 417) (by decide +kernel) rfl
theorem se_yX4_hasRule : Cond.selects RX4 yX4_hasRule yX4_hasRule ∈ UT := ut (i := 418) (by decide +kernel) rfl
theorem co_yX4_hasRule : Cond.code yX4_hasRule cX4_hasRule 2 (some .boolean) ∈ UT := ut (i := 419) (by decide +kernel) rfl
theorem kc_X7_148 : Cond.constant RX7 148 (-1000000001) ∈ UT := ut (i := 420) (by decide +kernel) rfl
theorem ml_X7_158 : Cond.methodLink RX7 158 yX7_has ∈ UT := ut (i := 421) (by decide +kernel) rfl
theorem ml_L_36 : Cond.methodLink RL 36 yX7_see ∈ UT := ut (i := 422) (by decide +kernel) rfl
theorem im_yX7_see : Cond.instanceMethod yX7_see ∈ UT := ut (i := 423) (by decide +kernel) rfl
theorem se_yX7_see : Cond.selects RX7 yX7_see yX7_see ∈ UT := ut (i := 424) (by decide +kernel) rfl
theorem co_yX7_see : Cond.code yX7_see cX7_see 4 (some .int) ∈ UT := ut (i := 425) (by decide +kernel) rfl
theorem ml_X7_162 : Cond.methodLink RX7 162 yX4_hasSaying ∈ UT := ut (i := 426) (by decide +kernel) rfl
theorem im_yX4_hasSaying : Cond.instanceMethod yX4_hasSaying ∈ UT := ut (i := 427) (by decide +kernel) rfl
theorem se_yX4_hasSaying : Cond.selects RX4 yX4_hasSaying yX4_hasSaying ∈ UT := ut (i := 428) (by decide +kernel) rfl
theorem co_yX4_hasSaying : Cond.code yX4_hasSaying cX4_hasSaying 2 (some .boolean) ∈ UT := ut (i := 429) (by decide +kernel) rfl
theorem ml_X4_35 : Cond.methodLink RX4 35 yX4_sayings ∈ UT := ut (i := 430) (by decide +kernel) rfl
theorem ml_X7_165 : Cond.methodLink RX7 165 yX7_put ∈ UT := ut (i := 431) (by decide +kernel) rfl
theorem sm_yX7_put : Cond.static yX7_put ∈ UT := ut (i := 432) (by decide +kernel) rfl
theorem co_yX7_put : Cond.code yX7_put cX7_put 3 (some .int) ∈ UT := ut (i := 433) (by decide +kernel) rfl
theorem ml_X7_169 : Cond.methodLink RX7 169 yX7_change ∈ UT := ut (i := 434) (by decide +kernel) rfl
theorem im_yX7_change : Cond.instanceMethod yX7_change ∈ UT := ut (i := 436) (by decide +kernel) rfl
theorem co_yX7_change : Cond.code yX7_change cX7_change 2 none ∈ UT := ut (i := 437) (by decide +kernel) rfl
theorem ml_X7_198 : Cond.methodLink RX7 198 yX1_add ∈ UT := ut (i := 438) (by decide +kernel) rfl
theorem im_yX1_add : Cond.instanceMethod yX1_add ∈ UT := ut (i := 439) (by decide +kernel) rfl
theorem se_yX1_add : Cond.selects RX1 yX1_add yX1_add ∈ UT := ut (i := 440) (by decide +kernel) rfl
theorem co_yX1_add : Cond.code yX1_add cX1_add 2 none ∈ UT := ut (i := 441) (by decide +kernel) rfl
theorem ml_X1_21 : Cond.methodLink RX1 21 yX1_loseOldest ∈ UT := ut (i := 442) (by decide +kernel) rfl
theorem im_yX1_loseOldest : Cond.instanceMethod yX1_loseOldest ∈ UT := ut (i := 444) (by decide +kernel) rfl
theorem co_yX1_loseOldest : Cond.code yX1_loseOldest cX1_loseOldest 2 none ∈ UT := ut (i := 445) (by decide +kernel) rfl
theorem ml_L_41 : Cond.methodLink RL 41 yX7_forbid ∈ UT := ut (i := 446) (by decide +kernel) rfl
theorem im_yX7_forbid : Cond.instanceMethod yX7_forbid ∈ UT := ut (i := 447) (by decide +kernel) rfl
theorem se_yX7_forbid : Cond.selects RX7 yX7_forbid yX7_forbid ∈ UT := ut (i := 448) (by decide +kernel) rfl
theorem co_yX7_forbid : Cond.code yX7_forbid cX7_forbid 4 (some .int) ∈ UT := ut (i := 449) (by decide +kernel) rfl
theorem ml_L_45 : Cond.methodLink RL 45 yX7_debate ∈ UT := ut (i := 450) (by decide +kernel) rfl
theorem im_yX7_debate : Cond.instanceMethod yX7_debate ∈ UT := ut (i := 451) (by decide +kernel) rfl
theorem se_yX7_debate : Cond.selects RX7 yX7_debate yX7_debate ∈ UT := ut (i := 452) (by decide +kernel) rfl
theorem co_yX7_debate : Cond.code yX7_debate cX7_debate 2 (some .int) ∈ UT := ut (i := 453) (by decide +kernel) rfl
theorem ml_X7_173 : Cond.methodLink RX7 173 yX4_isNone ∈ UT := ut (i := 454) (by decide +kernel) rfl
theorem im_yX4_isNone : Cond.instanceMethod yX4_isNone ∈ UT := ut (i := 455) (by decide +kernel) rfl
theorem se_yX4_isNone : Cond.selects RX4 yX4_isNone yX4_isNone ∈ UT := ut (i := 456) (by decide +kernel) rfl
theorem co_yX4_isNone : Cond.code yX4_isNone cX4_isNone 1 (some .boolean) ∈ UT := ut (i := 457) (by decide +kernel) rfl
theorem kc_X7_177 : Cond.constant RX7 177 (-1000000003) ∈ UT := ut (i := 458) (by decide +kernel) rfl
theorem ml_X7_181 : Cond.methodLink RX7 181 yX4_closure ∈ UT := ut (i := 459) (by decide +kernel) rfl
theorem ml_L_49 : Cond.methodLink RL 49 yX7_drop ∈ UT := ut (i := 460) (by decide +kernel) rfl
theorem im_yX7_drop : Cond.instanceMethod yX7_drop ∈ UT := ut (i := 461) (by decide +kernel) rfl
theorem se_yX7_drop : Cond.selects RX7 yX7_drop yX7_drop ∈ UT := ut (i := 462) (by decide +kernel) rfl
theorem co_yX7_drop : Cond.code yX7_drop cX7_drop 2 (some .int) ∈ UT := ut (i := 463) (by decide +kernel) rfl
theorem ml_L_53 : Cond.methodLink RL 53 yX7_drift ∈ UT := ut (i := 464) (by decide +kernel) rfl
theorem im_yX7_drift : Cond.instanceMethod yX7_drift ∈ UT := ut (i := 465) (by decide +kernel) rfl
theorem se_yX7_drift : Cond.selects RX7 yX7_drift yX7_drift ∈ UT := ut (i := 466) (by decide +kernel) rfl
theorem co_yX7_drift : Cond.code yX7_drift cX7_drift 7 (some .int) ∈ UT := ut (i := 467) (by decide +kernel) rfl
theorem ml_X7_185 : Cond.methodLink RX7 185 yX4_sayings ∈ UT := ut (i := 468) (by decide +kernel) rfl
theorem ml_X7_188 : Cond.methodLink RX7 188 yX7_draw ∈ UT := ut (i := 469) (by decide +kernel) rfl
theorem im_yX7_draw : Cond.instanceMethod yX7_draw ∈ UT := ut (i := 471) (by decide +kernel) rfl
theorem co_yX7_draw : Cond.code yX7_draw cX7_draw 2 (some .int) ∈ UT := ut (i := 472) (by decide +kernel) rfl
theorem kl_X7_272 : Cond.constantLong RX7 272 (1103515245) ∈ UT := ut (i := 473) (by decide +kernel) rfl
theorem kl_X7_274 : Cond.constantLong RX7 274 (12345) ∈ UT := ut (i := 474) (by decide +kernel) rfl
theorem kl_X7_276 : Cond.constantLong RX7 276 (2147483647) ∈ UT := ut (i := 475) (by decide +kernel) rfl
theorem kc_X7_278 : Cond.constant RX7 278 (65536) ∈ UT := ut (i := 476) (by decide +kernel) rfl
theorem ml_X7_191 : Cond.methodLink RX7 191 yX7_denialOf ∈ UT := ut (i := 477) (by decide +kernel) rfl
theorem sm_yX7_denialOf : Cond.static yX7_denialOf ∈ UT := ut (i := 478) (by decide +kernel) rfl
theorem co_yX7_denialOf : Cond.code yX7_denialOf cX7_denialOf 1 (some .int) ∈ UT := ut (i := 479) (by decide +kernel) rfl
theorem ml_L_57 : Cond.methodLink RL 57 yX7_undo ∈ UT := ut (i := 480) (by decide +kernel) rfl
theorem im_yX7_undo : Cond.instanceMethod yX7_undo ∈ UT := ut (i := 481) (by decide +kernel) rfl
theorem se_yX7_undo : Cond.selects RX7 yX7_undo yX7_undo ∈ UT := ut (i := 482) (by decide +kernel) rfl
theorem co_yX7_undo : Cond.code yX7_undo cX7_undo 2 (some .int) ∈ UT := ut (i := 483) (by decide +kernel) rfl
theorem ml_X7_194 : Cond.methodLink RX7 194 yX1_takeLatest ∈ UT := ut (i := 484) (by decide +kernel) rfl
theorem im_yX1_takeLatest : Cond.instanceMethod yX1_takeLatest ∈ UT := ut (i := 485) (by decide +kernel) rfl
theorem se_yX1_takeLatest : Cond.selects RX1 yX1_takeLatest yX1_takeLatest ∈ UT := ut (i := 486) (by decide +kernel) rfl
theorem co_yX1_takeLatest : Cond.code yX1_takeLatest cX1_takeLatest 1 (some (.object "BarrelMoon$Moment")) ∈ UT := ut (i := 487) (by decide +kernel) rfl
theorem ml_L_61 : Cond.methodLink RL 61 yX7_follows ∈ UT := ut (i := 488) (by decide +kernel) rfl
theorem im_yX7_follows : Cond.instanceMethod yX7_follows ∈ UT := ut (i := 489) (by decide +kernel) rfl
theorem se_yX7_follows : Cond.selects RX7 yX7_follows yX7_follows ∈ UT := ut (i := 490) (by decide +kernel) rfl
theorem co_yX7_follows : Cond.code yX7_follows cX7_follows 2 (some .int) ∈ UT := ut (i := 491) (by decide +kernel) rfl
theorem ml_X7_201 : Cond.methodLink RX7 201 yX4_hasSayings ∈ UT := ut (i := 492) (by decide +kernel) rfl
theorem im_yX4_hasSayings : Cond.instanceMethod yX4_hasSayings ∈ UT := ut (i := 493) (by decide +kernel) rfl
theorem se_yX4_hasSayings : Cond.selects RX4 yX4_hasSayings yX4_hasSayings ∈ UT := ut (i := 494) (by decide +kernel) rfl
theorem co_yX4_hasSayings : Cond.code yX4_hasSayings cX4_hasSayings 2 (some .boolean) ∈ UT := ut (i := 495) (by decide +kernel) rfl
theorem ml_X4_39 : Cond.methodLink RX4 39 yX4_allSayings ∈ UT := ut (i := 496) (by decide +kernel) rfl
theorem im_yX4_allSayings : Cond.instanceMethod yX4_allSayings ∈ UT := ut (i := 497) (by decide +kernel) rfl
theorem se_yX4_allSayings : Cond.selects RX4 yX4_allSayings yX4_allSayings ∈ UT := ut (i := 498) (by decide +kernel) rfl
theorem co_yX4_allSayings : Cond.code yX4_allSayings cX4_allSayings 1 (some .int) ∈ UT := ut (i := 499) (by decide +kernel) rfl
theorem ml_L_65 : Cond.methodLink RL 65 yX7_proof ∈ UT := ut (i := 500) (by decide +kernel) rfl
theorem im_yX7_proof : Cond.instanceMethod yX7_proof ∈ UT := ut (i := 501) (by decide +kernel) rfl
theorem se_yX7_proof : Cond.selects RX7 yX7_proof yX7_proof ∈ UT := ut (i := 502) (by decide +kernel) rfl
theorem co_yX7_proof : Cond.code yX7_proof cX7_proof 4 (some .int) ∈ UT := ut (i := 503) (by decide +kernel) rfl
theorem ml_X7_204 : Cond.methodLink RX7 204 yX6_leastProof ∈ UT := ut (i := 504) (by decide +kernel) rfl
theorem im_yX6_leastProof : Cond.instanceMethod yX6_leastProof ∈ UT := ut (i := 505) (by decide +kernel) rfl
theorem se_yX6_leastProof : Cond.selects RX6 yX6_leastProof yX6_leastProof ∈ UT := ut (i := 506) (by decide +kernel) rfl
theorem co_yX6_leastProof : Cond.code yX6_leastProof cX6_leastProof 6 (some .int) ∈ UT := ut (i := 507) (by decide +kernel) rfl
theorem ml_X6_32 : Cond.methodLink RX6 32 yX6_concludesBy ∈ UT := ut (i := 508) (by decide +kernel) rfl
theorem im_yX6_concludesBy : Cond.instanceMethod yX6_concludesBy ∈ UT := ut (i := 510) (by decide +kernel) rfl
theorem co_yX6_concludesBy : Cond.code yX6_concludesBy cX6_concludesBy 3 (some .boolean) ∈ UT := ut (i := 511) (by decide +kernel) rfl
theorem ml_X6_35 : Cond.methodLink RX6 35 yJ6_bitCount_0f7a4 ∈ UT := ut (i := 513) (by decide +kernel) rfl
theorem sm_yJ6_bitCount_0f7a4 : Cond.static yJ6_bitCount_0f7a4 ∈ UT := ut (i := 514) (by decide +kernel) rfl
theorem co_yJ6_bitCount_0f7a4 : Cond.code yJ6_bitCount_0f7a4 cJ6_bitCount_0f7a4 1 (some .int) ∈ UT := ut (i := 515) (by decide +kernel) rfl
theorem kc_J6_265 : Cond.constant RJ6 265 (1431655765) ∈ UT := ut (i := 516) (by decide +kernel) rfl
theorem kc_J6_266 : Cond.constant RJ6 266 (858993459) ∈ UT := ut (i := 517) (by decide +kernel) rfl
theorem kc_J6_267 : Cond.constant RJ6 267 (252645135) ∈ UT := ut (i := 518) (by decide +kernel) rfl
theorem ml_X6_41 : Cond.methodLink RX6 41 yX6_isAllowed ∈ UT := ut (i := 519) (by decide +kernel) rfl
theorem im_yX6_isAllowed : Cond.instanceMethod yX6_isAllowed ∈ UT := ut (i := 521) (by decide +kernel) rfl
theorem co_yX6_isAllowed : Cond.code yX6_isAllowed cX6_isAllowed 2 (some .boolean) ∈ UT := ut (i := 522) (by decide +kernel) rfl
theorem ml_X7_207 : Cond.methodLink RX7 207 yJ6_bitCount_0f7a4 ∈ UT := ut (i := 523) (by decide +kernel) rfl
theorem ml_L_69 : Cond.methodLink RL 69 yX7_giveUp ∈ UT := ut (i := 524) (by decide +kernel) rfl
theorem im_yX7_giveUp : Cond.instanceMethod yX7_giveUp ∈ UT := ut (i := 525) (by decide +kernel) rfl
theorem se_yX7_giveUp : Cond.selects RX7 yX7_giveUp yX7_giveUp ∈ UT := ut (i := 526) (by decide +kernel) rfl
theorem co_yX7_giveUp : Cond.code yX7_giveUp cX7_giveUp 3 (some .int) ∈ UT := ut (i := 527) (by decide +kernel) rfl
theorem ml_X7_212 : Cond.methodLink RX7 212 yX6_cheapestPeace ∈ UT := ut (i := 528) (by decide +kernel) rfl
theorem im_yX6_cheapestPeace : Cond.instanceMethod yX6_cheapestPeace ∈ UT := ut (i := 529) (by decide +kernel) rfl
theorem se_yX6_cheapestPeace : Cond.selects RX6 yX6_cheapestPeace yX6_cheapestPeace ∈ UT := ut (i := 530) (by decide +kernel) rfl
theorem co_yX6_cheapestPeace : Cond.code yX6_cheapestPeace cX6_cheapestPeace 4 (some .int) ∈ UT := ut (i := 531) (by decide +kernel) rfl
theorem ml_X6_45 : Cond.methodLink RX6 45 yX4_quarrelsIn ∈ UT := ut (i := 532) (by decide +kernel) rfl
theorem ml_X6_48 : Cond.methodLink RX6 48 yX4_costOf ∈ UT := ut (i := 533) (by decide +kernel) rfl
theorem im_yX4_costOf : Cond.instanceMethod yX4_costOf ∈ UT := ut (i := 534) (by decide +kernel) rfl
theorem se_yX4_costOf : Cond.selects RX4 yX4_costOf yX4_costOf ∈ UT := ut (i := 535) (by decide +kernel) rfl
theorem co_yX4_costOf : Cond.code yX4_costOf cX4_costOf 4 (some .int) ∈ UT := ut (i := 536) (by decide +kernel) rfl
theorem ml_X6_51 : Cond.methodLink RX6 51 yX6_isPeaceWithout ∈ UT := ut (i := 537) (by decide +kernel) rfl
theorem im_yX6_isPeaceWithout : Cond.instanceMethod yX6_isPeaceWithout ∈ UT := ut (i := 539) (by decide +kernel) rfl
theorem co_yX6_isPeaceWithout : Cond.code yX6_isPeaceWithout cX6_isPeaceWithout 2 (some .boolean) ∈ UT := ut (i := 540) (by decide +kernel) rfl
theorem ml_X7_215 : Cond.methodLink RX7 215 yX4_costOf ∈ UT := ut (i := 541) (by decide +kernel) rfl
theorem ml_L_73 : Cond.methodLink RL 73 yX7_words ∈ UT := ut (i := 542) (by decide +kernel) rfl
theorem im_yX7_words : Cond.instanceMethod yX7_words ∈ UT := ut (i := 543) (by decide +kernel) rfl
theorem se_yX7_words : Cond.selects RX7 yX7_words yX7_words ∈ UT := ut (i := 544) (by decide +kernel) rfl
theorem co_yX7_words : Cond.code yX7_words cX7_words 2 (some .int) ∈ UT := ut (i := 545) (by decide +kernel) rfl
theorem ml_X7_218 : Cond.methodLink RX7 218 yX6_fewestWords ∈ UT := ut (i := 546) (by decide +kernel) rfl
theorem im_yX6_fewestWords : Cond.instanceMethod yX6_fewestWords ∈ UT := ut (i := 547) (by decide +kernel) rfl
theorem se_yX6_fewestWords : Cond.selects RX6 yX6_fewestWords yX6_fewestWords ∈ UT := ut (i := 548) (by decide +kernel) rfl
theorem co_yX6_fewestWords : Cond.code yX6_fewestWords cX6_fewestWords 4 (some .int) ∈ UT := ut (i := 549) (by decide +kernel) rfl
theorem ml_X6_54 : Cond.methodLink RX6 54 yX4_sayings ∈ UT := ut (i := 550) (by decide +kernel) rfl
theorem ml_X6_58 : Cond.methodLink RX6 58 yX6_leastWords ∈ UT := ut (i := 551) (by decide +kernel) rfl
theorem im_yX6_leastWords : Cond.instanceMethod yX6_leastWords ∈ UT := ut (i := 553) (by decide +kernel) rfl
theorem co_yX6_leastWords : Cond.code yX6_leastWords cX6_leastWords 7 (some .int) ∈ UT := ut (i := 554) (by decide +kernel) rfl
theorem ml_X6_62 : Cond.methodLink RX6 62 yX6_bringTo ∈ UT := ut (i := 555) (by decide +kernel) rfl
theorem im_yX6_bringTo : Cond.instanceMethod yX6_bringTo ∈ UT := ut (i := 557) (by decide +kernel) rfl
theorem co_yX6_bringTo : Cond.code yX6_bringTo cX6_bringTo 4 (some .boolean) ∈ UT := ut (i := 558) (by decide +kernel) rfl
theorem ml_L_77 : Cond.methodLink RL 77 yX7_step ∈ UT := ut (i := 560) (by decide +kernel) rfl
theorem im_yX7_step : Cond.instanceMethod yX7_step ∈ UT := ut (i := 561) (by decide +kernel) rfl
theorem se_yX7_step : Cond.selects RX7 yX7_step yX7_step ∈ UT := ut (i := 562) (by decide +kernel) rfl
theorem co_yX7_step : Cond.code yX7_step cX7_step 2 (some .int) ∈ UT := ut (i := 563) (by decide +kernel) rfl
theorem ml_X7_221 : Cond.methodLink RX7 221 yX6_neededRules ∈ UT := ut (i := 564) (by decide +kernel) rfl
theorem im_yX6_neededRules : Cond.instanceMethod yX6_neededRules ∈ UT := ut (i := 565) (by decide +kernel) rfl
theorem se_yX6_neededRules : Cond.selects RX6 yX6_neededRules yX6_neededRules ∈ UT := ut (i := 566) (by decide +kernel) rfl
theorem co_yX6_neededRules : Cond.code yX6_neededRules cX6_neededRules 4 (some .int) ∈ UT := ut (i := 567) (by decide +kernel) rfl
theorem ml_L_81 : Cond.methodLink RL 81 yX7_barred ∈ UT := ut (i := 569) (by decide +kernel) rfl
theorem im_yX7_barred : Cond.instanceMethod yX7_barred ∈ UT := ut (i := 570) (by decide +kernel) rfl
theorem se_yX7_barred : Cond.selects RX7 yX7_barred yX7_barred ∈ UT := ut (i := 571) (by decide +kernel) rfl
theorem co_yX7_barred : Cond.code yX7_barred cX7_barred 2 (some .int) ∈ UT := ut (i := 572) (by decide +kernel) rfl
theorem ml_X7_224 : Cond.methodLink RX7 224 yX6_fewestBars ∈ UT := ut (i := 573) (by decide +kernel) rfl
theorem im_yX6_fewestBars : Cond.instanceMethod yX6_fewestBars ∈ UT := ut (i := 574) (by decide +kernel) rfl
theorem se_yX6_fewestBars : Cond.selects RX6 yX6_fewestBars yX6_fewestBars ∈ UT := ut (i := 575) (by decide +kernel) rfl
theorem co_yX6_fewestBars : Cond.code yX6_fewestBars cX6_fewestBars 6 (some .int) ∈ UT := ut (i := 576) (by decide +kernel) rfl
theorem ml_L_85 : Cond.methodLink RL 85 yX7_never ∈ UT := ut (i := 577) (by decide +kernel) rfl
theorem im_yX7_never : Cond.instanceMethod yX7_never ∈ UT := ut (i := 578) (by decide +kernel) rfl
theorem se_yX7_never : Cond.selects RX7 yX7_never yX7_never ∈ UT := ut (i := 579) (by decide +kernel) rfl
theorem co_yX7_never : Cond.code yX7_never cX7_never 1 (some .int) ∈ UT := ut (i := 580) (by decide +kernel) rfl
theorem ml_X7_227 : Cond.methodLink RX7 227 yX4_allSayings ∈ UT := ut (i := 581) (by decide +kernel) rfl
theorem ml_X7_230 : Cond.methodLink RX7 230 yX4_concludedBy ∈ UT := ut (i := 582) (by decide +kernel) rfl
theorem im_yX4_concludedBy : Cond.instanceMethod yX4_concludedBy ∈ UT := ut (i := 583) (by decide +kernel) rfl
theorem se_yX4_concludedBy : Cond.selects RX4 yX4_concludedBy yX4_concludedBy ∈ UT := ut (i := 584) (by decide +kernel) rfl
theorem co_yX4_concludedBy : Cond.code yX4_concludedBy cX4_concludedBy 4 (some .int) ∈ UT := ut (i := 585) (by decide +kernel) rfl
theorem ml_L_89 : Cond.methodLink RL 89 yX7_round ∈ UT := ut (i := 586) (by decide +kernel) rfl
theorem im_yX7_round : Cond.instanceMethod yX7_round ∈ UT := ut (i := 587) (by decide +kernel) rfl
theorem se_yX7_round : Cond.selects RX7 yX7_round yX7_round ∈ UT := ut (i := 588) (by decide +kernel) rfl
theorem co_yX7_round : Cond.code yX7_round cX7_round 1 (some .int) ∈ UT := ut (i := 589) (by decide +kernel) rfl
theorem ml_X7_233 : Cond.methodLink RX7 233 yX6_circles ∈ UT := ut (i := 590) (by decide +kernel) rfl
theorem im_yX6_circles : Cond.instanceMethod yX6_circles ∈ UT := ut (i := 591) (by decide +kernel) rfl
theorem se_yX6_circles : Cond.selects RX6 yX6_circles yX6_circles ∈ UT := ut (i := 592) (by decide +kernel) rfl
theorem co_yX6_circles : Cond.code yX6_circles cX6_circles 3 (some .int) ∈ UT := ut (i := 593) (by decide +kernel) rfl
theorem ml_X6_75 : Cond.methodLink RX6 75 yX6_returnsTo ∈ UT := ut (i := 594) (by decide +kernel) rfl
theorem im_yX6_returnsTo : Cond.instanceMethod yX6_returnsTo ∈ UT := ut (i := 596) (by decide +kernel) rfl
theorem co_yX6_returnsTo : Cond.code yX6_returnsTo cX6_returnsTo 4 (some .boolean) ∈ UT := ut (i := 597) (by decide +kernel) rfl
theorem ml_L_93 : Cond.methodLink RL 93 yX7_vote ∈ UT := ut (i := 598) (by decide +kernel) rfl
theorem im_yX7_vote : Cond.instanceMethod yX7_vote ∈ UT := ut (i := 599) (by decide +kernel) rfl
theorem se_yX7_vote : Cond.selects RX7 yX7_vote yX7_vote ∈ UT := ut (i := 600) (by decide +kernel) rfl
theorem co_yX7_vote : Cond.code yX7_vote cX7_vote 6 (some .int) ∈ UT := ut (i := 601) (by decide +kernel) rfl
theorem ml_X7_236 : Cond.methodLink RX7 236 yX7_shareVotes ∈ UT := ut (i := 602) (by decide +kernel) rfl
theorem im_yX7_shareVotes : Cond.instanceMethod yX7_shareVotes ∈ UT := ut (i := 604) (by decide +kernel) rfl
theorem co_yX7_shareVotes : Cond.code yX7_shareVotes cX7_shareVotes 7 none ∈ UT := ut (i := 605) (by decide +kernel) rfl
theorem kl_X7_240 : Cond.constantLong RX7 240 (1000000000) ∈ UT := ut (i := 606) (by decide +kernel) rfl
theorem kl_X7_242 : Cond.constantLong RX7 242 (100) ∈ UT := ut (i := 607) (by decide +kernel) rfl
theorem ml_L_97 : Cond.methodLink RL 97 yX7_ask ∈ UT := ut (i := 608) (by decide +kernel) rfl
theorem im_yX7_ask : Cond.instanceMethod yX7_ask ∈ UT := ut (i := 609) (by decide +kernel) rfl
theorem se_yX7_ask : Cond.selects RX7 yX7_ask yX7_ask ∈ UT := ut (i := 610) (by decide +kernel) rfl
theorem co_yX7_ask : Cond.code yX7_ask cX7_ask 4 (some .int) ∈ UT := ut (i := 611) (by decide +kernel) rfl
theorem ml_X7_244 : Cond.methodLink RX7 244 yX3_add ∈ UT := ut (i := 612) (by decide +kernel) rfl
theorem im_yX3_add : Cond.instanceMethod yX3_add ∈ UT := ut (i := 613) (by decide +kernel) rfl
theorem se_yX3_add : Cond.selects RX3 yX3_add yX3_add ∈ UT := ut (i := 614) (by decide +kernel) rfl
theorem co_yX3_add : Cond.code yX3_add cX3_add 4 (some .boolean) ∈ UT := ut (i := 615) (by decide +kernel) rfl
theorem ml_L_102 : Cond.methodLink RL 102 yX7_believed ∈ UT := ut (i := 616) (by decide +kernel) rfl
theorem im_yX7_believed : Cond.instanceMethod yX7_believed ∈ UT := ut (i := 617) (by decide +kernel) rfl
theorem se_yX7_believed : Cond.selects RX7 yX7_believed yX7_believed ∈ UT := ut (i := 618) (by decide +kernel) rfl
theorem co_yX7_believed : Cond.code yX7_believed cX7_believed 6 (some .int) ∈ UT := ut (i := 619) (by decide +kernel) rfl
theorem ml_X7_250 : Cond.methodLink RX7 250 yX3_fit ∈ UT := ut (i := 620) (by decide +kernel) rfl
theorem im_yX3_fit : Cond.instanceMethod yX3_fit ∈ UT := ut (i := 621) (by decide +kernel) rfl
theorem se_yX3_fit : Cond.selects RX3 yX3_fit yX3_fit ∈ UT := ut (i := 622) (by decide +kernel) rfl
theorem co_yX3_fit : Cond.code yX3_fit cX3_fit 4 (some .boolean) ∈ UT := ut (i := 623) (by decide +kernel) rfl
theorem ml_X3_26 : Cond.methodLink RX3 26 yX4_closure ∈ UT := ut (i := 624) (by decide +kernel) rfl
theorem ml_L_106 : Cond.methodLink RL 106 yX7_askNext ∈ UT := ut (i := 626) (by decide +kernel) rfl
theorem im_yX7_askNext : Cond.instanceMethod yX7_askNext ∈ UT := ut (i := 627) (by decide +kernel) rfl
theorem se_yX7_askNext : Cond.selects RX7 yX7_askNext yX7_askNext ∈ UT := ut (i := 628) (by decide +kernel) rfl
theorem co_yX7_askNext : Cond.code yX7_askNext cX7_askNext 6 (some .int) ∈ UT := ut (i := 629) (by decide +kernel) rfl
theorem ml_X7_254 : Cond.methodLink RX7 254 yX7_countAnswers ∈ UT := ut (i := 630) (by decide +kernel) rfl
theorem im_yX7_countAnswers : Cond.instanceMethod yX7_countAnswers ∈ UT := ut (i := 632) (by decide +kernel) rfl
theorem co_yX7_countAnswers : Cond.code yX7_countAnswers cX7_countAnswers 3 (some .int) ∈ UT := ut (i := 633) (by decide +kernel) rfl
theorem ml_X7_262 : Cond.methodLink RX7 262 yX7_countYes ∈ UT := ut (i := 634) (by decide +kernel) rfl
theorem im_yX7_countYes : Cond.instanceMethod yX7_countYes ∈ UT := ut (i := 636) (by decide +kernel) rfl
theorem co_yX7_countYes : Cond.code yX7_countYes cX7_countYes 3 none ∈ UT := ut (i := 637) (by decide +kernel) rfl
theorem ml_X7_257 : Cond.methodLink RX7 257 Lib.Math.max.name ∈ UT := ut (i := 638) (by decide +kernel) rfl
theorem sm_Lib_Math_max_name : Cond.static Lib.Math.max.name ∈ UT := ut (i := 639) (by decide +kernel) rfl
theorem co_Lib_Math_max_name : Cond.code Lib.Math.max.name Lib.Math.max.code 2 (some .int) ∈ UT := ut (i := 640) (by decide +kernel) rfl
theorem ml_L_110 : Cond.methodLink RL 110 yX7_write ∈ UT := ut (i := 641) (by decide +kernel) rfl
theorem im_yX7_write : Cond.instanceMethod yX7_write ∈ UT := ut (i := 642) (by decide +kernel) rfl
theorem se_yX7_write : Cond.selects RX7 yX7_write yX7_write ∈ UT := ut (i := 643) (by decide +kernel) rfl
theorem co_yX7_write : Cond.code yX7_write cX7_write 3 (some .int) ∈ UT := ut (i := 644) (by decide +kernel) rfl
theorem ml_X7_266 : Cond.methodLink RX7 266 yX0_add ∈ UT := ut (i := 645) (by decide +kernel) rfl
theorem im_yX0_add : Cond.instanceMethod yX0_add ∈ UT := ut (i := 646) (by decide +kernel) rfl
theorem se_yX0_add : Cond.selects RX0 yX0_add yX0_add ∈ UT := ut (i := 647) (by decide +kernel) rfl
theorem co_yX0_add : Cond.code yX0_add cX0_add 3 (some .boolean) ∈ UT := ut (i := 648) (by decide +kernel) rfl
theorem ml_L_114 : Cond.methodLink RL 114 yX7_tear ∈ UT := ut (i := 649) (by decide +kernel) rfl
theorem im_yX7_tear : Cond.instanceMethod yX7_tear ∈ UT := ut (i := 650) (by decide +kernel) rfl
theorem se_yX7_tear : Cond.selects RX7 yX7_tear yX7_tear ∈ UT := ut (i := 651) (by decide +kernel) rfl
theorem co_yX7_tear : Cond.code yX7_tear cX7_tear 2 (some .int) ∈ UT := ut (i := 652) (by decide +kernel) rfl
theorem ml_L_118 : Cond.methodLink RL 118 yX7_judge ∈ UT := ut (i := 653) (by decide +kernel) rfl
theorem im_yX7_judge : Cond.instanceMethod yX7_judge ∈ UT := ut (i := 654) (by decide +kernel) rfl
theorem se_yX7_judge : Cond.selects RX7 yX7_judge yX7_judge ∈ UT := ut (i := 655) (by decide +kernel) rfl
theorem co_yX7_judge : Cond.code yX7_judge cX7_judge 1 (some .int) ∈ UT := ut (i := 656) (by decide +kernel) rfl
theorem ml_X7_269 : Cond.methodLink RX7 269 yX0_firstWrong ∈ UT := ut (i := 657) (by decide +kernel) rfl
theorem im_yX0_firstWrong : Cond.instanceMethod yX0_firstWrong ∈ UT := ut (i := 658) (by decide +kernel) rfl
theorem se_yX0_firstWrong : Cond.selects RX0 yX0_firstWrong yX0_firstWrong ∈ UT := ut (i := 659) (by decide +kernel) rfl
theorem co_yX0_firstWrong : Cond.code yX0_firstWrong cX0_firstWrong 3 (some .int) ∈ UT := ut (i := 660) (by decide +kernel) rfl
theorem ml_L_122 : Cond.methodLink RL 122 yX7_seed ∈ UT := ut (i := 662) (by decide +kernel) rfl
theorem im_yX7_seed : Cond.instanceMethod yX7_seed ∈ UT := ut (i := 663) (by decide +kernel) rfl
theorem se_yX7_seed : Cond.selects RX7 yX7_seed yX7_seed ∈ UT := ut (i := 664) (by decide +kernel) rfl
theorem co_yX7_seed : Cond.code yX7_seed cX7_seed 3 (some .int) ∈ UT := ut (i := 665) (by decide +kernel) rfl
theorem ml_L_126 : Cond.methodLink RL 126 yX7_keep ∈ UT := ut (i := 666) (by decide +kernel) rfl
theorem im_yX7_keep : Cond.instanceMethod yX7_keep ∈ UT := ut (i := 667) (by decide +kernel) rfl
theorem se_yX7_keep : Cond.selects RX7 yX7_keep yX7_keep ∈ UT := ut (i := 668) (by decide +kernel) rfl
theorem co_yX7_keep : Cond.code yX7_keep cX7_keep 2 (some .int) ∈ UT := ut (i := 669) (by decide +kernel) rfl
theorem ml_L_130 : Cond.methodLink RL 130 yX7_goBack ∈ UT := ut (i := 670) (by decide +kernel) rfl
theorem im_yX7_goBack : Cond.instanceMethod yX7_goBack ∈ UT := ut (i := 671) (by decide +kernel) rfl
theorem se_yX7_goBack : Cond.selects RX7 yX7_goBack yX7_goBack ∈ UT := ut (i := 672) (by decide +kernel) rfl
theorem co_yX7_goBack : Cond.code yX7_goBack cX7_goBack 3 (some .int) ∈ UT := ut (i := 673) (by decide +kernel) rfl
theorem cl_L_10 : Cond.classLink RL 10 RX8 ∈ UT := ut (i := 674) (by decide +kernel) rfl
theorem ic_X8 : Cond.instantiable RX8 32 ∈ UT := ut (i := 675) (by decide +kernel) rfl
theorem ml_L_12 : Cond.methodLink RL 12 yX8_init ∈ UT := ut (i := 676) (by decide +kernel) rfl
theorem im_yX8_init : Cond.instanceMethod yX8_init ∈ UT := ut (i := 677) (by decide +kernel) rfl
theorem co_yX8_init : Cond.code yX8_init cX8_init 1 none ∈ UT := ut (i := 678) (by decide +kernel) rfl
theorem ml_X8_1 : Cond.methodLink RX8 1 objectInit ∈ UT := ut (i := 679) (by decide +kernel) rfl
theorem fl_X8_70 : Cond.fieldLink RX8 70 (TX8 0).1 (TX8 0).2.1 (TX8 0).2.2.1 ∈ UT := ut (i := 680) (by decide +kernel) rfl
theorem fl_X8_77 : Cond.fieldLink RX8 77 (TX8 1).1 (TX8 1).2.1 (TX8 1).2.2.1 ∈ UT := ut (i := 681) (by decide +kernel) rfl
theorem fl_X8_7 : Cond.fieldLink RX8 7 (TX8 2).1 (TX8 2).2.1 (TX8 2).2.2.1 ∈ UT := ut (i := 682) (by decide +kernel) rfl
theorem fl_X8_13 : Cond.fieldLink RX8 13 (TX8 3).1 (TX8 3).2.1 (TX8 3).2.2.1 ∈ UT := ut (i := 683) (by decide +kernel) rfl
theorem fl_X8_16 : Cond.fieldLink RX8 16 (TX8 4).1 (TX8 4).2.1 (TX8 4).2.2.1 ∈ UT := ut (i := 684) (by decide +kernel) rfl
theorem fl_X8_19 : Cond.fieldLink RX8 19 (TX8 5).1 (TX8 5).2.1 (TX8 5).2.2.1 ∈ UT := ut (i := 685) (by decide +kernel) rfl
theorem fl_X8_180 : Cond.fieldLink RX8 180 (TX8 6).1 (TX8 6).2.1 (TX8 6).2.2.1 ∈ UT := ut (i := 686) (by decide +kernel) rfl
theorem fl_X8_22 : Cond.fieldLink RX8 22 (TX8 7).1 (TX8 7).2.1 (TX8 7).2.2.1 ∈ UT := ut (i := 687) (by decide +kernel) rfl
theorem fl_X8_83 : Cond.fieldLink RX8 83 (TX8 8).1 (TX8 8).2.1 (TX8 8).2.2.1 ∈ UT := ut (i := 688) (by decide +kernel) rfl
theorem fl_X8_25 : Cond.fieldLink RX8 25 (TX8 9).1 (TX8 9).2.1 (TX8 9).2.2.1 ∈ UT := ut (i := 689) (by decide +kernel) rfl
theorem fl_X8_87 : Cond.fieldLink RX8 87 (TX8 10).1 (TX8 10).2.1 (TX8 10).2.2.1 ∈ UT := ut (i := 690) (by decide +kernel) rfl
theorem fl_X8_105 : Cond.fieldLink RX8 105 (TX8 11).1 (TX8 11).2.1 (TX8 11).2.2.1 ∈ UT := ut (i := 691) (by decide +kernel) rfl
theorem fl_X8_102 : Cond.fieldLink RX8 102 (TX8 12).1 (TX8 12).2.1 (TX8 12).2.2.1 ∈ UT := ut (i := 692) (by decide +kernel) rfl
theorem fl_X8_111 : Cond.fieldLink RX8 111 (TX8 13).1 (TX8 13).2.1 (TX8 13).2.2.1 ∈ UT := ut (i := 693) (by decide +kernel) rfl
theorem fl_X8_118 : Cond.fieldLink RX8 118 (TX8 14).1 (TX8 14).2.1 (TX8 14).2.2.1 ∈ UT := ut (i := 694) (by decide +kernel) rfl
theorem fl_X8_29 : Cond.fieldLink RX8 29 (TX8 15).1 (TX8 15).2.1 (TX8 15).2.2.1 ∈ UT := ut (i := 695) (by decide +kernel) rfl
theorem fl_X8_32 : Cond.fieldLink RX8 32 (TX8 16).1 (TX8 16).2.1 (TX8 16).2.2.1 ∈ UT := ut (i := 696) (by decide +kernel) rfl
theorem fl_X8_35 : Cond.fieldLink RX8 35 (TX8 17).1 (TX8 17).2.1 (TX8 17).2.2.1 ∈ UT := ut (i := 697) (by decide +kernel) rfl
theorem fl_X8_125 : Cond.fieldLink RX8 125 (TX8 18).1 (TX8 18).2.1 (TX8 18).2.2.1 ∈ UT := ut (i := 698) (by decide +kernel) rfl
theorem fl_X8_146 : Cond.fieldLink RX8 146 (TX8 19).1 (TX8 19).2.1 (TX8 19).2.2.1 ∈ UT := ut (i := 699) (by decide +kernel) rfl
theorem fl_X8_38 : Cond.fieldLink RX8 38 (TX8 20).1 (TX8 20).2.1 (TX8 20).2.2.1 ∈ UT := ut (i := 700) (by decide +kernel) rfl
theorem fl_X8_41 : Cond.fieldLink RX8 41 (TX8 21).1 (TX8 21).2.1 (TX8 21).2.2.1 ∈ UT := ut (i := 701) (by decide +kernel) rfl
theorem fl_X8_140 : Cond.fieldLink RX8 140 (TX8 22).1 (TX8 22).2.1 (TX8 22).2.2.1 ∈ UT := ut (i := 702) (by decide +kernel) rfl
theorem fl_X8_45 : Cond.fieldLink RX8 45 (TX8 23).1 (TX8 23).2.1 (TX8 23).2.2.1 ∈ UT := ut (i := 703) (by decide +kernel) rfl
theorem fl_X8_48 : Cond.fieldLink RX8 48 (TX8 24).1 (TX8 24).2.1 (TX8 24).2.2.1 ∈ UT := ut (i := 704) (by decide +kernel) rfl
theorem fl_X8_51 : Cond.fieldLink RX8 51 (TX8 25).1 (TX8 25).2.1 (TX8 25).2.2.1 ∈ UT := ut (i := 705) (by decide +kernel) rfl
theorem fl_X8_55 : Cond.fieldLink RX8 55 (TX8 26).1 (TX8 26).2.1 (TX8 26).2.2.1 ∈ UT := ut (i := 706) (by decide +kernel) rfl
theorem fl_X8_143 : Cond.fieldLink RX8 143 (TX8 27).1 (TX8 27).2.1 (TX8 27).2.2.1 ∈ UT := ut (i := 707) (by decide +kernel) rfl
theorem fl_X8_58 : Cond.fieldLink RX8 58 (TX8 28).1 (TX8 28).2.1 (TX8 28).2.2.1 ∈ UT := ut (i := 708) (by decide +kernel) rfl
theorem fl_X8_61 : Cond.fieldLink RX8 61 (TX8 29).1 (TX8 29).2.1 (TX8 29).2.2.1 ∈ UT := ut (i := 709) (by decide +kernel) rfl
theorem fl_X8_64 : Cond.fieldLink RX8 64 (TX8 30).1 (TX8 30).2.1 (TX8 30).2.2.1 ∈ UT := ut (i := 710) (by decide +kernel) rfl
theorem fl_X8_67 : Cond.fieldLink RX8 67 (TX8 31).1 (TX8 31).2.1 (TX8 31).2.2.1 ∈ UT := ut (i := 711) (by decide +kernel) rfl
theorem ml_L_17 : Cond.methodLink RL 17 yX8_feed ∈ UT := ut (i := 777) (by decide +kernel) rfl
theorem im_yX8_feed : Cond.instanceMethod yX8_feed ∈ UT := ut (i := 778) (by decide +kernel) rfl
theorem se_yX8_feed : Cond.selects RX8 yX8_feed yX8_feed ∈ UT := ut (i := 779) (by decide +kernel) rfl
theorem co_yX8_feed : Cond.code yX8_feed cX8_feed 2 (some .int) ∈ UT := ut (i := 780) (by decide +kernel) rfl
theorem kl_X8_80 : Cond.constantLong RX8 80 (255) ∈ UT := ut (i := 781) (by decide +kernel) rfl
theorem ml_X8_73 : Cond.methodLink RX8 73 yX8_in ∈ UT := ut (i := 782) (by decide +kernel) rfl
theorem sm_yX8_in : Cond.static yX8_in ∈ UT := ut (i := 783) (by decide +kernel) rfl
theorem co_yX8_in : Cond.code yX8_in cX8_in 6 (some .boolean) ∈ UT := ut (i := 784) (by decide +kernel) rfl
theorem kc_X8_82 : Cond.constant RX8 82 (-1000000002) ∈ UT := ut (i := 785) (by decide +kernel) rfl
theorem kc_X8_86 : Cond.constant RX8 86 (-1000000004) ∈ UT := ut (i := 786) (by decide +kernel) rfl
theorem ml_L_22 : Cond.methodLink RL 22 yX8_town ∈ UT := ut (i := 787) (by decide +kernel) rfl
theorem im_yX8_town : Cond.instanceMethod yX8_town ∈ UT := ut (i := 788) (by decide +kernel) rfl
theorem se_yX8_town : Cond.selects RX8 yX8_town yX8_town ∈ UT := ut (i := 789) (by decide +kernel) rfl
theorem co_yX8_town : Cond.code yX8_town cX8_town 3 (some .int) ∈ UT := ut (i := 790) (by decide +kernel) rfl
theorem ml_X8_90 : Cond.methodLink RX8 90 yX8_here ∈ UT := ut (i := 791) (by decide +kernel) rfl
theorem im_yX8_here : Cond.instanceMethod yX8_here ∈ UT := ut (i := 793) (by decide +kernel) rfl
theorem co_yX8_here : Cond.code yX8_here cX8_here 1 (some .int) ∈ UT := ut (i := 794) (by decide +kernel) rfl
theorem ml_X8_137 : Cond.methodLink RX8 137 yX8_takeClause ∈ UT := ut (i := 795) (by decide +kernel) rfl
theorem im_yX8_takeClause : Cond.instanceMethod yX8_takeClause ∈ UT := ut (i := 797) (by decide +kernel) rfl
theorem co_yX8_takeClause : Cond.code yX8_takeClause cX8_takeClause 4 (some .int) ∈ UT := ut (i := 798) (by decide +kernel) rfl
theorem ml_X8_98 : Cond.methodLink RX8 98 yX8_fails ∈ UT := ut (i := 799) (by decide +kernel) rfl
theorem im_yX8_fails : Cond.instanceMethod yX8_fails ∈ UT := ut (i := 801) (by decide +kernel) rfl
theorem co_yX8_fails : Cond.code yX8_fails cX8_fails 3 (some .int) ∈ UT := ut (i := 802) (by decide +kernel) rfl
theorem ml_X8_128 : Cond.methodLink RX8 128 yX8_takeThings ∈ UT := ut (i := 803) (by decide +kernel) rfl
theorem im_yX8_takeThings : Cond.instanceMethod yX8_takeThings ∈ UT := ut (i := 805) (by decide +kernel) rfl
theorem co_yX8_takeThings : Cond.code yX8_takeThings cX8_takeThings 2 (some .int) ∈ UT := ut (i := 806) (by decide +kernel) rfl
theorem ml_X8_108 : Cond.methodLink RX8 108 yX8_takeNumber ∈ UT := ut (i := 807) (by decide +kernel) rfl
theorem im_yX8_takeNumber : Cond.instanceMethod yX8_takeNumber ∈ UT := ut (i := 809) (by decide +kernel) rfl
theorem co_yX8_takeNumber : Cond.code yX8_takeNumber cX8_takeNumber 4 (some .int) ∈ UT := ut (i := 810) (by decide +kernel) rfl
theorem kl_X8_94 : Cond.constantLong RX8 94 (48) ∈ UT := ut (i := 811) (by decide +kernel) rfl
theorem kl_X8_96 : Cond.constantLong RX8 96 (57) ∈ UT := ut (i := 812) (by decide +kernel) rfl
theorem ml_X8_131 : Cond.methodLink RX8 131 yX8_takeRule ∈ UT := ut (i := 813) (by decide +kernel) rfl
theorem im_yX8_takeRule : Cond.instanceMethod yX8_takeRule ∈ UT := ut (i := 815) (by decide +kernel) rfl
theorem co_yX8_takeRule : Cond.code yX8_takeRule cX8_takeRule 4 (some .int) ∈ UT := ut (i := 816) (by decide +kernel) rfl
theorem ml_X8_121 : Cond.methodLink RX8 121 yX8_takeSaying ∈ UT := ut (i := 817) (by decide +kernel) rfl
theorem im_yX8_takeSaying : Cond.instanceMethod yX8_takeSaying ∈ UT := ut (i := 819) (by decide +kernel) rfl
theorem co_yX8_takeSaying : Cond.code yX8_takeSaying cX8_takeSaying 3 (some .int) ∈ UT := ut (i := 820) (by decide +kernel) rfl
theorem ml_X8_114 : Cond.methodLink RX8 114 yX8_has ∈ UT := ut (i := 821) (by decide +kernel) rfl
theorem sm_yX8_has : Cond.static yX8_has ∈ UT := ut (i := 822) (by decide +kernel) rfl
theorem co_yX8_has : Cond.code yX8_has cX8_has 2 (some .boolean) ∈ UT := ut (i := 823) (by decide +kernel) rfl
theorem ml_X8_134 : Cond.methodLink RX8 134 yX8_takeSeen ∈ UT := ut (i := 824) (by decide +kernel) rfl
theorem im_yX8_takeSeen : Cond.instanceMethod yX8_takeSeen ∈ UT := ut (i := 826) (by decide +kernel) rfl
theorem co_yX8_takeSeen : Cond.code yX8_takeSeen cX8_takeSeen 2 (some .int) ∈ UT := ut (i := 827) (by decide +kernel) rfl
theorem ml_L_26 : Cond.methodLink RL 26 yX8_fault ∈ UT := ut (i := 828) (by decide +kernel) rfl
theorem im_yX8_fault : Cond.instanceMethod yX8_fault ∈ UT := ut (i := 829) (by decide +kernel) rfl
theorem se_yX8_fault : Cond.selects RX8 yX8_fault yX8_fault ∈ UT := ut (i := 830) (by decide +kernel) rfl
theorem co_yX8_fault : Cond.code yX8_fault cX8_fault 1 (some .int) ∈ UT := ut (i := 831) (by decide +kernel) rfl
theorem ml_L_30 : Cond.methodLink RL 30 yX8_told ∈ UT := ut (i := 832) (by decide +kernel) rfl
theorem im_yX8_told : Cond.instanceMethod yX8_told ∈ UT := ut (i := 833) (by decide +kernel) rfl
theorem se_yX8_told : Cond.selects RX8 yX8_told yX8_told ∈ UT := ut (i := 834) (by decide +kernel) rfl
theorem co_yX8_told : Cond.code yX8_told cX8_told 2 (some .int) ∈ UT := ut (i := 835) (by decide +kernel) rfl
theorem ml_X8_155 : Cond.methodLink RX8 155 yX8_followsNow ∈ UT := ut (i := 836) (by decide +kernel) rfl
theorem im_yX8_followsNow : Cond.instanceMethod yX8_followsNow ∈ UT := ut (i := 838) (by decide +kernel) rfl
theorem co_yX8_followsNow : Cond.code yX8_followsNow cX8_followsNow 1 (some .int) ∈ UT := ut (i := 839) (by decide +kernel) rfl
theorem ml_X8_149 : Cond.methodLink RX8 149 yX8_allowed ∈ UT := ut (i := 840) (by decide +kernel) rfl
theorem im_yX8_allowed : Cond.instanceMethod yX8_allowed ∈ UT := ut (i := 842) (by decide +kernel) rfl
theorem co_yX8_allowed : Cond.code yX8_allowed cX8_allowed 1 (some .int) ∈ UT := ut (i := 843) (by decide +kernel) rfl
theorem ml_X8_152 : Cond.methodLink RX8 152 yX8_close ∈ UT := ut (i := 844) (by decide +kernel) rfl
theorem im_yX8_close : Cond.instanceMethod yX8_close ∈ UT := ut (i := 846) (by decide +kernel) rfl
theorem co_yX8_close : Cond.code yX8_close cX8_close 6 (some .int) ∈ UT := ut (i := 847) (by decide +kernel) rfl
theorem ml_X8_158 : Cond.methodLink RX8 158 yX8_quarrels ∈ UT := ut (i := 848) (by decide +kernel) rfl
theorem sm_yX8_quarrels : Cond.static yX8_quarrels ∈ UT := ut (i := 849) (by decide +kernel) rfl
theorem co_yX8_quarrels : Cond.code yX8_quarrels cX8_quarrels 3 (some .int) ∈ UT := ut (i := 850) (by decide +kernel) rfl
theorem ml_L_35 : Cond.methodLink RL 35 yX8_rule ∈ UT := ut (i := 851) (by decide +kernel) rfl
theorem im_yX8_rule : Cond.instanceMethod yX8_rule ∈ UT := ut (i := 852) (by decide +kernel) rfl
theorem se_yX8_rule : Cond.selects RX8 yX8_rule yX8_rule ∈ UT := ut (i := 853) (by decide +kernel) rfl
theorem co_yX8_rule : Cond.code yX8_rule cX8_rule 3 (some .int) ∈ UT := ut (i := 854) (by decide +kernel) rfl
theorem ml_X8_161 : Cond.methodLink RX8 161 yX8_isRule ∈ UT := ut (i := 855) (by decide +kernel) rfl
theorem im_yX8_isRule : Cond.instanceMethod yX8_isRule ∈ UT := ut (i := 857) (by decide +kernel) rfl
theorem co_yX8_isRule : Cond.code yX8_isRule cX8_isRule 2 (some .boolean) ∈ UT := ut (i := 858) (by decide +kernel) rfl
theorem kc_X8_165 : Cond.constant RX8 165 (-1000000001) ∈ UT := ut (i := 859) (by decide +kernel) rfl
theorem ml_L_40 : Cond.methodLink RL 40 yX8_see ∈ UT := ut (i := 860) (by decide +kernel) rfl
theorem im_yX8_see : Cond.instanceMethod yX8_see ∈ UT := ut (i := 861) (by decide +kernel) rfl
theorem se_yX8_see : Cond.selects RX8 yX8_see yX8_see ∈ UT := ut (i := 862) (by decide +kernel) rfl
theorem co_yX8_see : Cond.code yX8_see cX8_see 4 (some .int) ∈ UT := ut (i := 863) (by decide +kernel) rfl
theorem ml_X8_166 : Cond.methodLink RX8 166 yX8_isSaying ∈ UT := ut (i := 864) (by decide +kernel) rfl
theorem im_yX8_isSaying : Cond.instanceMethod yX8_isSaying ∈ UT := ut (i := 866) (by decide +kernel) rfl
theorem co_yX8_isSaying : Cond.code yX8_isSaying cX8_isSaying 2 (some .boolean) ∈ UT := ut (i := 867) (by decide +kernel) rfl
theorem ml_X8_169 : Cond.methodLink RX8 169 yX8_remember ∈ UT := ut (i := 868) (by decide +kernel) rfl
theorem im_yX8_remember : Cond.instanceMethod yX8_remember ∈ UT := ut (i := 870) (by decide +kernel) rfl
theorem co_yX8_remember : Cond.code yX8_remember cX8_remember 2 none ∈ UT := ut (i := 871) (by decide +kernel) rfl
theorem ml_X8_172 : Cond.methodLink RX8 172 yX8_with ∈ UT := ut (i := 872) (by decide +kernel) rfl
theorem sm_yX8_with : Cond.static yX8_with ∈ UT := ut (i := 873) (by decide +kernel) rfl
theorem co_yX8_with : Cond.code yX8_with cX8_with 3 (some .int) ∈ UT := ut (i := 874) (by decide +kernel) rfl
theorem ml_L_44 : Cond.methodLink RL 44 yX8_forbid ∈ UT := ut (i := 875) (by decide +kernel) rfl
theorem im_yX8_forbid : Cond.instanceMethod yX8_forbid ∈ UT := ut (i := 876) (by decide +kernel) rfl
theorem se_yX8_forbid : Cond.selects RX8 yX8_forbid yX8_forbid ∈ UT := ut (i := 877) (by decide +kernel) rfl
theorem co_yX8_forbid : Cond.code yX8_forbid cX8_forbid 4 (some .int) ∈ UT := ut (i := 878) (by decide +kernel) rfl
theorem ml_L_48 : Cond.methodLink RL 48 yX8_debate ∈ UT := ut (i := 879) (by decide +kernel) rfl
theorem im_yX8_debate : Cond.instanceMethod yX8_debate ∈ UT := ut (i := 880) (by decide +kernel) rfl
theorem se_yX8_debate : Cond.selects RX8 yX8_debate yX8_debate ∈ UT := ut (i := 881) (by decide +kernel) rfl
theorem co_yX8_debate : Cond.code yX8_debate cX8_debate 1 (some .int) ∈ UT := ut (i := 882) (by decide +kernel) rfl
theorem kc_X8_176 : Cond.constant RX8 176 (-1000000003) ∈ UT := ut (i := 883) (by decide +kernel) rfl
theorem ml_X8_177 : Cond.methodLink RX8 177 yX8_debateNow ∈ UT := ut (i := 884) (by decide +kernel) rfl
theorem im_yX8_debateNow : Cond.instanceMethod yX8_debateNow ∈ UT := ut (i := 886) (by decide +kernel) rfl
theorem co_yX8_debateNow : Cond.code yX8_debateNow cX8_debateNow 1 none ∈ UT := ut (i := 887) (by decide +kernel) rfl
theorem ml_L_52 : Cond.methodLink RL 52 yX8_drop ∈ UT := ut (i := 888) (by decide +kernel) rfl
theorem im_yX8_drop : Cond.instanceMethod yX8_drop ∈ UT := ut (i := 889) (by decide +kernel) rfl
theorem se_yX8_drop : Cond.selects RX8 yX8_drop yX8_drop ∈ UT := ut (i := 890) (by decide +kernel) rfl
theorem co_yX8_drop : Cond.code yX8_drop cX8_drop 2 (some .int) ∈ UT := ut (i := 891) (by decide +kernel) rfl
theorem ml_L_56 : Cond.methodLink RL 56 yX8_drift ∈ UT := ut (i := 892) (by decide +kernel) rfl
theorem im_yX8_drift : Cond.instanceMethod yX8_drift ∈ UT := ut (i := 893) (by decide +kernel) rfl
theorem se_yX8_drift : Cond.selects RX8 yX8_drift yX8_drift ∈ UT := ut (i := 894) (by decide +kernel) rfl
theorem co_yX8_drift : Cond.code yX8_drift cX8_drift 4 (some .int) ∈ UT := ut (i := 895) (by decide +kernel) rfl
theorem kl_X8_190 : Cond.constantLong RX8 190 (60) ∈ UT := ut (i := 896) (by decide +kernel) rfl
theorem ml_X8_192 : Cond.methodLink RX8 192 yX8_draw ∈ UT := ut (i := 897) (by decide +kernel) rfl
theorem im_yX8_draw : Cond.instanceMethod yX8_draw ∈ UT := ut (i := 899) (by decide +kernel) rfl
theorem co_yX8_draw : Cond.code yX8_draw cX8_draw 2 (some .int) ∈ UT := ut (i := 900) (by decide +kernel) rfl
theorem kl_X8_183 : Cond.constantLong RX8 183 (1103515245) ∈ UT := ut (i := 901) (by decide +kernel) rfl
theorem kl_X8_185 : Cond.constantLong RX8 185 (12345) ∈ UT := ut (i := 902) (by decide +kernel) rfl
theorem kl_X8_187 : Cond.constantLong RX8 187 (2147483648) ∈ UT := ut (i := 903) (by decide +kernel) rfl
theorem kc_X8_189 : Cond.constant RX8 189 (65536) ∈ UT := ut (i := 904) (by decide +kernel) rfl
theorem ml_X8_195 : Cond.methodLink RX8 195 yX8_denial ∈ UT := ut (i := 905) (by decide +kernel) rfl
theorem sm_yX8_denial : Cond.static yX8_denial ∈ UT := ut (i := 906) (by decide +kernel) rfl
theorem co_yX8_denial : Cond.code yX8_denial cX8_denial 1 (some .int) ∈ UT := ut (i := 907) (by decide +kernel) rfl
theorem ml_L_60 : Cond.methodLink RL 60 yX8_undo ∈ UT := ut (i := 908) (by decide +kernel) rfl
theorem im_yX8_undo : Cond.instanceMethod yX8_undo ∈ UT := ut (i := 909) (by decide +kernel) rfl
theorem se_yX8_undo : Cond.selects RX8 yX8_undo yX8_undo ∈ UT := ut (i := 910) (by decide +kernel) rfl
theorem co_yX8_undo : Cond.code yX8_undo cX8_undo 2 (some .int) ∈ UT := ut (i := 911) (by decide +kernel) rfl
theorem ml_L_64 : Cond.methodLink RL 64 yX8_follows ∈ UT := ut (i := 912) (by decide +kernel) rfl
theorem im_yX8_follows : Cond.instanceMethod yX8_follows ∈ UT := ut (i := 913) (by decide +kernel) rfl
theorem se_yX8_follows : Cond.selects RX8 yX8_follows yX8_follows ∈ UT := ut (i := 914) (by decide +kernel) rfl
theorem co_yX8_follows : Cond.code yX8_follows cX8_follows 2 (some .int) ∈ UT := ut (i := 915) (by decide +kernel) rfl
theorem ml_X8_198 : Cond.methodLink RX8 198 yX8_isSet ∈ UT := ut (i := 916) (by decide +kernel) rfl
theorem im_yX8_isSet : Cond.instanceMethod yX8_isSet ∈ UT := ut (i := 918) (by decide +kernel) rfl
theorem co_yX8_isSet : Cond.code yX8_isSet cX8_isSet 2 (some .boolean) ∈ UT := ut (i := 919) (by decide +kernel) rfl
theorem ml_L_68 : Cond.methodLink RL 68 yX8_proof ∈ UT := ut (i := 920) (by decide +kernel) rfl
theorem im_yX8_proof : Cond.instanceMethod yX8_proof ∈ UT := ut (i := 921) (by decide +kernel) rfl
theorem se_yX8_proof : Cond.selects RX8 yX8_proof yX8_proof ∈ UT := ut (i := 922) (by decide +kernel) rfl
theorem co_yX8_proof : Cond.code yX8_proof cX8_proof 6 (some .int) ∈ UT := ut (i := 923) (by decide +kernel) rfl
theorem ml_X8_201 : Cond.methodLink RX8 201 yX8_bits ∈ UT := ut (i := 924) (by decide +kernel) rfl
theorem sm_yX8_bits : Cond.static yX8_bits ∈ UT := ut (i := 925) (by decide +kernel) rfl
theorem co_yX8_bits : Cond.code yX8_bits cX8_bits 3 (some .int) ∈ UT := ut (i := 926) (by decide +kernel) rfl
theorem ml_L_72 : Cond.methodLink RL 72 yX8_giveUp ∈ UT := ut (i := 927) (by decide +kernel) rfl
theorem im_yX8_giveUp : Cond.instanceMethod yX8_giveUp ∈ UT := ut (i := 928) (by decide +kernel) rfl
theorem se_yX8_giveUp : Cond.selects RX8 yX8_giveUp yX8_giveUp ∈ UT := ut (i := 929) (by decide +kernel) rfl
theorem co_yX8_giveUp : Cond.code yX8_giveUp cX8_giveUp 6 (some .int) ∈ UT := ut (i := 930) (by decide +kernel) rfl
theorem kc_X8_204 : Cond.constant RX8 204 (100000) ∈ UT := ut (i := 931) (by decide +kernel) rfl
theorem ml_X8_205 : Cond.methodLink RX8 205 yX8_costOf ∈ UT := ut (i := 932) (by decide +kernel) rfl
theorem im_yX8_costOf : Cond.instanceMethod yX8_costOf ∈ UT := ut (i := 934) (by decide +kernel) rfl
theorem co_yX8_costOf : Cond.code yX8_costOf cX8_costOf 4 (some .int) ∈ UT := ut (i := 935) (by decide +kernel) rfl
theorem ml_L_76 : Cond.methodLink RL 76 yX8_words ∈ UT := ut (i := 936) (by decide +kernel) rfl
theorem im_yX8_words : Cond.instanceMethod yX8_words ∈ UT := ut (i := 937) (by decide +kernel) rfl
theorem se_yX8_words : Cond.selects RX8 yX8_words yX8_words ∈ UT := ut (i := 938) (by decide +kernel) rfl
theorem co_yX8_words : Cond.code yX8_words cX8_words 7 (some .int) ∈ UT := ut (i := 939) (by decide +kernel) rfl
theorem ml_X8_208 : Cond.methodLink RX8 208 yX8_doWords ∈ UT := ut (i := 940) (by decide +kernel) rfl
theorem im_yX8_doWords : Cond.instanceMethod yX8_doWords ∈ UT := ut (i := 942) (by decide +kernel) rfl
theorem co_yX8_doWords : Cond.code yX8_doWords cX8_doWords 4 (some .boolean) ∈ UT := ut (i := 943) (by decide +kernel) rfl
theorem ml_L_80 : Cond.methodLink RL 80 yX8_step ∈ UT := ut (i := 944) (by decide +kernel) rfl
theorem im_yX8_step : Cond.instanceMethod yX8_step ∈ UT := ut (i := 945) (by decide +kernel) rfl
theorem se_yX8_step : Cond.selects RX8 yX8_step yX8_step ∈ UT := ut (i := 946) (by decide +kernel) rfl
theorem co_yX8_step : Cond.code yX8_step cX8_step 5 (some .int) ∈ UT := ut (i := 947) (by decide +kernel) rfl
theorem ml_L_84 : Cond.methodLink RL 84 yX8_barred ∈ UT := ut (i := 948) (by decide +kernel) rfl
theorem im_yX8_barred : Cond.instanceMethod yX8_barred ∈ UT := ut (i := 949) (by decide +kernel) rfl
theorem se_yX8_barred : Cond.selects RX8 yX8_barred yX8_barred ∈ UT := ut (i := 950) (by decide +kernel) rfl
theorem co_yX8_barred : Cond.code yX8_barred cX8_barred 5 (some .int) ∈ UT := ut (i := 951) (by decide +kernel) rfl
theorem ml_L_88 : Cond.methodLink RL 88 yX8_never ∈ UT := ut (i := 952) (by decide +kernel) rfl
theorem im_yX8_never : Cond.instanceMethod yX8_never ∈ UT := ut (i := 953) (by decide +kernel) rfl
theorem se_yX8_never : Cond.selects RX8 yX8_never yX8_never ∈ UT := ut (i := 954) (by decide +kernel) rfl
theorem co_yX8_never : Cond.code yX8_never cX8_never 3 (some .int) ∈ UT := ut (i := 955) (by decide +kernel) rfl
theorem ml_L_92 : Cond.methodLink RL 92 yX8_round ∈ UT := ut (i := 956) (by decide +kernel) rfl
theorem im_yX8_round : Cond.instanceMethod yX8_round ∈ UT := ut (i := 957) (by decide +kernel) rfl
theorem se_yX8_round : Cond.selects RX8 yX8_round yX8_round ∈ UT := ut (i := 958) (by decide +kernel) rfl
theorem co_yX8_round : Cond.code yX8_round cX8_round 4 (some .int) ∈ UT := ut (i := 959) (by decide +kernel) rfl
theorem ml_L_96 : Cond.methodLink RL 96 yX8_vote ∈ UT := ut (i := 960) (by decide +kernel) rfl
theorem im_yX8_vote : Cond.instanceMethod yX8_vote ∈ UT := ut (i := 961) (by decide +kernel) rfl
theorem se_yX8_vote : Cond.selects RX8 yX8_vote yX8_vote ∈ UT := ut (i := 962) (by decide +kernel) rfl
theorem co_yX8_vote : Cond.code yX8_vote cX8_vote 7 (some .int) ∈ UT := ut (i := 963) (by decide +kernel) rfl
theorem kl_X8_211 : Cond.constantLong RX8 211 (9) ∈ UT := ut (i := 964) (by decide +kernel) rfl
theorem kl_X8_213 : Cond.constantLong RX8 213 (100) ∈ UT := ut (i := 965) (by decide +kernel) rfl
theorem kl_X8_215 : Cond.constantLong RX8 215 (1000000000) ∈ UT := ut (i := 966) (by decide +kernel) rfl
theorem ml_L_101 : Cond.methodLink RL 101 yX8_ask ∈ UT := ut (i := 967) (by decide +kernel) rfl
theorem im_yX8_ask : Cond.instanceMethod yX8_ask ∈ UT := ut (i := 968) (by decide +kernel) rfl
theorem se_yX8_ask : Cond.selects RX8 yX8_ask yX8_ask ∈ UT := ut (i := 969) (by decide +kernel) rfl
theorem co_yX8_ask : Cond.code yX8_ask cX8_ask 4 (some .int) ∈ UT := ut (i := 970) (by decide +kernel) rfl
theorem ml_L_105 : Cond.methodLink RL 105 yX8_believed ∈ UT := ut (i := 971) (by decide +kernel) rfl
theorem im_yX8_believed : Cond.instanceMethod yX8_believed ∈ UT := ut (i := 972) (by decide +kernel) rfl
theorem se_yX8_believed : Cond.selects RX8 yX8_believed yX8_believed ∈ UT := ut (i := 973) (by decide +kernel) rfl
theorem co_yX8_believed : Cond.code yX8_believed cX8_believed 6 (some .int) ∈ UT := ut (i := 974) (by decide +kernel) rfl
theorem kl_X8_217 : Cond.constantLong RX8 217 (2) ∈ UT := ut (i := 975) (by decide +kernel) rfl
theorem ml_X8_219 : Cond.methodLink RX8 219 yX8_isBelieved ∈ UT := ut (i := 976) (by decide +kernel) rfl
theorem im_yX8_isBelieved : Cond.instanceMethod yX8_isBelieved ∈ UT := ut (i := 978) (by decide +kernel) rfl
theorem co_yX8_isBelieved : Cond.code yX8_isBelieved cX8_isBelieved 4 (some .boolean) ∈ UT := ut (i := 979) (by decide +kernel) rfl
theorem ml_L_109 : Cond.methodLink RL 109 yX8_askNext ∈ UT := ut (i := 980) (by decide +kernel) rfl
theorem im_yX8_askNext : Cond.instanceMethod yX8_askNext ∈ UT := ut (i := 981) (by decide +kernel) rfl
theorem se_yX8_askNext : Cond.selects RX8 yX8_askNext yX8_askNext ∈ UT := ut (i := 982) (by decide +kernel) rfl
theorem co_yX8_askNext : Cond.code yX8_askNext cX8_askNext 6 (some .int) ∈ UT := ut (i := 983) (by decide +kernel) rfl
theorem ml_L_113 : Cond.methodLink RL 113 yX8_write ∈ UT := ut (i := 984) (by decide +kernel) rfl
theorem im_yX8_write : Cond.instanceMethod yX8_write ∈ UT := ut (i := 985) (by decide +kernel) rfl
theorem se_yX8_write : Cond.selects RX8 yX8_write yX8_write ∈ UT := ut (i := 986) (by decide +kernel) rfl
theorem co_yX8_write : Cond.code yX8_write cX8_write 3 (some .int) ∈ UT := ut (i := 987) (by decide +kernel) rfl
theorem ml_L_117 : Cond.methodLink RL 117 yX8_tear ∈ UT := ut (i := 988) (by decide +kernel) rfl
theorem im_yX8_tear : Cond.instanceMethod yX8_tear ∈ UT := ut (i := 989) (by decide +kernel) rfl
theorem se_yX8_tear : Cond.selects RX8 yX8_tear yX8_tear ∈ UT := ut (i := 990) (by decide +kernel) rfl
theorem co_yX8_tear : Cond.code yX8_tear cX8_tear 2 (some .int) ∈ UT := ut (i := 991) (by decide +kernel) rfl
theorem ml_L_121 : Cond.methodLink RL 121 yX8_judge ∈ UT := ut (i := 992) (by decide +kernel) rfl
theorem im_yX8_judge : Cond.instanceMethod yX8_judge ∈ UT := ut (i := 993) (by decide +kernel) rfl
theorem se_yX8_judge : Cond.selects RX8 yX8_judge yX8_judge ∈ UT := ut (i := 994) (by decide +kernel) rfl
theorem co_yX8_judge : Cond.code yX8_judge cX8_judge 3 (some .int) ∈ UT := ut (i := 995) (by decide +kernel) rfl
theorem ml_L_125 : Cond.methodLink RL 125 yX8_seed ∈ UT := ut (i := 996) (by decide +kernel) rfl
theorem im_yX8_seed : Cond.instanceMethod yX8_seed ∈ UT := ut (i := 997) (by decide +kernel) rfl
theorem se_yX8_seed : Cond.selects RX8 yX8_seed yX8_seed ∈ UT := ut (i := 998) (by decide +kernel) rfl
theorem co_yX8_seed : Cond.code yX8_seed cX8_seed 3 (some .int) ∈ UT := ut (i := 999) (by decide +kernel) rfl
theorem ml_L_129 : Cond.methodLink RL 129 yX8_keep ∈ UT := ut (i := 1000) (by decide +kernel) rfl
theorem im_yX8_keep : Cond.instanceMethod yX8_keep ∈ UT := ut (i := 1001) (by decide +kernel) rfl
theorem se_yX8_keep : Cond.selects RX8 yX8_keep yX8_keep ∈ UT := ut (i := 1002) (by decide +kernel) rfl
theorem co_yX8_keep : Cond.code yX8_keep cX8_keep 3 (some .int) ∈ UT := ut (i := 1003) (by decide +kernel) rfl
theorem ml_L_133 : Cond.methodLink RL 133 yX8_goBack ∈ UT := ut (i := 1004) (by decide +kernel) rfl
theorem im_yX8_goBack : Cond.instanceMethod yX8_goBack ∈ UT := ut (i := 1005) (by decide +kernel) rfl
theorem se_yX8_goBack : Cond.selects RX8 yX8_goBack yX8_goBack ∈ UT := ut (i := 1006) (by decide +kernel) rfl
theorem co_yX8_goBack : Cond.code yX8_goBack cX8_goBack 3 (some .int) ∈ UT := ut (i := 1007) (by decide +kernel) rfl
theorem se_yX5_peek : Cond.selects RX5 yX5_peek yX5_peek ∈ UT := ut (i := 0) (by decide +kernel) rfl
theorem se_yX5_readThings : Cond.selects RX5 yX5_readThings yX5_readThings ∈ UT := ut (i := 1) (by decide +kernel) rfl
theorem se_yX5_take : Cond.selects RX5 yX5_take yX5_take ∈ UT := ut (i := 2) (by decide +kernel) rfl
theorem se_yX5_stop : Cond.selects RX5 yX5_stop yX5_stop ∈ UT := ut (i := 3) (by decide +kernel) rfl
theorem se_yX5_number : Cond.selects RX5 yX5_number yX5_number ∈ UT := ut (i := 4) (by decide +kernel) rfl
theorem se_yX5_readClause : Cond.selects RX5 yX5_readClause yX5_readClause ∈ UT := ut (i := 5) (by decide +kernel) rfl
theorem se_yX5_readRule : Cond.selects RX5 yX5_readRule yX5_readRule ∈ UT := ut (i := 6) (by decide +kernel) rfl
theorem se_yX5_readPremises : Cond.selects RX5 yX5_readPremises yX5_readPremises ∈ UT := ut (i := 7) (by decide +kernel) rfl
theorem se_yX5_readSeen : Cond.selects RX5 yX5_readSeen yX5_readSeen ∈ UT := ut (i := 8) (by decide +kernel) rfl
theorem se_yX7_beginAnew : Cond.selects RX7 yX7_beginAnew yX7_beginAnew ∈ UT := ut (i := 9) (by decide +kernel) rfl
theorem se_yX7_trialNow : Cond.selects RX7 yX7_trialNow yX7_trialNow ∈ UT := ut (i := 10) (by decide +kernel) rfl
theorem se_yX7_rulesGoneBy : Cond.selects RX7 yX7_rulesGoneBy yX7_rulesGoneBy ∈ UT := ut (i := 11) (by decide +kernel) rfl
theorem se_yX7_change : Cond.selects RX7 yX7_change yX7_change ∈ UT := ut (i := 12) (by decide +kernel) rfl
theorem se_yX1_loseOldest : Cond.selects RX1 yX1_loseOldest yX1_loseOldest ∈ UT := ut (i := 13) (by decide +kernel) rfl
theorem se_yX7_draw : Cond.selects RX7 yX7_draw yX7_draw ∈ UT := ut (i := 14) (by decide +kernel) rfl
theorem se_yX6_concludesBy : Cond.selects RX6 yX6_concludesBy yX6_concludesBy ∈ UT := ut (i := 15) (by decide +kernel) rfl
theorem se_yX6_isAllowed : Cond.selects RX6 yX6_isAllowed yX6_isAllowed ∈ UT := ut (i := 16) (by decide +kernel) rfl
theorem se_yX6_isPeaceWithout : Cond.selects RX6 yX6_isPeaceWithout yX6_isPeaceWithout ∈ UT := ut (i := 17) (by decide +kernel) rfl
theorem se_yX6_leastWords : Cond.selects RX6 yX6_leastWords yX6_leastWords ∈ UT := ut (i := 18) (by decide +kernel) rfl
theorem se_yX6_bringTo : Cond.selects RX6 yX6_bringTo yX6_bringTo ∈ UT := ut (i := 19) (by decide +kernel) rfl
theorem se_yX6_returnsTo : Cond.selects RX6 yX6_returnsTo yX6_returnsTo ∈ UT := ut (i := 20) (by decide +kernel) rfl
theorem se_yX7_shareVotes : Cond.selects RX7 yX7_shareVotes yX7_shareVotes ∈ UT := ut (i := 21) (by decide +kernel) rfl
theorem se_yX7_countAnswers : Cond.selects RX7 yX7_countAnswers yX7_countAnswers ∈ UT := ut (i := 22) (by decide +kernel) rfl
theorem se_yX7_countYes : Cond.selects RX7 yX7_countYes yX7_countYes ∈ UT := ut (i := 23) (by decide +kernel) rfl
theorem se_yX8_here : Cond.selects RX8 yX8_here yX8_here ∈ UT := ut (i := 24) (by decide +kernel) rfl
theorem se_yX8_takeClause : Cond.selects RX8 yX8_takeClause yX8_takeClause ∈ UT := ut (i := 25) (by decide +kernel) rfl
theorem se_yX8_fails : Cond.selects RX8 yX8_fails yX8_fails ∈ UT := ut (i := 26) (by decide +kernel) rfl
theorem se_yX8_takeThings : Cond.selects RX8 yX8_takeThings yX8_takeThings ∈ UT := ut (i := 27) (by decide +kernel) rfl
theorem se_yX8_takeNumber : Cond.selects RX8 yX8_takeNumber yX8_takeNumber ∈ UT := ut (i := 28) (by decide +kernel) rfl
theorem se_yX8_takeRule : Cond.selects RX8 yX8_takeRule yX8_takeRule ∈ UT := ut (i := 29) (by decide +kernel) rfl
theorem se_yX8_takeSaying : Cond.selects RX8 yX8_takeSaying yX8_takeSaying ∈ UT := ut (i := 30) (by decide +kernel) rfl
theorem se_yX8_takeSeen : Cond.selects RX8 yX8_takeSeen yX8_takeSeen ∈ UT := ut (i := 31) (by decide +kernel) rfl
theorem se_yX8_followsNow : Cond.selects RX8 yX8_followsNow yX8_followsNow ∈ UT := ut (i := 32) (by decide +kernel) rfl
theorem se_yX8_allowed : Cond.selects RX8 yX8_allowed yX8_allowed ∈ UT := ut (i := 33) (by decide +kernel) rfl
theorem se_yX8_close : Cond.selects RX8 yX8_close yX8_close ∈ UT := ut (i := 34) (by decide +kernel) rfl
theorem se_yX8_isRule : Cond.selects RX8 yX8_isRule yX8_isRule ∈ UT := ut (i := 35) (by decide +kernel) rfl
theorem se_yX8_isSaying : Cond.selects RX8 yX8_isSaying yX8_isSaying ∈ UT := ut (i := 36) (by decide +kernel) rfl
theorem se_yX8_remember : Cond.selects RX8 yX8_remember yX8_remember ∈ UT := ut (i := 37) (by decide +kernel) rfl
theorem se_yX8_debateNow : Cond.selects RX8 yX8_debateNow yX8_debateNow ∈ UT := ut (i := 38) (by decide +kernel) rfl
theorem se_yX8_draw : Cond.selects RX8 yX8_draw yX8_draw ∈ UT := ut (i := 39) (by decide +kernel) rfl
theorem se_yX8_isSet : Cond.selects RX8 yX8_isSet yX8_isSet ∈ UT := ut (i := 40) (by decide +kernel) rfl
theorem se_yX8_costOf : Cond.selects RX8 yX8_costOf yX8_costOf ∈ UT := ut (i := 41) (by decide +kernel) rfl
theorem se_yX8_doWords : Cond.selects RX8 yX8_doWords yX8_doWords ∈ UT := ut (i := 42) (by decide +kernel) rfl
theorem se_yX8_isBelieved : Cond.selects RX8 yX8_isBelieved yX8_isBelieved ∈ UT := ut (i := 43) (by decide +kernel) rfl
def NW : List (String × Nat × MethodName × String) := [(RX7, 11, yX5_init, "BarrelMoon"), (RX7, 18, yX1_init, "BarrelMoon"), (RX7, 25, yX3_init, "BarrelMoon"), (RX7, 32, yX0_init, "BarrelMoon"), (RX7, 56, yX4_init, "BarrelMoon"), (RX5, 83, yX7_has, "BarrelMoon"), (RX4, 45, yX7_has, "BarrelMoon"), (RX6, 28, yX7_has, "BarrelMoon"), (RX6, 65, yX7_denialOf, "BarrelMoon"), (RX6, 71, yX7_put, "BarrelMoon"), (RX3, 32, yX7_has, "BarrelMoon"), (RX0, 23, yX7_has, "BarrelMoon")]
theorem nl_X7_11 : (RX7, 11, yX5_init, "BarrelMoon") ∈ NW := List.mem_of_getElem? (i := 0) rfl
theorem nl_X7_18 : (RX7, 18, yX1_init, "BarrelMoon") ∈ NW := List.mem_of_getElem? (i := 1) rfl
theorem nl_X7_25 : (RX7, 25, yX3_init, "BarrelMoon") ∈ NW := List.mem_of_getElem? (i := 2) rfl
theorem nl_X7_32 : (RX7, 32, yX0_init, "BarrelMoon") ∈ NW := List.mem_of_getElem? (i := 3) rfl
theorem nl_X7_56 : (RX7, 56, yX4_init, "BarrelMoon") ∈ NW := List.mem_of_getElem? (i := 4) rfl
theorem nl_X5_83 : (RX5, 83, yX7_has, "BarrelMoon") ∈ NW := List.mem_of_getElem? (i := 5) rfl
theorem nl_X4_45 : (RX4, 45, yX7_has, "BarrelMoon") ∈ NW := List.mem_of_getElem? (i := 6) rfl
theorem nl_X6_28 : (RX6, 28, yX7_has, "BarrelMoon") ∈ NW := List.mem_of_getElem? (i := 7) rfl
theorem nl_X6_65 : (RX6, 65, yX7_denialOf, "BarrelMoon") ∈ NW := List.mem_of_getElem? (i := 8) rfl
theorem nl_X6_71 : (RX6, 71, yX7_put, "BarrelMoon") ∈ NW := List.mem_of_getElem? (i := 9) rfl
theorem nl_X3_32 : (RX3, 32, yX7_has, "BarrelMoon") ∈ NW := List.mem_of_getElem? (i := 10) rfl
theorem nl_X0_23 : (RX0, 23, yX7_has, "BarrelMoon") ∈ NW := List.mem_of_getElem? (i := 11) rfl
set_option maxRecDepth 20000 in
theorem nw_tbl : ∀ q ∈ NW, Cond.methodLinkNest q.1 q.2.1 q.2.2.1 q.2.2.2 ∈ lw_tbl := by decide +kernel
set_option maxRecDepth 20000 in
theorem ly_X0 : ∀ w ∈ u_ws RX0 TX0 3, w ∈ UT := by decide +kernel
set_option maxRecDepth 20000 in
theorem ly_X1 : ∀ w ∈ u_ws RX1 TX1 2, w ∈ UT := by decide +kernel
set_option maxRecDepth 20000 in
theorem ly_X2 : ∀ w ∈ u_ws RX2 TX2 4, w ∈ UT := by decide +kernel
set_option maxRecDepth 20000 in
theorem ly_X3 : ∀ w ∈ u_ws RX3 TX3 4, w ∈ UT := by decide +kernel
set_option maxRecDepth 20000 in
theorem ly_X4 : ∀ w ∈ u_ws RX4 TX4 6, w ∈ UT := by decide +kernel
set_option maxRecDepth 20000 in
theorem ly_X5 : ∀ w ∈ u_ws RX5 TX5 6, w ∈ UT := by decide +kernel
set_option maxRecDepth 20000 in
theorem ly_X6 : ∀ w ∈ u_ws RX6 TX6 3, w ∈ UT := by decide +kernel
set_option maxRecDepth 20000 in
theorem ly_X7 : ∀ w ∈ u_ws RX7 TX7 12, w ∈ UT := by decide +kernel
set_option maxRecDepth 20000 in
theorem ly_X8 : ∀ w ∈ u_ws RX8 TX8 32, w ∈ UT := by decide +kernel
end
section
theorem dX0_init_0 : decode cX0_init 0 = .ok (.aload_n 0, 1) := by decide +kernel
theorem dX0_init_1 : decode cX0_init 1 = .ok (.invokespecial 3, 3) := by decide +kernel
theorem dX0_init_4 : decode cX0_init 4 = .ok (.aload_n 0, 1) := by decide +kernel
theorem dX0_init_5 : decode cX0_init 5 = .ok (.bipush 15, 2) := by decide +kernel
theorem dX0_init_7 : decode cX0_init 7 = .ok (.newarray .int, 2) := by decide +kernel
theorem dX0_init_9 : decode cX0_init 9 = .ok (.putfield 9, 3) := by decide +kernel
theorem dX0_init_12 : decode cX0_init 12 = .ok (.aload_n 0, 1) := by decide +kernel
theorem dX0_init_13 : decode cX0_init 13 = .ok (.bipush 15, 2) := by decide +kernel
theorem dX0_init_15 : decode cX0_init 15 = .ok (.newarray .boolean, 2) := by decide +kernel
theorem dX0_init_17 : decode cX0_init 17 = .ok (.putfield 15, 3) := by decide +kernel
theorem dX0_init_20 : decode cX0_init 20 = .ok (.aload_n 0, 1) := by decide +kernel
theorem dX0_init_21 : decode cX0_init 21 = .ok (.iconst 0, 1) := by decide +kernel
theorem dX0_init_22 : decode cX0_init 22 = .ok (.putfield 19, 3) := by decide +kernel
theorem dX0_init_25 : decode cX0_init 25 = .ok (.return_, 1) := by decide +kernel
theorem dX0_size_0 : decode cX0_size 0 = .ok (.aload_n 0, 1) := by decide +kernel
theorem dX0_size_1 : decode cX0_size 1 = .ok (.getfield 19, 3) := by decide +kernel
theorem dX0_size_4 : decode cX0_size 4 = .ok (.ireturn, 1) := by decide +kernel
theorem dX0_clear_0 : decode cX0_clear 0 = .ok (.aload_n 0, 1) := by decide +kernel
theorem dX0_clear_1 : decode cX0_clear 1 = .ok (.iconst 0, 1) := by decide +kernel
theorem dX0_clear_2 : decode cX0_clear 2 = .ok (.putfield 19, 3) := by decide +kernel
theorem dX0_clear_5 : decode cX0_clear 5 = .ok (.return_, 1) := by decide +kernel
theorem dX0_add_0 : decode cX0_add 0 = .ok (.aload_n 0, 1) := by decide +kernel
theorem dX0_add_1 : decode cX0_add 1 = .ok (.getfield 19, 3) := by decide +kernel
theorem dX0_add_4 : decode cX0_add 4 = .ok (.bipush 15, 2) := by decide +kernel
theorem dX0_add_6 : decode cX0_add 6 = .ok (.if_icmp .lt 5, 3) := by decide +kernel
theorem dX0_add_9 : decode cX0_add 9 = .ok (.iconst 0, 1) := by decide +kernel
theorem dX0_add_10 : decode cX0_add 10 = .ok (.ireturn, 1) := by decide +kernel
theorem dX0_add_11 : decode cX0_add 11 = .ok (.aload_n 0, 1) := by decide +kernel
theorem dX0_add_12 : decode cX0_add 12 = .ok (.getfield 9, 3) := by decide +kernel
theorem dX0_add_15 : decode cX0_add 15 = .ok (.aload_n 0, 1) := by decide +kernel
theorem dX0_add_16 : decode cX0_add 16 = .ok (.getfield 19, 3) := by decide +kernel
theorem dX0_add_19 : decode cX0_add 19 = .ok (.iload_n 1, 1) := by decide +kernel
theorem dX0_add_20 : decode cX0_add 20 = .ok (.iastore, 1) := by decide +kernel
theorem dX0_add_21 : decode cX0_add 21 = .ok (.aload_n 0, 1) := by decide +kernel
theorem dX0_add_22 : decode cX0_add 22 = .ok (.getfield 15, 3) := by decide +kernel
theorem dX0_add_25 : decode cX0_add 25 = .ok (.aload_n 0, 1) := by decide +kernel
theorem dX0_add_26 : decode cX0_add 26 = .ok (.getfield 19, 3) := by decide +kernel
theorem dX0_add_29 : decode cX0_add 29 = .ok (.iload_n 2, 1) := by decide +kernel
theorem dX0_add_30 : decode cX0_add 30 = .ok (.bastore, 1) := by decide +kernel
theorem dX0_add_31 : decode cX0_add 31 = .ok (.aload_n 0, 1) := by decide +kernel
theorem dX0_add_32 : decode cX0_add 32 = .ok (.dup, 1) := by decide +kernel
theorem dX0_add_33 : decode cX0_add 33 = .ok (.getfield 19, 3) := by decide +kernel
theorem dX0_add_36 : decode cX0_add 36 = .ok (.iconst 1, 1) := by decide +kernel
theorem dX0_add_37 : decode cX0_add 37 = .ok (.iadd, 1) := by decide +kernel
theorem dX0_add_38 : decode cX0_add 38 = .ok (.putfield 19, 3) := by decide +kernel
theorem dX0_add_41 : decode cX0_add 41 = .ok (.iconst 1, 1) := by decide +kernel
theorem dX0_add_42 : decode cX0_add 42 = .ok (.ireturn, 1) := by decide +kernel
theorem dX0_firstWrong_0 : decode cX0_firstWrong 0 = .ok (.iconst 0, 1) := by decide +kernel
theorem dX0_firstWrong_1 : decode cX0_firstWrong 1 = .ok (.istore_n 2, 1) := by decide +kernel
theorem dX0_firstWrong_2 : decode cX0_firstWrong 2 = .ok (.iload_n 2, 1) := by decide +kernel
theorem dX0_firstWrong_3 : decode cX0_firstWrong 3 = .ok (.aload_n 0, 1) := by decide +kernel
theorem dX0_firstWrong_4 : decode cX0_firstWrong 4 = .ok (.getfield 19, 3) := by decide +kernel
theorem dX0_firstWrong_7 : decode cX0_firstWrong 7 = .ok (.if_icmp .ge 30, 3) := by decide +kernel
theorem dX0_firstWrong_10 : decode cX0_firstWrong 10 = .ok (.iload_n 1, 1) := by decide +kernel
theorem dX0_firstWrong_11 : decode cX0_firstWrong 11 = .ok (.aload_n 0, 1) := by decide +kernel
theorem dX0_firstWrong_12 : decode cX0_firstWrong 12 = .ok (.getfield 9, 3) := by decide +kernel
theorem dX0_firstWrong_15 : decode cX0_firstWrong 15 = .ok (.iload_n 2, 1) := by decide +kernel
theorem dX0_firstWrong_16 : decode cX0_firstWrong 16 = .ok (.iaload, 1) := by decide +kernel
theorem dX0_firstWrong_17 : decode cX0_firstWrong 17 = .ok (.invokestatic 23, 3) := by decide +kernel
theorem dX0_firstWrong_20 : decode cX0_firstWrong 20 = .ok (.aload_n 0, 1) := by decide +kernel
theorem dX0_firstWrong_21 : decode cX0_firstWrong 21 = .ok (.getfield 15, 3) := by decide +kernel
theorem dX0_firstWrong_24 : decode cX0_firstWrong 24 = .ok (.iload_n 2, 1) := by decide +kernel
theorem dX0_firstWrong_25 : decode cX0_firstWrong 25 = .ok (.baload, 1) := by decide +kernel
theorem dX0_firstWrong_26 : decode cX0_firstWrong 26 = .ok (.if_icmp .eq 5, 3) := by decide +kernel
theorem dX0_firstWrong_29 : decode cX0_firstWrong 29 = .ok (.iload_n 2, 1) := by decide +kernel
theorem dX0_firstWrong_30 : decode cX0_firstWrong 30 = .ok (.ireturn, 1) := by decide +kernel
theorem dX0_firstWrong_31 : decode cX0_firstWrong 31 = .ok (.iinc 2 1, 3) := by decide +kernel
theorem dX0_firstWrong_34 : decode cX0_firstWrong 34 = .ok (.goto (-32), 3) := by decide +kernel
theorem dX0_firstWrong_37 : decode cX0_firstWrong 37 = .ok (.iconst (-1), 1) := by decide +kernel
theorem dX0_firstWrong_38 : decode cX0_firstWrong 38 = .ok (.ireturn, 1) := by decide +kernel
theorem dX1_init_0 : decode cX1_init 0 = .ok (.aload_n 0, 1) := by decide +kernel
theorem dX1_init_1 : decode cX1_init 1 = .ok (.invokespecial 3, 3) := by decide +kernel
theorem dX1_init_4 : decode cX1_init 4 = .ok (.aload_n 0, 1) := by decide +kernel
theorem dX1_init_5 : decode cX1_init 5 = .ok (.bipush 20, 2) := by decide +kernel
theorem dX1_init_7 : decode cX1_init 7 = .ok (.anewarray 9, 3) := by decide +kernel
theorem dX1_init_10 : decode cX1_init 10 = .ok (.putfield 11, 3) := by decide +kernel
theorem dX1_init_13 : decode cX1_init 13 = .ok (.aload_n 0, 1) := by decide +kernel
theorem dX1_init_14 : decode cX1_init 14 = .ok (.iconst 0, 1) := by decide +kernel
theorem dX1_init_15 : decode cX1_init 15 = .ok (.putfield 17, 3) := by decide +kernel
theorem dX1_init_18 : decode cX1_init 18 = .ok (.return_, 1) := by decide +kernel
theorem dX1_size_0 : decode cX1_size 0 = .ok (.aload_n 0, 1) := by decide +kernel
theorem dX1_size_1 : decode cX1_size 1 = .ok (.getfield 17, 3) := by decide +kernel
theorem dX1_size_4 : decode cX1_size 4 = .ok (.ireturn, 1) := by decide +kernel
theorem dX1_clear_0 : decode cX1_clear 0 = .ok (.aload_n 0, 1) := by decide +kernel
theorem dX1_clear_1 : decode cX1_clear 1 = .ok (.iconst 0, 1) := by decide +kernel
theorem dX1_clear_2 : decode cX1_clear 2 = .ok (.putfield 17, 3) := by decide +kernel
theorem dX1_clear_5 : decode cX1_clear 5 = .ok (.return_, 1) := by decide +kernel
theorem dX1_add_0 : decode cX1_add 0 = .ok (.aload_n 0, 1) := by decide +kernel
theorem dX1_add_1 : decode cX1_add 1 = .ok (.getfield 17, 3) := by decide +kernel
theorem dX1_add_4 : decode cX1_add 4 = .ok (.bipush 20, 2) := by decide +kernel
theorem dX1_add_6 : decode cX1_add 6 = .ok (.if_icmp .lt 7, 3) := by decide +kernel
theorem dX1_add_9 : decode cX1_add 9 = .ok (.aload_n 0, 1) := by decide +kernel
theorem dX1_add_10 : decode cX1_add 10 = .ok (.invokevirtual 21, 3) := by decide +kernel
theorem dX1_add_13 : decode cX1_add 13 = .ok (.aload_n 0, 1) := by decide +kernel
theorem dX1_add_14 : decode cX1_add 14 = .ok (.getfield 11, 3) := by decide +kernel
theorem dX1_add_17 : decode cX1_add 17 = .ok (.aload_n 0, 1) := by decide +kernel
theorem dX1_add_18 : decode cX1_add 18 = .ok (.getfield 17, 3) := by decide +kernel
theorem dX1_add_21 : decode cX1_add 21 = .ok (.aload_n 1, 1) := by decide +kernel
theorem dX1_add_22 : decode cX1_add 22 = .ok (.aastore, 1) := by decide +kernel
theorem dX1_add_23 : decode cX1_add 23 = .ok (.aload_n 0, 1) := by decide +kernel
theorem dX1_add_24 : decode cX1_add 24 = .ok (.dup, 1) := by decide +kernel
theorem dX1_add_25 : decode cX1_add 25 = .ok (.getfield 17, 3) := by decide +kernel
theorem dX1_add_28 : decode cX1_add 28 = .ok (.iconst 1, 1) := by decide +kernel
theorem dX1_add_29 : decode cX1_add 29 = .ok (.iadd, 1) := by decide +kernel
theorem dX1_add_30 : decode cX1_add 30 = .ok (.putfield 17, 3) := by decide +kernel
theorem dX1_add_33 : decode cX1_add 33 = .ok (.return_, 1) := by decide +kernel
theorem dX1_loseOldest_0 : decode cX1_loseOldest 0 = .ok (.iconst 1, 1) := by decide +kernel
theorem dX1_loseOldest_1 : decode cX1_loseOldest 1 = .ok (.istore_n 1, 1) := by decide +kernel
theorem dX1_loseOldest_2 : decode cX1_loseOldest 2 = .ok (.iload_n 1, 1) := by decide +kernel
theorem dX1_loseOldest_3 : decode cX1_loseOldest 3 = .ok (.bipush 20, 2) := by decide +kernel
theorem dX1_loseOldest_5 : decode cX1_loseOldest 5 = .ok (.if_icmp .ge 23, 3) := by decide +kernel
theorem dX1_loseOldest_8 : decode cX1_loseOldest 8 = .ok (.aload_n 0, 1) := by decide +kernel
theorem dX1_loseOldest_9 : decode cX1_loseOldest 9 = .ok (.getfield 11, 3) := by decide +kernel
theorem dX1_loseOldest_12 : decode cX1_loseOldest 12 = .ok (.iload_n 1, 1) := by decide +kernel
theorem dX1_loseOldest_13 : decode cX1_loseOldest 13 = .ok (.iconst 1, 1) := by decide +kernel
theorem dX1_loseOldest_14 : decode cX1_loseOldest 14 = .ok (.isub, 1) := by decide +kernel
theorem dX1_loseOldest_15 : decode cX1_loseOldest 15 = .ok (.aload_n 0, 1) := by decide +kernel
theorem dX1_loseOldest_16 : decode cX1_loseOldest 16 = .ok (.getfield 11, 3) := by decide +kernel
theorem dX1_loseOldest_19 : decode cX1_loseOldest 19 = .ok (.iload_n 1, 1) := by decide +kernel
theorem dX1_loseOldest_20 : decode cX1_loseOldest 20 = .ok (.aaload, 1) := by decide +kernel
theorem dX1_loseOldest_21 : decode cX1_loseOldest 21 = .ok (.aastore, 1) := by decide +kernel
theorem dX1_loseOldest_22 : decode cX1_loseOldest 22 = .ok (.iinc 1 1, 3) := by decide +kernel
theorem dX1_loseOldest_25 : decode cX1_loseOldest 25 = .ok (.goto (-23), 3) := by decide +kernel
theorem dX1_loseOldest_28 : decode cX1_loseOldest 28 = .ok (.aload_n 0, 1) := by decide +kernel
theorem dX1_loseOldest_29 : decode cX1_loseOldest 29 = .ok (.bipush 19, 2) := by decide +kernel
theorem dX1_loseOldest_31 : decode cX1_loseOldest 31 = .ok (.putfield 17, 3) := by decide +kernel
theorem dX1_loseOldest_34 : decode cX1_loseOldest 34 = .ok (.return_, 1) := by decide +kernel
theorem dX1_takeLatest_0 : decode cX1_takeLatest 0 = .ok (.aload_n 0, 1) := by decide +kernel
theorem dX1_takeLatest_1 : decode cX1_takeLatest 1 = .ok (.getfield 17, 3) := by decide +kernel
theorem dX1_takeLatest_4 : decode cX1_takeLatest 4 = .ok (.iconst 1, 1) := by decide +kernel
theorem dX1_takeLatest_5 : decode cX1_takeLatest 5 = .ok (.if_icmp .ge 5, 3) := by decide +kernel
theorem dX1_takeLatest_8 : decode cX1_takeLatest 8 = .ok (.aconst_null, 1) := by decide +kernel
theorem dX1_takeLatest_9 : decode cX1_takeLatest 9 = .ok (.areturn, 1) := by decide +kernel
theorem dX1_takeLatest_10 : decode cX1_takeLatest 10 = .ok (.aload_n 0, 1) := by decide +kernel
theorem dX1_takeLatest_11 : decode cX1_takeLatest 11 = .ok (.dup, 1) := by decide +kernel
theorem dX1_takeLatest_12 : decode cX1_takeLatest 12 = .ok (.getfield 17, 3) := by decide +kernel
theorem dX1_takeLatest_15 : decode cX1_takeLatest 15 = .ok (.iconst 1, 1) := by decide +kernel
theorem dX1_takeLatest_16 : decode cX1_takeLatest 16 = .ok (.isub, 1) := by decide +kernel
theorem dX1_takeLatest_17 : decode cX1_takeLatest 17 = .ok (.putfield 17, 3) := by decide +kernel
theorem dX1_takeLatest_20 : decode cX1_takeLatest 20 = .ok (.aload_n 0, 1) := by decide +kernel
theorem dX1_takeLatest_21 : decode cX1_takeLatest 21 = .ok (.getfield 11, 3) := by decide +kernel
theorem dX1_takeLatest_24 : decode cX1_takeLatest 24 = .ok (.aload_n 0, 1) := by decide +kernel
theorem dX1_takeLatest_25 : decode cX1_takeLatest 25 = .ok (.getfield 17, 3) := by decide +kernel
theorem dX1_takeLatest_28 : decode cX1_takeLatest 28 = .ok (.aaload, 1) := by decide +kernel
theorem dX1_takeLatest_29 : decode cX1_takeLatest 29 = .ok (.areturn, 1) := by decide +kernel
theorem dX2_init_0 : decode cX2_init 0 = .ok (.aload_n 0, 1) := by decide +kernel
theorem dX2_init_1 : decode cX2_init 1 = .ok (.invokespecial 1, 3) := by decide +kernel
theorem dX2_init_4 : decode cX2_init 4 = .ok (.aload_n 0, 1) := by decide +kernel
theorem dX2_init_5 : decode cX2_init 5 = .ok (.iload_n 1, 1) := by decide +kernel
theorem dX2_init_6 : decode cX2_init 6 = .ok (.putfield 7, 3) := by decide +kernel
theorem dX2_init_9 : decode cX2_init 9 = .ok (.aload_n 0, 1) := by decide +kernel
theorem dX2_init_10 : decode cX2_init 10 = .ok (.iload_n 2, 1) := by decide +kernel
theorem dX2_init_11 : decode cX2_init 11 = .ok (.putfield 13, 3) := by decide +kernel
theorem dX2_init_14 : decode cX2_init 14 = .ok (.aload_n 0, 1) := by decide +kernel
theorem dX2_init_15 : decode cX2_init 15 = .ok (.iload_n 3, 1) := by decide +kernel
theorem dX2_init_16 : decode cX2_init 16 = .ok (.putfield 16, 3) := by decide +kernel
theorem dX2_init_19 : decode cX2_init 19 = .ok (.aload_n 0, 1) := by decide +kernel
theorem dX2_init_20 : decode cX2_init 20 = .ok (.iload 4, 2) := by decide +kernel
theorem dX2_init_22 : decode cX2_init 22 = .ok (.putfield 19, 3) := by decide +kernel
theorem dX2_init_25 : decode cX2_init 25 = .ok (.return_, 1) := by decide +kernel
theorem dX3_init_0 : decode cX3_init 0 = .ok (.aload_n 0, 1) := by decide +kernel
theorem dX3_init_1 : decode cX3_init 1 = .ok (.invokespecial 3, 3) := by decide +kernel
theorem dX3_init_4 : decode cX3_init 4 = .ok (.aload_n 0, 1) := by decide +kernel
theorem dX3_init_5 : decode cX3_init 5 = .ok (.bipush 6, 2) := by decide +kernel
theorem dX3_init_7 : decode cX3_init 7 = .ok (.newarray .int, 2) := by decide +kernel
theorem dX3_init_9 : decode cX3_init 9 = .ok (.putfield 9, 3) := by decide +kernel
theorem dX3_init_12 : decode cX3_init 12 = .ok (.aload_n 0, 1) := by decide +kernel
theorem dX3_init_13 : decode cX3_init 13 = .ok (.bipush 6, 2) := by decide +kernel
theorem dX3_init_15 : decode cX3_init 15 = .ok (.newarray .int, 2) := by decide +kernel
theorem dX3_init_17 : decode cX3_init 17 = .ok (.putfield 15, 3) := by decide +kernel
theorem dX3_init_20 : decode cX3_init 20 = .ok (.aload_n 0, 1) := by decide +kernel
theorem dX3_init_21 : decode cX3_init 21 = .ok (.bipush 6, 2) := by decide +kernel
theorem dX3_init_23 : decode cX3_init 23 = .ok (.newarray .boolean, 2) := by decide +kernel
theorem dX3_init_25 : decode cX3_init 25 = .ok (.putfield 18, 3) := by decide +kernel
theorem dX3_init_28 : decode cX3_init 28 = .ok (.aload_n 0, 1) := by decide +kernel
theorem dX3_init_29 : decode cX3_init 29 = .ok (.iconst 0, 1) := by decide +kernel
theorem dX3_init_30 : decode cX3_init 30 = .ok (.putfield 22, 3) := by decide +kernel
theorem dX3_init_33 : decode cX3_init 33 = .ok (.return_, 1) := by decide +kernel
theorem dX3_size_0 : decode cX3_size 0 = .ok (.aload_n 0, 1) := by decide +kernel
theorem dX3_size_1 : decode cX3_size 1 = .ok (.getfield 22, 3) := by decide +kernel
theorem dX3_size_4 : decode cX3_size 4 = .ok (.ireturn, 1) := by decide +kernel
theorem dX3_clear_0 : decode cX3_clear 0 = .ok (.aload_n 0, 1) := by decide +kernel
theorem dX3_clear_1 : decode cX3_clear 1 = .ok (.iconst 0, 1) := by decide +kernel
theorem dX3_clear_2 : decode cX3_clear 2 = .ok (.putfield 22, 3) := by decide +kernel
theorem dX3_clear_5 : decode cX3_clear 5 = .ok (.return_, 1) := by decide +kernel
theorem dX3_add_0 : decode cX3_add 0 = .ok (.aload_n 0, 1) := by decide +kernel
theorem dX3_add_1 : decode cX3_add 1 = .ok (.getfield 22, 3) := by decide +kernel
theorem dX3_add_4 : decode cX3_add 4 = .ok (.bipush 6, 2) := by decide +kernel
theorem dX3_add_6 : decode cX3_add 6 = .ok (.if_icmp .lt 5, 3) := by decide +kernel
theorem dX3_add_9 : decode cX3_add 9 = .ok (.iconst 0, 1) := by decide +kernel
theorem dX3_add_10 : decode cX3_add 10 = .ok (.ireturn, 1) := by decide +kernel
theorem dX3_add_11 : decode cX3_add 11 = .ok (.aload_n 0, 1) := by decide +kernel
theorem dX3_add_12 : decode cX3_add 12 = .ok (.getfield 9, 3) := by decide +kernel
theorem dX3_add_15 : decode cX3_add 15 = .ok (.aload_n 0, 1) := by decide +kernel
theorem dX3_add_16 : decode cX3_add 16 = .ok (.getfield 22, 3) := by decide +kernel
theorem dX3_add_19 : decode cX3_add 19 = .ok (.iload_n 1, 1) := by decide +kernel
theorem dX3_add_20 : decode cX3_add 20 = .ok (.iastore, 1) := by decide +kernel
theorem dX3_add_21 : decode cX3_add 21 = .ok (.aload_n 0, 1) := by decide +kernel
theorem dX3_add_22 : decode cX3_add 22 = .ok (.getfield 15, 3) := by decide +kernel
theorem dX3_add_25 : decode cX3_add 25 = .ok (.aload_n 0, 1) := by decide +kernel
theorem dX3_add_26 : decode cX3_add 26 = .ok (.getfield 22, 3) := by decide +kernel
theorem dX3_add_29 : decode cX3_add 29 = .ok (.iload_n 2, 1) := by decide +kernel
theorem dX3_add_30 : decode cX3_add 30 = .ok (.iastore, 1) := by decide +kernel
theorem dX3_add_31 : decode cX3_add 31 = .ok (.aload_n 0, 1) := by decide +kernel
theorem dX3_add_32 : decode cX3_add 32 = .ok (.getfield 18, 3) := by decide +kernel
theorem dX3_add_35 : decode cX3_add 35 = .ok (.aload_n 0, 1) := by decide +kernel
theorem dX3_add_36 : decode cX3_add 36 = .ok (.getfield 22, 3) := by decide +kernel
theorem dX3_add_39 : decode cX3_add 39 = .ok (.iload_n 3, 1) := by decide +kernel
theorem dX3_add_40 : decode cX3_add 40 = .ok (.bastore, 1) := by decide +kernel
theorem dX3_add_41 : decode cX3_add 41 = .ok (.aload_n 0, 1) := by decide +kernel
theorem dX3_add_42 : decode cX3_add 42 = .ok (.dup, 1) := by decide +kernel
theorem dX3_add_43 : decode cX3_add 43 = .ok (.getfield 22, 3) := by decide +kernel
theorem dX3_add_46 : decode cX3_add 46 = .ok (.iconst 1, 1) := by decide +kernel
theorem dX3_add_47 : decode cX3_add 47 = .ok (.iadd, 1) := by decide +kernel
theorem dX3_add_48 : decode cX3_add 48 = .ok (.putfield 22, 3) := by decide +kernel
theorem dX3_add_51 : decode cX3_add 51 = .ok (.iconst 1, 1) := by decide +kernel
theorem dX3_add_52 : decode cX3_add 52 = .ok (.ireturn, 1) := by decide +kernel
theorem dX3_fit_0 : decode cX3_fit 0 = .ok (.iconst 0, 1) := by decide +kernel
theorem dX3_fit_1 : decode cX3_fit 1 = .ok (.istore_n 3, 1) := by decide +kernel
theorem dX3_fit_2 : decode cX3_fit 2 = .ok (.iload_n 3, 1) := by decide +kernel
theorem dX3_fit_3 : decode cX3_fit 3 = .ok (.aload_n 0, 1) := by decide +kernel
theorem dX3_fit_4 : decode cX3_fit 4 = .ok (.getfield 22, 3) := by decide +kernel
theorem dX3_fit_7 : decode cX3_fit 7 = .ok (.if_icmp .ge 40, 3) := by decide +kernel
theorem dX3_fit_10 : decode cX3_fit 10 = .ok (.aload_n 1, 1) := by decide +kernel
theorem dX3_fit_11 : decode cX3_fit 11 = .ok (.aload_n 0, 1) := by decide +kernel
theorem dX3_fit_12 : decode cX3_fit 12 = .ok (.getfield 9, 3) := by decide +kernel
theorem dX3_fit_15 : decode cX3_fit 15 = .ok (.iload_n 3, 1) := by decide +kernel
theorem dX3_fit_16 : decode cX3_fit 16 = .ok (.iaload, 1) := by decide +kernel
theorem dX3_fit_17 : decode cX3_fit 17 = .ok (.iload_n 2, 1) := by decide +kernel
theorem dX3_fit_18 : decode cX3_fit 18 = .ok (.invokevirtual 26, 3) := by decide +kernel
theorem dX3_fit_21 : decode cX3_fit 21 = .ok (.aload_n 0, 1) := by decide +kernel
theorem dX3_fit_22 : decode cX3_fit 22 = .ok (.getfield 15, 3) := by decide +kernel
theorem dX3_fit_25 : decode cX3_fit 25 = .ok (.iload_n 3, 1) := by decide +kernel
theorem dX3_fit_26 : decode cX3_fit 26 = .ok (.iaload, 1) := by decide +kernel
theorem dX3_fit_27 : decode cX3_fit 27 = .ok (.invokestatic 32, 3) := by decide +kernel
theorem dX3_fit_30 : decode cX3_fit 30 = .ok (.aload_n 0, 1) := by decide +kernel
theorem dX3_fit_31 : decode cX3_fit 31 = .ok (.getfield 18, 3) := by decide +kernel
theorem dX3_fit_34 : decode cX3_fit 34 = .ok (.iload_n 3, 1) := by decide +kernel
theorem dX3_fit_35 : decode cX3_fit 35 = .ok (.baload, 1) := by decide +kernel
theorem dX3_fit_36 : decode cX3_fit 36 = .ok (.if_icmp .eq 5, 3) := by decide +kernel
theorem dX3_fit_39 : decode cX3_fit 39 = .ok (.iconst 0, 1) := by decide +kernel
theorem dX3_fit_40 : decode cX3_fit 40 = .ok (.ireturn, 1) := by decide +kernel
theorem dX3_fit_41 : decode cX3_fit 41 = .ok (.iinc 3 1, 3) := by decide +kernel
theorem dX3_fit_44 : decode cX3_fit 44 = .ok (.goto (-42), 3) := by decide +kernel
theorem dX3_fit_47 : decode cX3_fit 47 = .ok (.iconst 1, 1) := by decide +kernel
theorem dX3_fit_48 : decode cX3_fit 48 = .ok (.ireturn, 1) := by decide +kernel
theorem dX4_init_0 : decode cX4_init 0 = .ok (.aload_n 0, 1) := by decide +kernel
theorem dX4_init_1 : decode cX4_init 1 = .ok (.invokespecial 3, 3) := by decide +kernel
theorem dX4_init_4 : decode cX4_init 4 = .ok (.aload_n 0, 1) := by decide +kernel
theorem dX4_init_5 : decode cX4_init 5 = .ok (.bipush 10, 2) := by decide +kernel
theorem dX4_init_7 : decode cX4_init 7 = .ok (.newarray .int, 2) := by decide +kernel
theorem dX4_init_9 : decode cX4_init 9 = .ok (.putfield 9, 3) := by decide +kernel
theorem dX4_init_12 : decode cX4_init 12 = .ok (.aload_n 0, 1) := by decide +kernel
theorem dX4_init_13 : decode cX4_init 13 = .ok (.bipush 10, 2) := by decide +kernel
theorem dX4_init_15 : decode cX4_init 15 = .ok (.newarray .int, 2) := by decide +kernel
theorem dX4_init_17 : decode cX4_init 17 = .ok (.putfield 15, 3) := by decide +kernel
theorem dX4_init_20 : decode cX4_init 20 = .ok (.aload_n 0, 1) := by decide +kernel
theorem dX4_init_21 : decode cX4_init 21 = .ok (.bipush 10, 2) := by decide +kernel
theorem dX4_init_23 : decode cX4_init 23 = .ok (.newarray .int, 2) := by decide +kernel
theorem dX4_init_25 : decode cX4_init 25 = .ok (.putfield 18, 3) := by decide +kernel
theorem dX4_init_28 : decode cX4_init 28 = .ok (.aload_n 0, 1) := by decide +kernel
theorem dX4_init_29 : decode cX4_init 29 = .ok (.iconst 0, 1) := by decide +kernel
theorem dX4_init_30 : decode cX4_init 30 = .ok (.putfield 21, 3) := by decide +kernel
theorem dX4_init_33 : decode cX4_init 33 = .ok (.aload_n 0, 1) := by decide +kernel
theorem dX4_init_34 : decode cX4_init 34 = .ok (.iconst 0, 1) := by decide +kernel
theorem dX4_init_35 : decode cX4_init 35 = .ok (.putfield 25, 3) := by decide +kernel
theorem dX4_init_38 : decode cX4_init 38 = .ok (.aload_n 0, 1) := by decide +kernel
theorem dX4_init_39 : decode cX4_init 39 = .ok (.iconst 0, 1) := by decide +kernel
theorem dX4_init_40 : decode cX4_init 40 = .ok (.putfield 28, 3) := by decide +kernel
theorem dX4_init_43 : decode cX4_init 43 = .ok (.return_, 1) := by decide +kernel
theorem dX4_clear_0 : decode cX4_clear 0 = .ok (.aload_n 0, 1) := by decide +kernel
theorem dX4_clear_1 : decode cX4_clear 1 = .ok (.iconst 0, 1) := by decide +kernel
theorem dX4_clear_2 : decode cX4_clear 2 = .ok (.putfield 21, 3) := by decide +kernel
theorem dX4_clear_5 : decode cX4_clear 5 = .ok (.aload_n 0, 1) := by decide +kernel
theorem dX4_clear_6 : decode cX4_clear 6 = .ok (.iconst 0, 1) := by decide +kernel
theorem dX4_clear_7 : decode cX4_clear 7 = .ok (.putfield 25, 3) := by decide +kernel
theorem dX4_clear_10 : decode cX4_clear 10 = .ok (.aload_n 0, 1) := by decide +kernel
theorem dX4_clear_11 : decode cX4_clear 11 = .ok (.iconst 0, 1) := by decide +kernel
theorem dX4_clear_12 : decode cX4_clear 12 = .ok (.putfield 28, 3) := by decide +kernel
theorem dX4_clear_15 : decode cX4_clear 15 = .ok (.return_, 1) := by decide +kernel
theorem dX4_isNone_0 : decode cX4_isNone 0 = .ok (.aload_n 0, 1) := by decide +kernel
theorem dX4_isNone_1 : decode cX4_isNone 1 = .ok (.getfield 21, 3) := by decide +kernel
theorem dX4_isNone_4 : decode cX4_isNone 4 = .ok (.ifCond .ne 7, 3) := by decide +kernel
theorem dX4_isNone_7 : decode cX4_isNone 7 = .ok (.iconst 1, 1) := by decide +kernel
theorem dX4_isNone_8 : decode cX4_isNone 8 = .ok (.goto 4, 3) := by decide +kernel
theorem dX4_isNone_11 : decode cX4_isNone 11 = .ok (.iconst 0, 1) := by decide +kernel
theorem dX4_isNone_12 : decode cX4_isNone 12 = .ok (.ireturn, 1) := by decide +kernel
theorem dX4_isFull_0 : decode cX4_isFull 0 = .ok (.aload_n 0, 1) := by decide +kernel
theorem dX4_isFull_1 : decode cX4_isFull 1 = .ok (.getfield 25, 3) := by decide +kernel
theorem dX4_isFull_4 : decode cX4_isFull 4 = .ok (.bipush 10, 2) := by decide +kernel
theorem dX4_isFull_6 : decode cX4_isFull 6 = .ok (.if_icmp .lt 7, 3) := by decide +kernel
theorem dX4_isFull_9 : decode cX4_isFull 9 = .ok (.iconst 1, 1) := by decide +kernel
theorem dX4_isFull_10 : decode cX4_isFull 10 = .ok (.goto 4, 3) := by decide +kernel
theorem dX4_isFull_13 : decode cX4_isFull 13 = .ok (.iconst 0, 1) := by decide +kernel
theorem dX4_isFull_14 : decode cX4_isFull 14 = .ok (.ireturn, 1) := by decide +kernel
theorem dX4_addRule_0 : decode cX4_addRule 0 = .ok (.aload_n 0, 1) := by decide +kernel
theorem dX4_addRule_1 : decode cX4_addRule 1 = .ok (.invokevirtual 31, 3) := by decide +kernel
theorem dX4_addRule_4 : decode cX4_addRule 4 = .ok (.ifCond .eq 4, 3) := by decide +kernel
theorem dX4_addRule_7 : decode cX4_addRule 7 = .ok (.return_, 1) := by decide +kernel
theorem dX4_addRule_8 : decode cX4_addRule 8 = .ok (.aload_n 0, 1) := by decide +kernel
theorem dX4_addRule_9 : decode cX4_addRule 9 = .ok (.getfield 9, 3) := by decide +kernel
theorem dX4_addRule_12 : decode cX4_addRule 12 = .ok (.aload_n 0, 1) := by decide +kernel
theorem dX4_addRule_13 : decode cX4_addRule 13 = .ok (.getfield 25, 3) := by decide +kernel
theorem dX4_addRule_16 : decode cX4_addRule 16 = .ok (.iload_n 1, 1) := by decide +kernel
theorem dX4_addRule_17 : decode cX4_addRule 17 = .ok (.iastore, 1) := by decide +kernel
theorem dX4_addRule_18 : decode cX4_addRule 18 = .ok (.aload_n 0, 1) := by decide +kernel
theorem dX4_addRule_19 : decode cX4_addRule 19 = .ok (.getfield 15, 3) := by decide +kernel
theorem dX4_addRule_22 : decode cX4_addRule 22 = .ok (.aload_n 0, 1) := by decide +kernel
theorem dX4_addRule_23 : decode cX4_addRule 23 = .ok (.getfield 25, 3) := by decide +kernel
theorem dX4_addRule_26 : decode cX4_addRule 26 = .ok (.iload_n 2, 1) := by decide +kernel
theorem dX4_addRule_27 : decode cX4_addRule 27 = .ok (.iastore, 1) := by decide +kernel
theorem dX4_addRule_28 : decode cX4_addRule 28 = .ok (.aload_n 0, 1) := by decide +kernel
theorem dX4_addRule_29 : decode cX4_addRule 29 = .ok (.getfield 18, 3) := by decide +kernel
theorem dX4_addRule_32 : decode cX4_addRule 32 = .ok (.aload_n 0, 1) := by decide +kernel
theorem dX4_addRule_33 : decode cX4_addRule 33 = .ok (.getfield 25, 3) := by decide +kernel
theorem dX4_addRule_36 : decode cX4_addRule 36 = .ok (.iload_n 3, 1) := by decide +kernel
theorem dX4_addRule_37 : decode cX4_addRule 37 = .ok (.iastore, 1) := by decide +kernel
theorem dX4_addRule_38 : decode cX4_addRule 38 = .ok (.aload_n 0, 1) := by decide +kernel
theorem dX4_addRule_39 : decode cX4_addRule 39 = .ok (.dup, 1) := by decide +kernel
theorem dX4_addRule_40 : decode cX4_addRule 40 = .ok (.getfield 25, 3) := by decide +kernel
theorem dX4_addRule_43 : decode cX4_addRule 43 = .ok (.iconst 1, 1) := by decide +kernel
theorem dX4_addRule_44 : decode cX4_addRule 44 = .ok (.iadd, 1) := by decide +kernel
theorem dX4_addRule_45 : decode cX4_addRule 45 = .ok (.putfield 25, 3) := by decide +kernel
theorem dX4_addRule_48 : decode cX4_addRule 48 = .ok (.return_, 1) := by decide +kernel
theorem dX4_sayings_0 : decode cX4_sayings 0 = .ok (.iconst 2, 1) := by decide +kernel
theorem dX4_sayings_1 : decode cX4_sayings 1 = .ok (.aload_n 0, 1) := by decide +kernel
theorem dX4_sayings_2 : decode cX4_sayings 2 = .ok (.getfield 21, 3) := by decide +kernel
theorem dX4_sayings_5 : decode cX4_sayings 5 = .ok (.imul, 1) := by decide +kernel
theorem dX4_sayings_6 : decode cX4_sayings 6 = .ok (.ireturn, 1) := by decide +kernel
theorem dX4_allSayings_0 : decode cX4_allSayings 0 = .ok (.iconst 1, 1) := by decide +kernel
theorem dX4_allSayings_1 : decode cX4_allSayings 1 = .ok (.aload_n 0, 1) := by decide +kernel
theorem dX4_allSayings_2 : decode cX4_allSayings 2 = .ok (.invokevirtual 35, 3) := by decide +kernel
theorem dX4_allSayings_5 : decode cX4_allSayings 5 = .ok (.ishl, 1) := by decide +kernel
theorem dX4_allSayings_6 : decode cX4_allSayings 6 = .ok (.iconst 1, 1) := by decide +kernel
theorem dX4_allSayings_7 : decode cX4_allSayings 7 = .ok (.isub, 1) := by decide +kernel
theorem dX4_allSayings_8 : decode cX4_allSayings 8 = .ok (.ireturn, 1) := by decide +kernel
theorem dX4_allRules_0 : decode cX4_allRules 0 = .ok (.iconst 1, 1) := by decide +kernel
theorem dX4_allRules_1 : decode cX4_allRules 1 = .ok (.aload_n 0, 1) := by decide +kernel
theorem dX4_allRules_2 : decode cX4_allRules 2 = .ok (.getfield 25, 3) := by decide +kernel
theorem dX4_allRules_5 : decode cX4_allRules 5 = .ok (.ishl, 1) := by decide +kernel
theorem dX4_allRules_6 : decode cX4_allRules 6 = .ok (.iconst 1, 1) := by decide +kernel
theorem dX4_allRules_7 : decode cX4_allRules 7 = .ok (.isub, 1) := by decide +kernel
theorem dX4_allRules_8 : decode cX4_allRules 8 = .ok (.ireturn, 1) := by decide +kernel
theorem dX4_hasSaying_0 : decode cX4_hasSaying 0 = .ok (.iload_n 1, 1) := by decide +kernel
theorem dX4_hasSaying_1 : decode cX4_hasSaying 1 = .ok (.ifCond .lt 15, 3) := by decide +kernel
theorem dX4_hasSaying_4 : decode cX4_hasSaying 4 = .ok (.iload_n 1, 1) := by decide +kernel
theorem dX4_hasSaying_5 : decode cX4_hasSaying 5 = .ok (.aload_n 0, 1) := by decide +kernel
theorem dX4_hasSaying_6 : decode cX4_hasSaying 6 = .ok (.invokevirtual 35, 3) := by decide +kernel
theorem dX4_hasSaying_9 : decode cX4_hasSaying 9 = .ok (.if_icmp .ge 7, 3) := by decide +kernel
theorem dX4_hasSaying_12 : decode cX4_hasSaying 12 = .ok (.iconst 1, 1) := by decide +kernel
theorem dX4_hasSaying_13 : decode cX4_hasSaying 13 = .ok (.goto 4, 3) := by decide +kernel
theorem dX4_hasSaying_16 : decode cX4_hasSaying 16 = .ok (.iconst 0, 1) := by decide +kernel
theorem dX4_hasSaying_17 : decode cX4_hasSaying 17 = .ok (.ireturn, 1) := by decide +kernel
theorem dX4_hasSayings_0 : decode cX4_hasSayings 0 = .ok (.iload_n 1, 1) := by decide +kernel
theorem dX4_hasSayings_1 : decode cX4_hasSayings 1 = .ok (.aload_n 0, 1) := by decide +kernel
theorem dX4_hasSayings_2 : decode cX4_hasSayings 2 = .ok (.invokevirtual 39, 3) := by decide +kernel
theorem dX4_hasSayings_5 : decode cX4_hasSayings 5 = .ok (.iconst (-1), 1) := by decide +kernel
theorem dX4_hasSayings_6 : decode cX4_hasSayings 6 = .ok (.ixor, 1) := by decide +kernel
theorem dX4_hasSayings_7 : decode cX4_hasSayings 7 = .ok (.iand, 1) := by decide +kernel
theorem dX4_hasSayings_8 : decode cX4_hasSayings 8 = .ok (.ifCond .ne 7, 3) := by decide +kernel
theorem dX4_hasSayings_11 : decode cX4_hasSayings 11 = .ok (.iconst 1, 1) := by decide +kernel
theorem dX4_hasSayings_12 : decode cX4_hasSayings 12 = .ok (.goto 4, 3) := by decide +kernel
theorem dX4_hasSayings_15 : decode cX4_hasSayings 15 = .ok (.iconst 0, 1) := by decide +kernel
theorem dX4_hasSayings_16 : decode cX4_hasSayings 16 = .ok (.ireturn, 1) := by decide +kernel
theorem dX4_hasRule_0 : decode cX4_hasRule 0 = .ok (.iload_n 1, 1) := by decide +kernel
theorem dX4_hasRule_1 : decode cX4_hasRule 1 = .ok (.ifCond .lt 15, 3) := by decide +kernel
theorem dX4_hasRule_4 : decode cX4_hasRule 4 = .ok (.iload_n 1, 1) := by decide +kernel
theorem dX4_hasRule_5 : decode cX4_hasRule 5 = .ok (.aload_n 0, 1) := by decide +kernel
theorem dX4_hasRule_6 : decode cX4_hasRule 6 = .ok (.getfield 25, 3) := by decide +kernel
theorem dX4_hasRule_9 : decode cX4_hasRule 9 = .ok (.if_icmp .ge 7, 3) := by decide +kernel
theorem dX4_hasRule_12 : decode cX4_hasRule 12 = .ok (.iconst 1, 1) := by decide +kernel
theorem dX4_hasRule_13 : decode cX4_hasRule 13 = .ok (.goto 4, 3) := by decide +kernel
theorem dX4_hasRule_16 : decode cX4_hasRule 16 = .ok (.iconst 0, 1) := by decide +kernel
theorem dX4_hasRule_17 : decode cX4_hasRule 17 = .ok (.ireturn, 1) := by decide +kernel
theorem dX4_closure_0 : decode cX4_closure 0 = .ok (.iload_n 1, 1) := by decide +kernel
theorem dX4_closure_1 : decode cX4_closure 1 = .ok (.istore_n 3, 1) := by decide +kernel
theorem dX4_closure_2 : decode cX4_closure 2 = .ok (.iload_n 2, 1) := by decide +kernel
theorem dX4_closure_3 : decode cX4_closure 3 = .ok (.aload_n 0, 1) := by decide +kernel
theorem dX4_closure_4 : decode cX4_closure 4 = .ok (.invokevirtual 42, 3) := by decide +kernel
theorem dX4_closure_7 : decode cX4_closure 7 = .ok (.iand, 1) := by decide +kernel
theorem dX4_closure_8 : decode cX4_closure 8 = .ok (.istore 4, 2) := by decide +kernel
theorem dX4_closure_10 : decode cX4_closure 10 = .ok (.iconst 0, 1) := by decide +kernel
theorem dX4_closure_11 : decode cX4_closure 11 = .ok (.istore 5, 2) := by decide +kernel
theorem dX4_closure_13 : decode cX4_closure 13 = .ok (.iload 5, 2) := by decide +kernel
theorem dX4_closure_15 : decode cX4_closure 15 = .ok (.bipush 10, 2) := by decide +kernel
theorem dX4_closure_17 : decode cX4_closure 17 = .ok (.if_icmp .ge 93, 3) := by decide +kernel
theorem dX4_closure_20 : decode cX4_closure 20 = .ok (.iload 4, 2) := by decide +kernel
theorem dX4_closure_22 : decode cX4_closure 22 = .ok (.ifCond .eq 88, 3) := by decide +kernel
theorem dX4_closure_25 : decode cX4_closure 25 = .ok (.iload 4, 2) := by decide +kernel
theorem dX4_closure_27 : decode cX4_closure 27 = .ok (.istore 6, 2) := by decide +kernel
theorem dX4_closure_29 : decode cX4_closure 29 = .ok (.iconst 0, 1) := by decide +kernel
theorem dX4_closure_30 : decode cX4_closure 30 = .ok (.istore 7, 2) := by decide +kernel
theorem dX4_closure_32 : decode cX4_closure 32 = .ok (.iload 7, 2) := by decide +kernel
theorem dX4_closure_34 : decode cX4_closure 34 = .ok (.aload_n 0, 1) := by decide +kernel
theorem dX4_closure_35 : decode cX4_closure 35 = .ok (.getfield 25, 3) := by decide +kernel
theorem dX4_closure_38 : decode cX4_closure 38 = .ok (.if_icmp .ge 56, 3) := by decide +kernel
theorem dX4_closure_41 : decode cX4_closure 41 = .ok (.iload 4, 2) := by decide +kernel
theorem dX4_closure_43 : decode cX4_closure 43 = .ok (.iload 7, 2) := by decide +kernel
theorem dX4_closure_45 : decode cX4_closure 45 = .ok (.ishr, 1) := by decide +kernel
theorem dX4_closure_46 : decode cX4_closure 46 = .ok (.iconst 1, 1) := by decide +kernel
theorem dX4_closure_47 : decode cX4_closure 47 = .ok (.iand, 1) := by decide +kernel
theorem dX4_closure_48 : decode cX4_closure 48 = .ok (.ifCond .eq 40, 3) := by decide +kernel
theorem dX4_closure_51 : decode cX4_closure 51 = .ok (.aload_n 0, 1) := by decide +kernel
theorem dX4_closure_52 : decode cX4_closure 52 = .ok (.getfield 18, 3) := by decide +kernel
theorem dX4_closure_55 : decode cX4_closure 55 = .ok (.iload 7, 2) := by decide +kernel
theorem dX4_closure_57 : decode cX4_closure 57 = .ok (.iaload, 1) := by decide +kernel
theorem dX4_closure_58 : decode cX4_closure 58 = .ok (.iload_n 3, 1) := by decide +kernel
theorem dX4_closure_59 : decode cX4_closure 59 = .ok (.iconst (-1), 1) := by decide +kernel
theorem dX4_closure_60 : decode cX4_closure 60 = .ok (.ixor, 1) := by decide +kernel
theorem dX4_closure_61 : decode cX4_closure 61 = .ok (.iand, 1) := by decide +kernel
theorem dX4_closure_62 : decode cX4_closure 62 = .ok (.ifCond .ne 26, 3) := by decide +kernel
theorem dX4_closure_65 : decode cX4_closure 65 = .ok (.iload_n 3, 1) := by decide +kernel
theorem dX4_closure_66 : decode cX4_closure 66 = .ok (.iconst 1, 1) := by decide +kernel
theorem dX4_closure_67 : decode cX4_closure 67 = .ok (.aload_n 0, 1) := by decide +kernel
theorem dX4_closure_68 : decode cX4_closure 68 = .ok (.getfield 15, 3) := by decide +kernel
theorem dX4_closure_71 : decode cX4_closure 71 = .ok (.iload 7, 2) := by decide +kernel
theorem dX4_closure_73 : decode cX4_closure 73 = .ok (.iaload, 1) := by decide +kernel
theorem dX4_closure_74 : decode cX4_closure 74 = .ok (.ishl, 1) := by decide +kernel
theorem dX4_closure_75 : decode cX4_closure 75 = .ok (.ior, 1) := by decide +kernel
theorem dX4_closure_76 : decode cX4_closure 76 = .ok (.istore_n 3, 1) := by decide +kernel
theorem dX4_closure_77 : decode cX4_closure 77 = .ok (.iload 4, 2) := by decide +kernel
theorem dX4_closure_79 : decode cX4_closure 79 = .ok (.iconst 1, 1) := by decide +kernel
theorem dX4_closure_80 : decode cX4_closure 80 = .ok (.iload 7, 2) := by decide +kernel
theorem dX4_closure_82 : decode cX4_closure 82 = .ok (.ishl, 1) := by decide +kernel
theorem dX4_closure_83 : decode cX4_closure 83 = .ok (.iconst (-1), 1) := by decide +kernel
theorem dX4_closure_84 : decode cX4_closure 84 = .ok (.ixor, 1) := by decide +kernel
theorem dX4_closure_85 : decode cX4_closure 85 = .ok (.iand, 1) := by decide +kernel
theorem dX4_closure_86 : decode cX4_closure 86 = .ok (.istore 4, 2) := by decide +kernel
theorem dX4_closure_88 : decode cX4_closure 88 = .ok (.iinc 7 1, 3) := by decide +kernel
theorem dX4_closure_91 : decode cX4_closure 91 = .ok (.goto (-59), 3) := by decide +kernel
theorem dX4_closure_94 : decode cX4_closure 94 = .ok (.iload 4, 2) := by decide +kernel
theorem dX4_closure_96 : decode cX4_closure 96 = .ok (.iload 6, 2) := by decide +kernel
theorem dX4_closure_98 : decode cX4_closure 98 = .ok (.if_icmp .ne 6, 3) := by decide +kernel
theorem dX4_closure_101 : decode cX4_closure 101 = .ok (.goto 9, 3) := by decide +kernel
theorem dX4_closure_104 : decode cX4_closure 104 = .ok (.iinc 5 1, 3) := by decide +kernel
theorem dX4_closure_107 : decode cX4_closure 107 = .ok (.goto (-94), 3) := by decide +kernel
theorem dX4_closure_110 : decode cX4_closure 110 = .ok (.iload_n 3, 1) := by decide +kernel
theorem dX4_closure_111 : decode cX4_closure 111 = .ok (.ireturn, 1) := by decide +kernel
theorem dX4_quarrelsIn_0 : decode cX4_quarrelsIn 0 = .ok (.iconst 0, 1) := by decide +kernel
theorem dX4_quarrelsIn_1 : decode cX4_quarrelsIn 1 = .ok (.istore_n 2, 1) := by decide +kernel
theorem dX4_quarrelsIn_2 : decode cX4_quarrelsIn 2 = .ok (.iconst 0, 1) := by decide +kernel
theorem dX4_quarrelsIn_3 : decode cX4_quarrelsIn 3 = .ok (.istore_n 3, 1) := by decide +kernel
theorem dX4_quarrelsIn_4 : decode cX4_quarrelsIn 4 = .ok (.iload_n 3, 1) := by decide +kernel
theorem dX4_quarrelsIn_5 : decode cX4_quarrelsIn 5 = .ok (.aload_n 0, 1) := by decide +kernel
theorem dX4_quarrelsIn_6 : decode cX4_quarrelsIn 6 = .ok (.getfield 21, 3) := by decide +kernel
theorem dX4_quarrelsIn_9 : decode cX4_quarrelsIn 9 = .ok (.if_icmp .ge 37, 3) := by decide +kernel
theorem dX4_quarrelsIn_12 : decode cX4_quarrelsIn 12 = .ok (.iload_n 1, 1) := by decide +kernel
theorem dX4_quarrelsIn_13 : decode cX4_quarrelsIn 13 = .ok (.iconst 2, 1) := by decide +kernel
theorem dX4_quarrelsIn_14 : decode cX4_quarrelsIn 14 = .ok (.iload_n 3, 1) := by decide +kernel
theorem dX4_quarrelsIn_15 : decode cX4_quarrelsIn 15 = .ok (.imul, 1) := by decide +kernel
theorem dX4_quarrelsIn_16 : decode cX4_quarrelsIn 16 = .ok (.invokestatic 45, 3) := by decide +kernel
theorem dX4_quarrelsIn_19 : decode cX4_quarrelsIn 19 = .ok (.ifCond .eq 21, 3) := by decide +kernel
theorem dX4_quarrelsIn_22 : decode cX4_quarrelsIn 22 = .ok (.iload_n 1, 1) := by decide +kernel
theorem dX4_quarrelsIn_23 : decode cX4_quarrelsIn 23 = .ok (.iconst 2, 1) := by decide +kernel
theorem dX4_quarrelsIn_24 : decode cX4_quarrelsIn 24 = .ok (.iload_n 3, 1) := by decide +kernel
theorem dX4_quarrelsIn_25 : decode cX4_quarrelsIn 25 = .ok (.imul, 1) := by decide +kernel
theorem dX4_quarrelsIn_26 : decode cX4_quarrelsIn 26 = .ok (.iconst 1, 1) := by decide +kernel
theorem dX4_quarrelsIn_27 : decode cX4_quarrelsIn 27 = .ok (.iadd, 1) := by decide +kernel
theorem dX4_quarrelsIn_28 : decode cX4_quarrelsIn 28 = .ok (.invokestatic 45, 3) := by decide +kernel
theorem dX4_quarrelsIn_31 : decode cX4_quarrelsIn 31 = .ok (.ifCond .eq 9, 3) := by decide +kernel
theorem dX4_quarrelsIn_34 : decode cX4_quarrelsIn 34 = .ok (.iload_n 2, 1) := by decide +kernel
theorem dX4_quarrelsIn_35 : decode cX4_quarrelsIn 35 = .ok (.iconst 1, 1) := by decide +kernel
theorem dX4_quarrelsIn_36 : decode cX4_quarrelsIn 36 = .ok (.iload_n 3, 1) := by decide +kernel
theorem dX4_quarrelsIn_37 : decode cX4_quarrelsIn 37 = .ok (.ishl, 1) := by decide +kernel
theorem dX4_quarrelsIn_38 : decode cX4_quarrelsIn 38 = .ok (.ior, 1) := by decide +kernel
theorem dX4_quarrelsIn_39 : decode cX4_quarrelsIn 39 = .ok (.istore_n 2, 1) := by decide +kernel
theorem dX4_quarrelsIn_40 : decode cX4_quarrelsIn 40 = .ok (.iinc 3 1, 3) := by decide +kernel
theorem dX4_quarrelsIn_43 : decode cX4_quarrelsIn 43 = .ok (.goto (-39), 3) := by decide +kernel
theorem dX4_quarrelsIn_46 : decode cX4_quarrelsIn 46 = .ok (.iload_n 2, 1) := by decide +kernel
theorem dX4_quarrelsIn_47 : decode cX4_quarrelsIn 47 = .ok (.ireturn, 1) := by decide +kernel
theorem dX4_costOf_0 : decode cX4_costOf 0 = .ok (.iconst 0, 1) := by decide +kernel
theorem dX4_costOf_1 : decode cX4_costOf 1 = .ok (.istore_n 2, 1) := by decide +kernel
theorem dX4_costOf_2 : decode cX4_costOf 2 = .ok (.iconst 0, 1) := by decide +kernel
theorem dX4_costOf_3 : decode cX4_costOf 3 = .ok (.istore_n 3, 1) := by decide +kernel
theorem dX4_costOf_4 : decode cX4_costOf 4 = .ok (.iload_n 3, 1) := by decide +kernel
theorem dX4_costOf_5 : decode cX4_costOf 5 = .ok (.aload_n 0, 1) := by decide +kernel
theorem dX4_costOf_6 : decode cX4_costOf 6 = .ok (.getfield 25, 3) := by decide +kernel
theorem dX4_costOf_9 : decode cX4_costOf 9 = .ok (.if_icmp .ge 30, 3) := by decide +kernel
theorem dX4_costOf_12 : decode cX4_costOf 12 = .ok (.iload_n 2, 1) := by decide +kernel
theorem dX4_costOf_13 : decode cX4_costOf 13 = .ok (.iload_n 1, 1) := by decide +kernel
theorem dX4_costOf_14 : decode cX4_costOf 14 = .ok (.iload_n 3, 1) := by decide +kernel
theorem dX4_costOf_15 : decode cX4_costOf 15 = .ok (.invokestatic 45, 3) := by decide +kernel
theorem dX4_costOf_18 : decode cX4_costOf 18 = .ok (.ifCond .eq 12, 3) := by decide +kernel
theorem dX4_costOf_21 : decode cX4_costOf 21 = .ok (.aload_n 0, 1) := by decide +kernel
theorem dX4_costOf_22 : decode cX4_costOf 22 = .ok (.getfield 9, 3) := by decide +kernel
theorem dX4_costOf_25 : decode cX4_costOf 25 = .ok (.iload_n 3, 1) := by decide +kernel
theorem dX4_costOf_26 : decode cX4_costOf 26 = .ok (.iaload, 1) := by decide +kernel
theorem dX4_costOf_27 : decode cX4_costOf 27 = .ok (.goto 4, 3) := by decide +kernel
theorem dX4_costOf_30 : decode cX4_costOf 30 = .ok (.iconst 0, 1) := by decide +kernel
theorem dX4_costOf_31 : decode cX4_costOf 31 = .ok (.iadd, 1) := by decide +kernel
theorem dX4_costOf_32 : decode cX4_costOf 32 = .ok (.istore_n 2, 1) := by decide +kernel
theorem dX4_costOf_33 : decode cX4_costOf 33 = .ok (.iinc 3 1, 3) := by decide +kernel
theorem dX4_costOf_36 : decode cX4_costOf 36 = .ok (.goto (-32), 3) := by decide +kernel
theorem dX4_costOf_39 : decode cX4_costOf 39 = .ok (.iload_n 2, 1) := by decide +kernel
theorem dX4_costOf_40 : decode cX4_costOf 40 = .ok (.ireturn, 1) := by decide +kernel
theorem dX4_concludedBy_0 : decode cX4_concludedBy 0 = .ok (.iconst 0, 1) := by decide +kernel
theorem dX4_concludedBy_1 : decode cX4_concludedBy 1 = .ok (.istore_n 2, 1) := by decide +kernel
theorem dX4_concludedBy_2 : decode cX4_concludedBy 2 = .ok (.iconst 0, 1) := by decide +kernel
theorem dX4_concludedBy_3 : decode cX4_concludedBy 3 = .ok (.istore_n 3, 1) := by decide +kernel
theorem dX4_concludedBy_4 : decode cX4_concludedBy 4 = .ok (.iload_n 3, 1) := by decide +kernel
theorem dX4_concludedBy_5 : decode cX4_concludedBy 5 = .ok (.aload_n 0, 1) := by decide +kernel
theorem dX4_concludedBy_6 : decode cX4_concludedBy 6 = .ok (.getfield 25, 3) := by decide +kernel
theorem dX4_concludedBy_9 : decode cX4_concludedBy 9 = .ok (.if_icmp .ge 32, 3) := by decide +kernel
theorem dX4_concludedBy_12 : decode cX4_concludedBy 12 = .ok (.iload_n 2, 1) := by decide +kernel
theorem dX4_concludedBy_13 : decode cX4_concludedBy 13 = .ok (.iload_n 1, 1) := by decide +kernel
theorem dX4_concludedBy_14 : decode cX4_concludedBy 14 = .ok (.iload_n 3, 1) := by decide +kernel
theorem dX4_concludedBy_15 : decode cX4_concludedBy 15 = .ok (.invokestatic 45, 3) := by decide +kernel
theorem dX4_concludedBy_18 : decode cX4_concludedBy 18 = .ok (.ifCond .eq 14, 3) := by decide +kernel
theorem dX4_concludedBy_21 : decode cX4_concludedBy 21 = .ok (.iconst 1, 1) := by decide +kernel
theorem dX4_concludedBy_22 : decode cX4_concludedBy 22 = .ok (.aload_n 0, 1) := by decide +kernel
theorem dX4_concludedBy_23 : decode cX4_concludedBy 23 = .ok (.getfield 15, 3) := by decide +kernel
theorem dX4_concludedBy_26 : decode cX4_concludedBy 26 = .ok (.iload_n 3, 1) := by decide +kernel
theorem dX4_concludedBy_27 : decode cX4_concludedBy 27 = .ok (.iaload, 1) := by decide +kernel
theorem dX4_concludedBy_28 : decode cX4_concludedBy 28 = .ok (.ishl, 1) := by decide +kernel
theorem dX4_concludedBy_29 : decode cX4_concludedBy 29 = .ok (.goto 4, 3) := by decide +kernel
theorem dX4_concludedBy_32 : decode cX4_concludedBy 32 = .ok (.iconst 0, 1) := by decide +kernel
theorem dX4_concludedBy_33 : decode cX4_concludedBy 33 = .ok (.ior, 1) := by decide +kernel
theorem dX4_concludedBy_34 : decode cX4_concludedBy 34 = .ok (.istore_n 2, 1) := by decide +kernel
theorem dX4_concludedBy_35 : decode cX4_concludedBy 35 = .ok (.iinc 3 1, 3) := by decide +kernel
theorem dX4_concludedBy_38 : decode cX4_concludedBy 38 = .ok (.goto (-34), 3) := by decide +kernel
theorem dX4_concludedBy_41 : decode cX4_concludedBy 41 = .ok (.iload_n 2, 1) := by decide +kernel
theorem dX4_concludedBy_42 : decode cX4_concludedBy 42 = .ok (.ireturn, 1) := by decide +kernel
theorem dX5_init_0 : decode cX5_init 0 = .ok (.aload_n 0, 1) := by decide +kernel
theorem dX5_init_1 : decode cX5_init 1 = .ok (.invokespecial 3, 3) := by decide +kernel
theorem dX5_init_4 : decode cX5_init 4 = .ok (.aload_n 0, 1) := by decide +kernel
theorem dX5_init_5 : decode cX5_init 5 = .ok (.sipush 240, 3) := by decide +kernel
theorem dX5_init_8 : decode cX5_init 8 = .ok (.newarray .int, 2) := by decide +kernel
theorem dX5_init_10 : decode cX5_init 10 = .ok (.putfield 9, 3) := by decide +kernel
theorem dX5_init_13 : decode cX5_init 13 = .ok (.aload_n 0, 1) := by decide +kernel
theorem dX5_init_14 : decode cX5_init 14 = .ok (.iconst 0, 1) := by decide +kernel
theorem dX5_init_15 : decode cX5_init 15 = .ok (.putfield 15, 3) := by decide +kernel
theorem dX5_init_18 : decode cX5_init 18 = .ok (.aload_n 0, 1) := by decide +kernel
theorem dX5_init_19 : decode cX5_init 19 = .ok (.iconst 0, 1) := by decide +kernel
theorem dX5_init_20 : decode cX5_init 20 = .ok (.putfield 19, 3) := by decide +kernel
theorem dX5_init_23 : decode cX5_init 23 = .ok (.aload_n 0, 1) := by decide +kernel
theorem dX5_init_24 : decode cX5_init 24 = .ok (.iconst 0, 1) := by decide +kernel
theorem dX5_init_25 : decode cX5_init 25 = .ok (.putfield 22, 3) := by decide +kernel
theorem dX5_init_28 : decode cX5_init 28 = .ok (.aload_n 0, 1) := by decide +kernel
theorem dX5_init_29 : decode cX5_init 29 = .ok (.iconst 0, 1) := by decide +kernel
theorem dX5_init_30 : decode cX5_init 30 = .ok (.putfield 25, 3) := by decide +kernel
theorem dX5_init_33 : decode cX5_init 33 = .ok (.aload_n 0, 1) := by decide +kernel
theorem dX5_init_34 : decode cX5_init 34 = .ok (.iconst (-1), 1) := by decide +kernel
theorem dX5_init_35 : decode cX5_init 35 = .ok (.putfield 28, 3) := by decide +kernel
theorem dX5_init_38 : decode cX5_init 38 = .ok (.return_, 1) := by decide +kernel
theorem dX5_append_0 : decode cX5_append 0 = .ok (.aload_n 0, 1) := by decide +kernel
theorem dX5_append_1 : decode cX5_append 1 = .ok (.getfield 15, 3) := by decide +kernel
theorem dX5_append_4 : decode cX5_append 4 = .ok (.sipush 240, 3) := by decide +kernel
theorem dX5_append_7 : decode cX5_append 7 = .ok (.if_icmp .lt 5, 3) := by decide +kernel
theorem dX5_append_10 : decode cX5_append 10 = .ok (.iconst 0, 1) := by decide +kernel
theorem dX5_append_11 : decode cX5_append 11 = .ok (.ireturn, 1) := by decide +kernel
theorem dX5_append_12 : decode cX5_append 12 = .ok (.aload_n 0, 1) := by decide +kernel
theorem dX5_append_13 : decode cX5_append 13 = .ok (.getfield 9, 3) := by decide +kernel
theorem dX5_append_16 : decode cX5_append 16 = .ok (.aload_n 0, 1) := by decide +kernel
theorem dX5_append_17 : decode cX5_append 17 = .ok (.getfield 15, 3) := by decide +kernel
theorem dX5_append_20 : decode cX5_append 20 = .ok (.iload_n 1, 1) := by decide +kernel
theorem dX5_append_21 : decode cX5_append 21 = .ok (.iastore, 1) := by decide +kernel
theorem dX5_append_22 : decode cX5_append 22 = .ok (.aload_n 0, 1) := by decide +kernel
theorem dX5_append_23 : decode cX5_append 23 = .ok (.dup, 1) := by decide +kernel
theorem dX5_append_24 : decode cX5_append 24 = .ok (.getfield 15, 3) := by decide +kernel
theorem dX5_append_27 : decode cX5_append 27 = .ok (.iconst 1, 1) := by decide +kernel
theorem dX5_append_28 : decode cX5_append 28 = .ok (.iadd, 1) := by decide +kernel
theorem dX5_append_29 : decode cX5_append 29 = .ok (.putfield 15, 3) := by decide +kernel
theorem dX5_append_32 : decode cX5_append 32 = .ok (.iconst 1, 1) := by decide +kernel
theorem dX5_append_33 : decode cX5_append 33 = .ok (.ireturn, 1) := by decide +kernel
theorem dX5_length_0 : decode cX5_length 0 = .ok (.aload_n 0, 1) := by decide +kernel
theorem dX5_length_1 : decode cX5_length 1 = .ok (.getfield 15, 3) := by decide +kernel
theorem dX5_length_4 : decode cX5_length 4 = .ok (.ireturn, 1) := by decide +kernel
theorem dX5_forgetText_0 : decode cX5_forgetText 0 = .ok (.aload_n 0, 1) := by decide +kernel
theorem dX5_forgetText_1 : decode cX5_forgetText 1 = .ok (.iconst 0, 1) := by decide +kernel
theorem dX5_forgetText_2 : decode cX5_forgetText 2 = .ok (.putfield 15, 3) := by decide +kernel
theorem dX5_forgetText_5 : decode cX5_forgetText 5 = .ok (.return_, 1) := by decide +kernel
theorem dX5_faultKind_0 : decode cX5_faultKind 0 = .ok (.aload_n 0, 1) := by decide +kernel
theorem dX5_faultKind_1 : decode cX5_faultKind 1 = .ok (.getfield 25, 3) := by decide +kernel
theorem dX5_faultKind_4 : decode cX5_faultKind 4 = .ok (.ireturn, 1) := by decide +kernel
theorem dX5_faultAt_0 : decode cX5_faultAt 0 = .ok (.aload_n 0, 1) := by decide +kernel
theorem dX5_faultAt_1 : decode cX5_faultAt 1 = .ok (.getfield 28, 3) := by decide +kernel
theorem dX5_faultAt_4 : decode cX5_faultAt 4 = .ok (.ireturn, 1) := by decide +kernel
theorem dX5_readInto_0 : decode cX5_readInto 0 = .ok (.aload_n 0, 1) := by decide +kernel
theorem dX5_readInto_1 : decode cX5_readInto 1 = .ok (.iconst 0, 1) := by decide +kernel
theorem dX5_readInto_2 : decode cX5_readInto 2 = .ok (.putfield 19, 3) := by decide +kernel
theorem dX5_readInto_5 : decode cX5_readInto 5 = .ok (.aload_n 0, 1) := by decide +kernel
theorem dX5_readInto_6 : decode cX5_readInto 6 = .ok (.iconst 0, 1) := by decide +kernel
theorem dX5_readInto_7 : decode cX5_readInto 7 = .ok (.putfield 25, 3) := by decide +kernel
theorem dX5_readInto_10 : decode cX5_readInto 10 = .ok (.aload_n 0, 1) := by decide +kernel
theorem dX5_readInto_11 : decode cX5_readInto 11 = .ok (.iconst (-1), 1) := by decide +kernel
theorem dX5_readInto_12 : decode cX5_readInto 12 = .ok (.putfield 28, 3) := by decide +kernel
theorem dX5_readInto_15 : decode cX5_readInto 15 = .ok (.aload_n 1, 1) := by decide +kernel
theorem dX5_readInto_16 : decode cX5_readInto 16 = .ok (.invokevirtual 31, 3) := by decide +kernel
theorem dX5_readInto_19 : decode cX5_readInto 19 = .ok (.aload_n 0, 1) := by decide +kernel
theorem dX5_readInto_20 : decode cX5_readInto 20 = .ok (.invokevirtual 36, 3) := by decide +kernel
theorem dX5_readInto_23 : decode cX5_readInto 23 = .ok (.iconst (-1), 1) := by decide +kernel
theorem dX5_readInto_24 : decode cX5_readInto 24 = .ok (.if_icmp .ne 4, 3) := by decide +kernel
theorem dX5_readInto_27 : decode cX5_readInto 27 = .ok (.return_, 1) := by decide +kernel
theorem dX5_readInto_28 : decode cX5_readInto 28 = .ok (.aload_n 0, 1) := by decide +kernel
theorem dX5_readInto_29 : decode cX5_readInto 29 = .ok (.aload_n 1, 1) := by decide +kernel
theorem dX5_readInto_30 : decode cX5_readInto 30 = .ok (.invokevirtual 40, 3) := by decide +kernel
theorem dX5_readInto_33 : decode cX5_readInto 33 = .ok (.iconst 0, 1) := by decide +kernel
theorem dX5_readInto_34 : decode cX5_readInto 34 = .ok (.istore_n 2, 1) := by decide +kernel
theorem dX5_readInto_35 : decode cX5_readInto 35 = .ok (.iload_n 2, 1) := by decide +kernel
theorem dX5_readInto_36 : decode cX5_readInto 36 = .ok (.sipush 240, 3) := by decide +kernel
theorem dX5_readInto_39 : decode cX5_readInto 39 = .ok (.if_icmp .ge 29, 3) := by decide +kernel
theorem dX5_readInto_42 : decode cX5_readInto 42 = .ok (.aload_n 0, 1) := by decide +kernel
theorem dX5_readInto_43 : decode cX5_readInto 43 = .ok (.getfield 25, 3) := by decide +kernel
theorem dX5_readInto_46 : decode cX5_readInto 46 = .ok (.ifCond .ne 22, 3) := by decide +kernel
theorem dX5_readInto_49 : decode cX5_readInto 49 = .ok (.aload_n 0, 1) := by decide +kernel
theorem dX5_readInto_50 : decode cX5_readInto 50 = .ok (.invokevirtual 36, 3) := by decide +kernel
theorem dX5_readInto_53 : decode cX5_readInto 53 = .ok (.iconst (-1), 1) := by decide +kernel
theorem dX5_readInto_54 : decode cX5_readInto 54 = .ok (.if_icmp .eq 14, 3) := by decide +kernel
theorem dX5_readInto_57 : decode cX5_readInto 57 = .ok (.aload_n 0, 1) := by decide +kernel
theorem dX5_readInto_58 : decode cX5_readInto 58 = .ok (.aload_n 1, 1) := by decide +kernel
theorem dX5_readInto_59 : decode cX5_readInto 59 = .ok (.invokevirtual 44, 3) := by decide +kernel
theorem dX5_readInto_62 : decode cX5_readInto 62 = .ok (.iinc 2 1, 3) := by decide +kernel
theorem dX5_readInto_65 : decode cX5_readInto 65 = .ok (.goto (-30), 3) := by decide +kernel
theorem dX5_readInto_68 : decode cX5_readInto 68 = .ok (.return_, 1) := by decide +kernel
theorem dX5_readThings_0 : decode cX5_readThings 0 = .ok (.aload_n 0, 1) := by decide +kernel
theorem dX5_readThings_1 : decode cX5_readThings 1 = .ok (.bipush 116, 2) := by decide +kernel
theorem dX5_readThings_3 : decode cX5_readThings 3 = .ok (.invokevirtual 47, 3) := by decide +kernel
theorem dX5_readThings_6 : decode cX5_readThings 6 = .ok (.ifCond .ne 4, 3) := by decide +kernel
theorem dX5_readThings_9 : decode cX5_readThings 9 = .ok (.return_, 1) := by decide +kernel
theorem dX5_readThings_10 : decode cX5_readThings 10 = .ok (.aload_n 0, 1) := by decide +kernel
theorem dX5_readThings_11 : decode cX5_readThings 11 = .ok (.iconst 1, 1) := by decide +kernel
theorem dX5_readThings_12 : decode cX5_readThings 12 = .ok (.bipush 8, 2) := by decide +kernel
theorem dX5_readThings_14 : decode cX5_readThings 14 = .ok (.invokevirtual 51, 3) := by decide +kernel
theorem dX5_readThings_17 : decode cX5_readThings 17 = .ok (.istore_n 2, 1) := by decide +kernel
theorem dX5_readThings_18 : decode cX5_readThings 18 = .ok (.iload_n 2, 1) := by decide +kernel
theorem dX5_readThings_19 : decode cX5_readThings 19 = .ok (.iconst (-1), 1) := by decide +kernel
theorem dX5_readThings_20 : decode cX5_readThings 20 = .ok (.if_icmp .eq 17, 3) := by decide +kernel
theorem dX5_readThings_23 : decode cX5_readThings 23 = .ok (.aload_n 0, 1) := by decide +kernel
theorem dX5_readThings_24 : decode cX5_readThings 24 = .ok (.bipush 59, 2) := by decide +kernel
theorem dX5_readThings_26 : decode cX5_readThings 26 = .ok (.invokevirtual 47, 3) := by decide +kernel
theorem dX5_readThings_29 : decode cX5_readThings 29 = .ok (.ifCond .eq 8, 3) := by decide +kernel
theorem dX5_readThings_32 : decode cX5_readThings 32 = .ok (.aload_n 1, 1) := by decide +kernel
theorem dX5_readThings_33 : decode cX5_readThings 33 = .ok (.iload_n 2, 1) := by decide +kernel
theorem dX5_readThings_34 : decode cX5_readThings 34 = .ok (.putfield 55, 3) := by decide +kernel
theorem dX5_readThings_37 : decode cX5_readThings 37 = .ok (.return_, 1) := by decide +kernel
theorem dX5_readClause_0 : decode cX5_readClause 0 = .ok (.aload_n 0, 1) := by decide +kernel
theorem dX5_readClause_1 : decode cX5_readClause 1 = .ok (.invokevirtual 36, 3) := by decide +kernel
theorem dX5_readClause_4 : decode cX5_readClause 4 = .ok (.istore_n 2, 1) := by decide +kernel
theorem dX5_readClause_5 : decode cX5_readClause 5 = .ok (.iload_n 2, 1) := by decide +kernel
theorem dX5_readClause_6 : decode cX5_readClause 6 = .ok (.bipush 116, 2) := by decide +kernel
theorem dX5_readClause_8 : decode cX5_readClause 8 = .ok (.if_icmp .eq 16, 3) := by decide +kernel
theorem dX5_readClause_11 : decode cX5_readClause 11 = .ok (.iload_n 2, 1) := by decide +kernel
theorem dX5_readClause_12 : decode cX5_readClause 12 = .ok (.bipush 114, 2) := by decide +kernel
theorem dX5_readClause_14 : decode cX5_readClause 14 = .ok (.if_icmp .ne 22, 3) := by decide +kernel
theorem dX5_readClause_17 : decode cX5_readClause 17 = .ok (.aload_n 1, 1) := by decide +kernel
theorem dX5_readClause_18 : decode cX5_readClause 18 = .ok (.invokevirtual 58, 3) := by decide +kernel
theorem dX5_readClause_21 : decode cX5_readClause 21 = .ok (.ifCond .eq 15, 3) := by decide +kernel
theorem dX5_readClause_24 : decode cX5_readClause 24 = .ok (.aload_n 0, 1) := by decide +kernel
theorem dX5_readClause_25 : decode cX5_readClause 25 = .ok (.iconst 3, 1) := by decide +kernel
theorem dX5_readClause_26 : decode cX5_readClause 26 = .ok (.aload_n 0, 1) := by decide +kernel
theorem dX5_readClause_27 : decode cX5_readClause 27 = .ok (.getfield 19, 3) := by decide +kernel
theorem dX5_readClause_30 : decode cX5_readClause 30 = .ok (.invokevirtual 62, 3) := by decide +kernel
theorem dX5_readClause_33 : decode cX5_readClause 33 = .ok (.goto 60, 3) := by decide +kernel
theorem dX5_readClause_36 : decode cX5_readClause 36 = .ok (.iload_n 2, 1) := by decide +kernel
theorem dX5_readClause_37 : decode cX5_readClause 37 = .ok (.bipush 114, 2) := by decide +kernel
theorem dX5_readClause_39 : decode cX5_readClause 39 = .ok (.if_icmp .ne 21, 3) := by decide +kernel
theorem dX5_readClause_42 : decode cX5_readClause 42 = .ok (.aload_n 0, 1) := by decide +kernel
theorem dX5_readClause_43 : decode cX5_readClause 43 = .ok (.dup, 1) := by decide +kernel
theorem dX5_readClause_44 : decode cX5_readClause 44 = .ok (.getfield 19, 3) := by decide +kernel
theorem dX5_readClause_47 : decode cX5_readClause 47 = .ok (.iconst 1, 1) := by decide +kernel
theorem dX5_readClause_48 : decode cX5_readClause 48 = .ok (.iadd, 1) := by decide +kernel
theorem dX5_readClause_49 : decode cX5_readClause 49 = .ok (.putfield 19, 3) := by decide +kernel
theorem dX5_readClause_52 : decode cX5_readClause 52 = .ok (.aload_n 0, 1) := by decide +kernel
theorem dX5_readClause_53 : decode cX5_readClause 53 = .ok (.aload_n 1, 1) := by decide +kernel
theorem dX5_readClause_54 : decode cX5_readClause 54 = .ok (.invokevirtual 66, 3) := by decide +kernel
theorem dX5_readClause_57 : decode cX5_readClause 57 = .ok (.goto 36, 3) := by decide +kernel
theorem dX5_readClause_60 : decode cX5_readClause 60 = .ok (.iload_n 2, 1) := by decide +kernel
theorem dX5_readClause_61 : decode cX5_readClause 61 = .ok (.bipush 115, 2) := by decide +kernel
theorem dX5_readClause_63 : decode cX5_readClause 63 = .ok (.if_icmp .ne 21, 3) := by decide +kernel
theorem dX5_readClause_66 : decode cX5_readClause 66 = .ok (.aload_n 0, 1) := by decide +kernel
theorem dX5_readClause_67 : decode cX5_readClause 67 = .ok (.dup, 1) := by decide +kernel
theorem dX5_readClause_68 : decode cX5_readClause 68 = .ok (.getfield 19, 3) := by decide +kernel
theorem dX5_readClause_71 : decode cX5_readClause 71 = .ok (.iconst 1, 1) := by decide +kernel
theorem dX5_readClause_72 : decode cX5_readClause 72 = .ok (.iadd, 1) := by decide +kernel
theorem dX5_readClause_73 : decode cX5_readClause 73 = .ok (.putfield 19, 3) := by decide +kernel
theorem dX5_readClause_76 : decode cX5_readClause 76 = .ok (.aload_n 0, 1) := by decide +kernel
theorem dX5_readClause_77 : decode cX5_readClause 77 = .ok (.aload_n 1, 1) := by decide +kernel
theorem dX5_readClause_78 : decode cX5_readClause 78 = .ok (.invokevirtual 69, 3) := by decide +kernel
theorem dX5_readClause_81 : decode cX5_readClause 81 = .ok (.goto 12, 3) := by decide +kernel
theorem dX5_readClause_84 : decode cX5_readClause 84 = .ok (.aload_n 0, 1) := by decide +kernel
theorem dX5_readClause_85 : decode cX5_readClause 85 = .ok (.iconst 1, 1) := by decide +kernel
theorem dX5_readClause_86 : decode cX5_readClause 86 = .ok (.aload_n 0, 1) := by decide +kernel
theorem dX5_readClause_87 : decode cX5_readClause 87 = .ok (.getfield 19, 3) := by decide +kernel
theorem dX5_readClause_90 : decode cX5_readClause 90 = .ok (.invokevirtual 62, 3) := by decide +kernel
theorem dX5_readClause_93 : decode cX5_readClause 93 = .ok (.return_, 1) := by decide +kernel
theorem dX5_readRule_0 : decode cX5_readRule 0 = .ok (.aload_n 0, 1) := by decide +kernel
theorem dX5_readRule_1 : decode cX5_readRule 1 = .ok (.iconst 0, 1) := by decide +kernel
theorem dX5_readRule_2 : decode cX5_readRule 2 = .ok (.bipush 99, 2) := by decide +kernel
theorem dX5_readRule_4 : decode cX5_readRule 4 = .ok (.invokevirtual 51, 3) := by decide +kernel
theorem dX5_readRule_7 : decode cX5_readRule 7 = .ok (.istore_n 2, 1) := by decide +kernel
theorem dX5_readRule_8 : decode cX5_readRule 8 = .ok (.iload_n 2, 1) := by decide +kernel
theorem dX5_readRule_9 : decode cX5_readRule 9 = .ok (.iconst (-1), 1) := by decide +kernel
theorem dX5_readRule_10 : decode cX5_readRule 10 = .ok (.if_icmp .ne 4, 3) := by decide +kernel
theorem dX5_readRule_13 : decode cX5_readRule 13 = .ok (.return_, 1) := by decide +kernel
theorem dX5_readRule_14 : decode cX5_readRule 14 = .ok (.aload_n 0, 1) := by decide +kernel
theorem dX5_readRule_15 : decode cX5_readRule 15 = .ok (.iconst 0, 1) := by decide +kernel
theorem dX5_readRule_16 : decode cX5_readRule 16 = .ok (.aload_n 1, 1) := by decide +kernel
theorem dX5_readRule_17 : decode cX5_readRule 17 = .ok (.invokevirtual 72, 3) := by decide +kernel
theorem dX5_readRule_20 : decode cX5_readRule 20 = .ok (.iconst 1, 1) := by decide +kernel
theorem dX5_readRule_21 : decode cX5_readRule 21 = .ok (.isub, 1) := by decide +kernel
theorem dX5_readRule_22 : decode cX5_readRule 22 = .ok (.invokevirtual 51, 3) := by decide +kernel
theorem dX5_readRule_25 : decode cX5_readRule 25 = .ok (.istore_n 3, 1) := by decide +kernel
theorem dX5_readRule_26 : decode cX5_readRule 26 = .ok (.iload_n 3, 1) := by decide +kernel
theorem dX5_readRule_27 : decode cX5_readRule 27 = .ok (.iconst (-1), 1) := by decide +kernel
theorem dX5_readRule_28 : decode cX5_readRule 28 = .ok (.if_icmp .ne 4, 3) := by decide +kernel
theorem dX5_readRule_31 : decode cX5_readRule 31 = .ok (.return_, 1) := by decide +kernel
theorem dX5_readRule_32 : decode cX5_readRule 32 = .ok (.aload_n 0, 1) := by decide +kernel
theorem dX5_readRule_33 : decode cX5_readRule 33 = .ok (.aload_n 1, 1) := by decide +kernel
theorem dX5_readRule_34 : decode cX5_readRule 34 = .ok (.iload_n 3, 1) := by decide +kernel
theorem dX5_readRule_35 : decode cX5_readRule 35 = .ok (.invokevirtual 75, 3) := by decide +kernel
theorem dX5_readRule_38 : decode cX5_readRule 38 = .ok (.istore 4, 2) := by decide +kernel
theorem dX5_readRule_40 : decode cX5_readRule 40 = .ok (.iload 4, 2) := by decide +kernel
theorem dX5_readRule_42 : decode cX5_readRule 42 = .ok (.iconst (-1), 1) := by decide +kernel
theorem dX5_readRule_43 : decode cX5_readRule 43 = .ok (.if_icmp .eq 20, 3) := by decide +kernel
theorem dX5_readRule_46 : decode cX5_readRule 46 = .ok (.aload_n 0, 1) := by decide +kernel
theorem dX5_readRule_47 : decode cX5_readRule 47 = .ok (.bipush 59, 2) := by decide +kernel
theorem dX5_readRule_49 : decode cX5_readRule 49 = .ok (.invokevirtual 47, 3) := by decide +kernel
theorem dX5_readRule_52 : decode cX5_readRule 52 = .ok (.ifCond .eq 11, 3) := by decide +kernel
theorem dX5_readRule_55 : decode cX5_readRule 55 = .ok (.aload_n 1, 1) := by decide +kernel
theorem dX5_readRule_56 : decode cX5_readRule 56 = .ok (.iload_n 2, 1) := by decide +kernel
theorem dX5_readRule_57 : decode cX5_readRule 57 = .ok (.iload_n 3, 1) := by decide +kernel
theorem dX5_readRule_58 : decode cX5_readRule 58 = .ok (.iload 4, 2) := by decide +kernel
theorem dX5_readRule_60 : decode cX5_readRule 60 = .ok (.invokevirtual 79, 3) := by decide +kernel
theorem dX5_readRule_63 : decode cX5_readRule 63 = .ok (.return_, 1) := by decide +kernel
theorem dX5_readPremises_0 : decode cX5_readPremises 0 = .ok (.iconst 0, 1) := by decide +kernel
theorem dX5_readPremises_1 : decode cX5_readPremises 1 = .ok (.istore_n 3, 1) := by decide +kernel
theorem dX5_readPremises_2 : decode cX5_readPremises 2 = .ok (.iconst 0, 1) := by decide +kernel
theorem dX5_readPremises_3 : decode cX5_readPremises 3 = .ok (.istore 4, 2) := by decide +kernel
theorem dX5_readPremises_5 : decode cX5_readPremises 5 = .ok (.iload 4, 2) := by decide +kernel
theorem dX5_readPremises_7 : decode cX5_readPremises 7 = .ok (.iconst 3, 1) := by decide +kernel
theorem dX5_readPremises_8 : decode cX5_readPremises 8 = .ok (.if_icmp .ge 82, 3) := by decide +kernel
theorem dX5_readPremises_11 : decode cX5_readPremises 11 = .ok (.aload_n 0, 1) := by decide +kernel
theorem dX5_readPremises_12 : decode cX5_readPremises 12 = .ok (.invokevirtual 36, 3) := by decide +kernel
theorem dX5_readPremises_15 : decode cX5_readPremises 15 = .ok (.bipush 44, 2) := by decide +kernel
theorem dX5_readPremises_17 : decode cX5_readPremises 17 = .ok (.if_icmp .ne 73, 3) := by decide +kernel
theorem dX5_readPremises_20 : decode cX5_readPremises 20 = .ok (.aload_n 0, 1) := by decide +kernel
theorem dX5_readPremises_21 : decode cX5_readPremises 21 = .ok (.dup, 1) := by decide +kernel
theorem dX5_readPremises_22 : decode cX5_readPremises 22 = .ok (.getfield 19, 3) := by decide +kernel
theorem dX5_readPremises_25 : decode cX5_readPremises 25 = .ok (.iconst 1, 1) := by decide +kernel
theorem dX5_readPremises_26 : decode cX5_readPremises 26 = .ok (.iadd, 1) := by decide +kernel
theorem dX5_readPremises_27 : decode cX5_readPremises 27 = .ok (.putfield 19, 3) := by decide +kernel
theorem dX5_readPremises_30 : decode cX5_readPremises 30 = .ok (.aload_n 0, 1) := by decide +kernel
theorem dX5_readPremises_31 : decode cX5_readPremises 31 = .ok (.iconst 0, 1) := by decide +kernel
theorem dX5_readPremises_32 : decode cX5_readPremises 32 = .ok (.aload_n 1, 1) := by decide +kernel
theorem dX5_readPremises_33 : decode cX5_readPremises 33 = .ok (.invokevirtual 72, 3) := by decide +kernel
theorem dX5_readPremises_36 : decode cX5_readPremises 36 = .ok (.iconst 1, 1) := by decide +kernel
theorem dX5_readPremises_37 : decode cX5_readPremises 37 = .ok (.isub, 1) := by decide +kernel
theorem dX5_readPremises_38 : decode cX5_readPremises 38 = .ok (.invokevirtual 51, 3) := by decide +kernel
theorem dX5_readPremises_41 : decode cX5_readPremises 41 = .ok (.istore 5, 2) := by decide +kernel
theorem dX5_readPremises_43 : decode cX5_readPremises 43 = .ok (.iload 5, 2) := by decide +kernel
theorem dX5_readPremises_45 : decode cX5_readPremises 45 = .ok (.iconst (-1), 1) := by decide +kernel
theorem dX5_readPremises_46 : decode cX5_readPremises 46 = .ok (.if_icmp .ne 5, 3) := by decide +kernel
theorem dX5_readPremises_49 : decode cX5_readPremises 49 = .ok (.iconst (-1), 1) := by decide +kernel
theorem dX5_readPremises_50 : decode cX5_readPremises 50 = .ok (.ireturn, 1) := by decide +kernel
theorem dX5_readPremises_51 : decode cX5_readPremises 51 = .ok (.iload 5, 2) := by decide +kernel
theorem dX5_readPremises_53 : decode cX5_readPremises 53 = .ok (.iload_n 2, 1) := by decide +kernel
theorem dX5_readPremises_54 : decode cX5_readPremises 54 = .ok (.if_icmp .eq 12, 3) := by decide +kernel
theorem dX5_readPremises_57 : decode cX5_readPremises 57 = .ok (.iload_n 3, 1) := by decide +kernel
theorem dX5_readPremises_58 : decode cX5_readPremises 58 = .ok (.iload 5, 2) := by decide +kernel
theorem dX5_readPremises_60 : decode cX5_readPremises 60 = .ok (.invokestatic 83, 3) := by decide +kernel
theorem dX5_readPremises_63 : decode cX5_readPremises 63 = .ok (.ifCond .eq 14, 3) := by decide +kernel
theorem dX5_readPremises_66 : decode cX5_readPremises 66 = .ok (.aload_n 0, 1) := by decide +kernel
theorem dX5_readPremises_67 : decode cX5_readPremises 67 = .ok (.iconst 4, 1) := by decide +kernel
theorem dX5_readPremises_68 : decode cX5_readPremises 68 = .ok (.aload_n 0, 1) := by decide +kernel
theorem dX5_readPremises_69 : decode cX5_readPremises 69 = .ok (.getfield 22, 3) := by decide +kernel
theorem dX5_readPremises_72 : decode cX5_readPremises 72 = .ok (.invokevirtual 62, 3) := by decide +kernel
theorem dX5_readPremises_75 : decode cX5_readPremises 75 = .ok (.iconst (-1), 1) := by decide +kernel
theorem dX5_readPremises_76 : decode cX5_readPremises 76 = .ok (.ireturn, 1) := by decide +kernel
theorem dX5_readPremises_77 : decode cX5_readPremises 77 = .ok (.iload_n 3, 1) := by decide +kernel
theorem dX5_readPremises_78 : decode cX5_readPremises 78 = .ok (.iconst 1, 1) := by decide +kernel
theorem dX5_readPremises_79 : decode cX5_readPremises 79 = .ok (.iload 5, 2) := by decide +kernel
theorem dX5_readPremises_81 : decode cX5_readPremises 81 = .ok (.ishl, 1) := by decide +kernel
theorem dX5_readPremises_82 : decode cX5_readPremises 82 = .ok (.ior, 1) := by decide +kernel
theorem dX5_readPremises_83 : decode cX5_readPremises 83 = .ok (.istore_n 3, 1) := by decide +kernel
theorem dX5_readPremises_84 : decode cX5_readPremises 84 = .ok (.iinc 4 1, 3) := by decide +kernel
theorem dX5_readPremises_87 : decode cX5_readPremises 87 = .ok (.goto (-82), 3) := by decide +kernel
theorem dX5_readPremises_90 : decode cX5_readPremises 90 = .ok (.iload_n 3, 1) := by decide +kernel
theorem dX5_readPremises_91 : decode cX5_readPremises 91 = .ok (.ireturn, 1) := by decide +kernel
theorem dX5_readSeen_0 : decode cX5_readSeen 0 = .ok (.aload_n 0, 1) := by decide +kernel
theorem dX5_readSeen_1 : decode cX5_readSeen 1 = .ok (.iconst 0, 1) := by decide +kernel
theorem dX5_readSeen_2 : decode cX5_readSeen 2 = .ok (.aload_n 1, 1) := by decide +kernel
theorem dX5_readSeen_3 : decode cX5_readSeen 3 = .ok (.invokevirtual 72, 3) := by decide +kernel
theorem dX5_readSeen_6 : decode cX5_readSeen 6 = .ok (.iconst 1, 1) := by decide +kernel
theorem dX5_readSeen_7 : decode cX5_readSeen 7 = .ok (.isub, 1) := by decide +kernel
theorem dX5_readSeen_8 : decode cX5_readSeen 8 = .ok (.invokevirtual 51, 3) := by decide +kernel
theorem dX5_readSeen_11 : decode cX5_readSeen 11 = .ok (.istore_n 2, 1) := by decide +kernel
theorem dX5_readSeen_12 : decode cX5_readSeen 12 = .ok (.iload_n 2, 1) := by decide +kernel
theorem dX5_readSeen_13 : decode cX5_readSeen 13 = .ok (.iconst (-1), 1) := by decide +kernel
theorem dX5_readSeen_14 : decode cX5_readSeen 14 = .ok (.if_icmp .ne 4, 3) := by decide +kernel
theorem dX5_readSeen_17 : decode cX5_readSeen 17 = .ok (.return_, 1) := by decide +kernel
theorem dX5_readSeen_18 : decode cX5_readSeen 18 = .ok (.aload_n 1, 1) := by decide +kernel
theorem dX5_readSeen_19 : decode cX5_readSeen 19 = .ok (.getfield 87, 3) := by decide +kernel
theorem dX5_readSeen_22 : decode cX5_readSeen 22 = .ok (.iload_n 2, 1) := by decide +kernel
theorem dX5_readSeen_23 : decode cX5_readSeen 23 = .ok (.invokestatic 83, 3) := by decide +kernel
theorem dX5_readSeen_26 : decode cX5_readSeen 26 = .ok (.ifCond .eq 13, 3) := by decide +kernel
theorem dX5_readSeen_29 : decode cX5_readSeen 29 = .ok (.aload_n 0, 1) := by decide +kernel
theorem dX5_readSeen_30 : decode cX5_readSeen 30 = .ok (.iconst 4, 1) := by decide +kernel
theorem dX5_readSeen_31 : decode cX5_readSeen 31 = .ok (.aload_n 0, 1) := by decide +kernel
theorem dX5_readSeen_32 : decode cX5_readSeen 32 = .ok (.getfield 22, 3) := by decide +kernel
theorem dX5_readSeen_35 : decode cX5_readSeen 35 = .ok (.invokevirtual 62, 3) := by decide +kernel
theorem dX5_readSeen_38 : decode cX5_readSeen 38 = .ok (.return_, 1) := by decide +kernel
theorem dX5_readSeen_39 : decode cX5_readSeen 39 = .ok (.aload_n 0, 1) := by decide +kernel
theorem dX5_readSeen_40 : decode cX5_readSeen 40 = .ok (.bipush 59, 2) := by decide +kernel
theorem dX5_readSeen_42 : decode cX5_readSeen 42 = .ok (.invokevirtual 47, 3) := by decide +kernel
theorem dX5_readSeen_45 : decode cX5_readSeen 45 = .ok (.ifCond .eq 15, 3) := by decide +kernel
theorem dX5_readSeen_48 : decode cX5_readSeen 48 = .ok (.aload_n 1, 1) := by decide +kernel
theorem dX5_readSeen_49 : decode cX5_readSeen 49 = .ok (.dup, 1) := by decide +kernel
theorem dX5_readSeen_50 : decode cX5_readSeen 50 = .ok (.getfield 87, 3) := by decide +kernel
theorem dX5_readSeen_53 : decode cX5_readSeen 53 = .ok (.iconst 1, 1) := by decide +kernel
theorem dX5_readSeen_54 : decode cX5_readSeen 54 = .ok (.iload_n 2, 1) := by decide +kernel
theorem dX5_readSeen_55 : decode cX5_readSeen 55 = .ok (.ishl, 1) := by decide +kernel
theorem dX5_readSeen_56 : decode cX5_readSeen 56 = .ok (.ior, 1) := by decide +kernel
theorem dX5_readSeen_57 : decode cX5_readSeen 57 = .ok (.putfield 87, 3) := by decide +kernel
theorem dX5_readSeen_60 : decode cX5_readSeen 60 = .ok (.return_, 1) := by decide +kernel
theorem dX5_number_0 : decode cX5_number 0 = .ok (.aload_n 0, 1) := by decide +kernel
theorem dX5_number_1 : decode cX5_number 1 = .ok (.invokevirtual 36, 3) := by decide +kernel
theorem dX5_number_4 : decode cX5_number 4 = .ok (.invokestatic 90, 3) := by decide +kernel
theorem dX5_number_7 : decode cX5_number 7 = .ok (.ifCond .ne 14, 3) := by decide +kernel
theorem dX5_number_10 : decode cX5_number 10 = .ok (.aload_n 0, 1) := by decide +kernel
theorem dX5_number_11 : decode cX5_number 11 = .ok (.iconst 1, 1) := by decide +kernel
theorem dX5_number_12 : decode cX5_number 12 = .ok (.aload_n 0, 1) := by decide +kernel
theorem dX5_number_13 : decode cX5_number 13 = .ok (.getfield 19, 3) := by decide +kernel
theorem dX5_number_16 : decode cX5_number 16 = .ok (.invokevirtual 62, 3) := by decide +kernel
theorem dX5_number_19 : decode cX5_number 19 = .ok (.iconst (-1), 1) := by decide +kernel
theorem dX5_number_20 : decode cX5_number 20 = .ok (.ireturn, 1) := by decide +kernel
theorem dX5_number_21 : decode cX5_number 21 = .ok (.aload_n 0, 1) := by decide +kernel
theorem dX5_number_22 : decode cX5_number 22 = .ok (.aload_n 0, 1) := by decide +kernel
theorem dX5_number_23 : decode cX5_number 23 = .ok (.getfield 19, 3) := by decide +kernel
theorem dX5_number_26 : decode cX5_number 26 = .ok (.putfield 22, 3) := by decide +kernel
theorem dX5_number_29 : decode cX5_number 29 = .ok (.iconst 0, 1) := by decide +kernel
theorem dX5_number_30 : decode cX5_number 30 = .ok (.istore_n 3, 1) := by decide +kernel
theorem dX5_number_31 : decode cX5_number 31 = .ok (.aload_n 0, 1) := by decide +kernel
theorem dX5_number_32 : decode cX5_number 32 = .ok (.getfield 19, 3) := by decide +kernel
theorem dX5_number_35 : decode cX5_number 35 = .ok (.aload_n 0, 1) := by decide +kernel
theorem dX5_number_36 : decode cX5_number 36 = .ok (.getfield 15, 3) := by decide +kernel
theorem dX5_number_39 : decode cX5_number 39 = .ok (.if_icmp .ge 55, 3) := by decide +kernel
theorem dX5_number_42 : decode cX5_number 42 = .ok (.aload_n 0, 1) := by decide +kernel
theorem dX5_number_43 : decode cX5_number 43 = .ok (.getfield 9, 3) := by decide +kernel
theorem dX5_number_46 : decode cX5_number 46 = .ok (.aload_n 0, 1) := by decide +kernel
theorem dX5_number_47 : decode cX5_number 47 = .ok (.getfield 19, 3) := by decide +kernel
theorem dX5_number_50 : decode cX5_number 50 = .ok (.iaload, 1) := by decide +kernel
theorem dX5_number_51 : decode cX5_number 51 = .ok (.invokestatic 90, 3) := by decide +kernel
theorem dX5_number_54 : decode cX5_number 54 = .ok (.ifCond .eq 40, 3) := by decide +kernel
theorem dX5_number_57 : decode cX5_number 57 = .ok (.iload_n 3, 1) := by decide +kernel
theorem dX5_number_58 : decode cX5_number 58 = .ok (.bipush 10, 2) := by decide +kernel
theorem dX5_number_60 : decode cX5_number 60 = .ok (.imul, 1) := by decide +kernel
theorem dX5_number_61 : decode cX5_number 61 = .ok (.aload_n 0, 1) := by decide +kernel
theorem dX5_number_62 : decode cX5_number 62 = .ok (.getfield 9, 3) := by decide +kernel
theorem dX5_number_65 : decode cX5_number 65 = .ok (.aload_n 0, 1) := by decide +kernel
theorem dX5_number_66 : decode cX5_number 66 = .ok (.getfield 19, 3) := by decide +kernel
theorem dX5_number_69 : decode cX5_number 69 = .ok (.iaload, 1) := by decide +kernel
theorem dX5_number_70 : decode cX5_number 70 = .ok (.iadd, 1) := by decide +kernel
theorem dX5_number_71 : decode cX5_number 71 = .ok (.bipush 48, 2) := by decide +kernel
theorem dX5_number_73 : decode cX5_number 73 = .ok (.isub, 1) := by decide +kernel
theorem dX5_number_74 : decode cX5_number 74 = .ok (.sipush 1000, 3) := by decide +kernel
theorem dX5_number_77 : decode cX5_number 77 = .ok (.invokestatic 93, 3) := by decide +kernel
theorem dX5_number_80 : decode cX5_number 80 = .ok (.istore_n 3, 1) := by decide +kernel
theorem dX5_number_81 : decode cX5_number 81 = .ok (.aload_n 0, 1) := by decide +kernel
theorem dX5_number_82 : decode cX5_number 82 = .ok (.dup, 1) := by decide +kernel
theorem dX5_number_83 : decode cX5_number 83 = .ok (.getfield 19, 3) := by decide +kernel
theorem dX5_number_86 : decode cX5_number 86 = .ok (.iconst 1, 1) := by decide +kernel
theorem dX5_number_87 : decode cX5_number 87 = .ok (.iadd, 1) := by decide +kernel
theorem dX5_number_88 : decode cX5_number 88 = .ok (.putfield 19, 3) := by decide +kernel
theorem dX5_number_91 : decode cX5_number 91 = .ok (.goto (-60), 3) := by decide +kernel
theorem dX5_number_94 : decode cX5_number 94 = .ok (.aload_n 0, 1) := by decide +kernel
theorem dX5_number_95 : decode cX5_number 95 = .ok (.getfield 19, 3) := by decide +kernel
theorem dX5_number_98 : decode cX5_number 98 = .ok (.aload_n 0, 1) := by decide +kernel
theorem dX5_number_99 : decode cX5_number 99 = .ok (.getfield 22, 3) := by decide +kernel
theorem dX5_number_102 : decode cX5_number 102 = .ok (.isub, 1) := by decide +kernel
theorem dX5_number_103 : decode cX5_number 103 = .ok (.iconst 3, 1) := by decide +kernel
theorem dX5_number_104 : decode cX5_number 104 = .ok (.if_icmp .gt 13, 3) := by decide +kernel
theorem dX5_number_107 : decode cX5_number 107 = .ok (.iload_n 3, 1) := by decide +kernel
theorem dX5_number_108 : decode cX5_number 108 = .ok (.iload_n 1, 1) := by decide +kernel
theorem dX5_number_109 : decode cX5_number 109 = .ok (.if_icmp .lt 8, 3) := by decide +kernel
theorem dX5_number_112 : decode cX5_number 112 = .ok (.iload_n 3, 1) := by decide +kernel
theorem dX5_number_113 : decode cX5_number 113 = .ok (.iload_n 2, 1) := by decide +kernel
theorem dX5_number_114 : decode cX5_number 114 = .ok (.if_icmp .le 14, 3) := by decide +kernel
theorem dX5_number_117 : decode cX5_number 117 = .ok (.aload_n 0, 1) := by decide +kernel
theorem dX5_number_118 : decode cX5_number 118 = .ok (.iconst 2, 1) := by decide +kernel
theorem dX5_number_119 : decode cX5_number 119 = .ok (.aload_n 0, 1) := by decide +kernel
theorem dX5_number_120 : decode cX5_number 120 = .ok (.getfield 22, 3) := by decide +kernel
theorem dX5_number_123 : decode cX5_number 123 = .ok (.invokevirtual 62, 3) := by decide +kernel
theorem dX5_number_126 : decode cX5_number 126 = .ok (.iconst (-1), 1) := by decide +kernel
theorem dX5_number_127 : decode cX5_number 127 = .ok (.ireturn, 1) := by decide +kernel
theorem dX5_number_128 : decode cX5_number 128 = .ok (.iload_n 3, 1) := by decide +kernel
theorem dX5_number_129 : decode cX5_number 129 = .ok (.ireturn, 1) := by decide +kernel
theorem dX5_isFigure_0 : decode cX5_isFigure 0 = .ok (.iload_n 0, 1) := by decide +kernel
theorem dX5_isFigure_1 : decode cX5_isFigure 1 = .ok (.bipush 48, 2) := by decide +kernel
theorem dX5_isFigure_3 : decode cX5_isFigure 3 = .ok (.if_icmp .lt 13, 3) := by decide +kernel
theorem dX5_isFigure_6 : decode cX5_isFigure 6 = .ok (.iload_n 0, 1) := by decide +kernel
theorem dX5_isFigure_7 : decode cX5_isFigure 7 = .ok (.bipush 57, 2) := by decide +kernel
theorem dX5_isFigure_9 : decode cX5_isFigure 9 = .ok (.if_icmp .gt 7, 3) := by decide +kernel
theorem dX5_isFigure_12 : decode cX5_isFigure 12 = .ok (.iconst 1, 1) := by decide +kernel
theorem dX5_isFigure_13 : decode cX5_isFigure 13 = .ok (.goto 4, 3) := by decide +kernel
theorem dX5_isFigure_16 : decode cX5_isFigure 16 = .ok (.iconst 0, 1) := by decide +kernel
theorem dX5_isFigure_17 : decode cX5_isFigure 17 = .ok (.ireturn, 1) := by decide +kernel
theorem dX5_take_0 : decode cX5_take 0 = .ok (.aload_n 0, 1) := by decide +kernel
theorem dX5_take_1 : decode cX5_take 1 = .ok (.invokevirtual 36, 3) := by decide +kernel
theorem dX5_take_4 : decode cX5_take 4 = .ok (.iload_n 1, 1) := by decide +kernel
theorem dX5_take_5 : decode cX5_take 5 = .ok (.if_icmp .eq 14, 3) := by decide +kernel
theorem dX5_take_8 : decode cX5_take 8 = .ok (.aload_n 0, 1) := by decide +kernel
theorem dX5_take_9 : decode cX5_take 9 = .ok (.iconst 1, 1) := by decide +kernel
theorem dX5_take_10 : decode cX5_take 10 = .ok (.aload_n 0, 1) := by decide +kernel
theorem dX5_take_11 : decode cX5_take 11 = .ok (.getfield 19, 3) := by decide +kernel
theorem dX5_take_14 : decode cX5_take 14 = .ok (.invokevirtual 62, 3) := by decide +kernel
theorem dX5_take_17 : decode cX5_take 17 = .ok (.iconst 0, 1) := by decide +kernel
theorem dX5_take_18 : decode cX5_take 18 = .ok (.ireturn, 1) := by decide +kernel
theorem dX5_take_19 : decode cX5_take 19 = .ok (.aload_n 0, 1) := by decide +kernel
theorem dX5_take_20 : decode cX5_take 20 = .ok (.dup, 1) := by decide +kernel
theorem dX5_take_21 : decode cX5_take 21 = .ok (.getfield 19, 3) := by decide +kernel
theorem dX5_take_24 : decode cX5_take 24 = .ok (.iconst 1, 1) := by decide +kernel
theorem dX5_take_25 : decode cX5_take 25 = .ok (.iadd, 1) := by decide +kernel
theorem dX5_take_26 : decode cX5_take 26 = .ok (.putfield 19, 3) := by decide +kernel
theorem dX5_take_29 : decode cX5_take 29 = .ok (.iconst 1, 1) := by decide +kernel
theorem dX5_take_30 : decode cX5_take 30 = .ok (.ireturn, 1) := by decide +kernel
theorem dX5_peek_0 : decode cX5_peek 0 = .ok (.aload_n 0, 1) := by decide +kernel
theorem dX5_peek_1 : decode cX5_peek 1 = .ok (.getfield 19, 3) := by decide +kernel
theorem dX5_peek_4 : decode cX5_peek 4 = .ok (.aload_n 0, 1) := by decide +kernel
theorem dX5_peek_5 : decode cX5_peek 5 = .ok (.getfield 15, 3) := by decide +kernel
theorem dX5_peek_8 : decode cX5_peek 8 = .ok (.if_icmp .ge 30, 3) := by decide +kernel
theorem dX5_peek_11 : decode cX5_peek 11 = .ok (.aload_n 0, 1) := by decide +kernel
theorem dX5_peek_12 : decode cX5_peek 12 = .ok (.getfield 9, 3) := by decide +kernel
theorem dX5_peek_15 : decode cX5_peek 15 = .ok (.aload_n 0, 1) := by decide +kernel
theorem dX5_peek_16 : decode cX5_peek 16 = .ok (.getfield 19, 3) := by decide +kernel
theorem dX5_peek_19 : decode cX5_peek 19 = .ok (.iaload, 1) := by decide +kernel
theorem dX5_peek_20 : decode cX5_peek 20 = .ok (.bipush 32, 2) := by decide +kernel
theorem dX5_peek_22 : decode cX5_peek 22 = .ok (.if_icmp .ne 16, 3) := by decide +kernel
theorem dX5_peek_25 : decode cX5_peek 25 = .ok (.aload_n 0, 1) := by decide +kernel
theorem dX5_peek_26 : decode cX5_peek 26 = .ok (.dup, 1) := by decide +kernel
theorem dX5_peek_27 : decode cX5_peek 27 = .ok (.getfield 19, 3) := by decide +kernel
theorem dX5_peek_30 : decode cX5_peek 30 = .ok (.iconst 1, 1) := by decide +kernel
theorem dX5_peek_31 : decode cX5_peek 31 = .ok (.iadd, 1) := by decide +kernel
theorem dX5_peek_32 : decode cX5_peek 32 = .ok (.putfield 19, 3) := by decide +kernel
theorem dX5_peek_35 : decode cX5_peek 35 = .ok (.goto (-35), 3) := by decide +kernel
theorem dX5_peek_38 : decode cX5_peek 38 = .ok (.aload_n 0, 1) := by decide +kernel
theorem dX5_peek_39 : decode cX5_peek 39 = .ok (.getfield 19, 3) := by decide +kernel
theorem dX5_peek_42 : decode cX5_peek 42 = .ok (.aload_n 0, 1) := by decide +kernel
theorem dX5_peek_43 : decode cX5_peek 43 = .ok (.getfield 15, 3) := by decide +kernel
theorem dX5_peek_46 : decode cX5_peek 46 = .ok (.if_icmp .ge 15, 3) := by decide +kernel
theorem dX5_peek_49 : decode cX5_peek 49 = .ok (.aload_n 0, 1) := by decide +kernel
theorem dX5_peek_50 : decode cX5_peek 50 = .ok (.getfield 9, 3) := by decide +kernel
theorem dX5_peek_53 : decode cX5_peek 53 = .ok (.aload_n 0, 1) := by decide +kernel
theorem dX5_peek_54 : decode cX5_peek 54 = .ok (.getfield 19, 3) := by decide +kernel
theorem dX5_peek_57 : decode cX5_peek 57 = .ok (.iaload, 1) := by decide +kernel
theorem dX5_peek_58 : decode cX5_peek 58 = .ok (.goto 4, 3) := by decide +kernel
theorem dX5_peek_61 : decode cX5_peek 61 = .ok (.iconst (-1), 1) := by decide +kernel
theorem dX5_peek_62 : decode cX5_peek 62 = .ok (.ireturn, 1) := by decide +kernel
theorem dX5_stop_0 : decode cX5_stop 0 = .ok (.aload_n 0, 1) := by decide +kernel
theorem dX5_stop_1 : decode cX5_stop 1 = .ok (.iload_n 1, 1) := by decide +kernel
theorem dX5_stop_2 : decode cX5_stop 2 = .ok (.putfield 25, 3) := by decide +kernel
theorem dX5_stop_5 : decode cX5_stop 5 = .ok (.aload_n 0, 1) := by decide +kernel
theorem dX5_stop_6 : decode cX5_stop 6 = .ok (.iload_n 2, 1) := by decide +kernel
theorem dX5_stop_7 : decode cX5_stop 7 = .ok (.putfield 28, 3) := by decide +kernel
theorem dX5_stop_10 : decode cX5_stop 10 = .ok (.return_, 1) := by decide +kernel
theorem dX6_init_0 : decode cX6_init 0 = .ok (.aload_n 0, 1) := by decide +kernel
theorem dX6_init_1 : decode cX6_init 1 = .ok (.invokespecial 3, 3) := by decide +kernel
theorem dX6_init_4 : decode cX6_init 4 = .ok (.aload_n 0, 1) := by decide +kernel
theorem dX6_init_5 : decode cX6_init 5 = .ok (.aload_n 1, 1) := by decide +kernel
theorem dX6_init_6 : decode cX6_init 6 = .ok (.putfield 9, 3) := by decide +kernel
theorem dX6_init_9 : decode cX6_init 9 = .ok (.aload_n 0, 1) := by decide +kernel
theorem dX6_init_10 : decode cX6_init 10 = .ok (.iload_n 2, 1) := by decide +kernel
theorem dX6_init_11 : decode cX6_init 11 = .ok (.putfield 15, 3) := by decide +kernel
theorem dX6_init_14 : decode cX6_init 14 = .ok (.aload_n 0, 1) := by decide +kernel
theorem dX6_init_15 : decode cX6_init 15 = .ok (.iload_n 3, 1) := by decide +kernel
theorem dX6_init_16 : decode cX6_init 16 = .ok (.putfield 19, 3) := by decide +kernel
theorem dX6_init_19 : decode cX6_init 19 = .ok (.return_, 1) := by decide +kernel
theorem dX6_conclusions_0 : decode cX6_conclusions 0 = .ok (.aload_n 0, 1) := by decide +kernel
theorem dX6_conclusions_1 : decode cX6_conclusions 1 = .ok (.getfield 9, 3) := by decide +kernel
theorem dX6_conclusions_4 : decode cX6_conclusions 4 = .ok (.aload_n 0, 1) := by decide +kernel
theorem dX6_conclusions_5 : decode cX6_conclusions 5 = .ok (.getfield 15, 3) := by decide +kernel
theorem dX6_conclusions_8 : decode cX6_conclusions 8 = .ok (.aload_n 0, 1) := by decide +kernel
theorem dX6_conclusions_9 : decode cX6_conclusions 9 = .ok (.getfield 19, 3) := by decide +kernel
theorem dX6_conclusions_12 : decode cX6_conclusions 12 = .ok (.invokevirtual 22, 3) := by decide +kernel
theorem dX6_conclusions_15 : decode cX6_conclusions 15 = .ok (.ireturn, 1) := by decide +kernel
theorem dX6_concludesBy_0 : decode cX6_concludesBy 0 = .ok (.aload_n 0, 1) := by decide +kernel
theorem dX6_concludesBy_1 : decode cX6_concludesBy 1 = .ok (.getfield 9, 3) := by decide +kernel
theorem dX6_concludesBy_4 : decode cX6_concludesBy 4 = .ok (.aload_n 0, 1) := by decide +kernel
theorem dX6_concludesBy_5 : decode cX6_concludesBy 5 = .ok (.getfield 15, 3) := by decide +kernel
theorem dX6_concludesBy_8 : decode cX6_concludesBy 8 = .ok (.iload_n 1, 1) := by decide +kernel
theorem dX6_concludesBy_9 : decode cX6_concludesBy 9 = .ok (.invokevirtual 22, 3) := by decide +kernel
theorem dX6_concludesBy_12 : decode cX6_concludesBy 12 = .ok (.iload_n 2, 1) := by decide +kernel
theorem dX6_concludesBy_13 : decode cX6_concludesBy 13 = .ok (.invokestatic 28, 3) := by decide +kernel
theorem dX6_concludesBy_16 : decode cX6_concludesBy 16 = .ok (.ireturn, 1) := by decide +kernel
theorem dX6_leastProof_0 : decode cX6_leastProof 0 = .ok (.aload_n 0, 1) := by decide +kernel
theorem dX6_leastProof_1 : decode cX6_leastProof 1 = .ok (.aload_n 0, 1) := by decide +kernel
theorem dX6_leastProof_2 : decode cX6_leastProof 2 = .ok (.getfield 19, 3) := by decide +kernel
theorem dX6_leastProof_5 : decode cX6_leastProof 5 = .ok (.iload_n 1, 1) := by decide +kernel
theorem dX6_leastProof_6 : decode cX6_leastProof 6 = .ok (.invokevirtual 32, 3) := by decide +kernel
theorem dX6_leastProof_9 : decode cX6_leastProof 9 = .ok (.ifCond .ne 5, 3) := by decide +kernel
theorem dX6_leastProof_12 : decode cX6_leastProof 12 = .ok (.iconst (-1), 1) := by decide +kernel
theorem dX6_leastProof_13 : decode cX6_leastProof 13 = .ok (.ireturn, 1) := by decide +kernel
theorem dX6_leastProof_14 : decode cX6_leastProof 14 = .ok (.aload_n 0, 1) := by decide +kernel
theorem dX6_leastProof_15 : decode cX6_leastProof 15 = .ok (.getfield 19, 3) := by decide +kernel
theorem dX6_leastProof_18 : decode cX6_leastProof 18 = .ok (.istore_n 2, 1) := by decide +kernel
theorem dX6_leastProof_19 : decode cX6_leastProof 19 = .ok (.bipush 11, 2) := by decide +kernel
theorem dX6_leastProof_21 : decode cX6_leastProof 21 = .ok (.istore_n 3, 1) := by decide +kernel
theorem dX6_leastProof_22 : decode cX6_leastProof 22 = .ok (.iconst 0, 1) := by decide +kernel
theorem dX6_leastProof_23 : decode cX6_leastProof 23 = .ok (.istore 4, 2) := by decide +kernel
theorem dX6_leastProof_25 : decode cX6_leastProof 25 = .ok (.iload 4, 2) := by decide +kernel
theorem dX6_leastProof_27 : decode cX6_leastProof 27 = .ok (.aload_n 0, 1) := by decide +kernel
theorem dX6_leastProof_28 : decode cX6_leastProof 28 = .ok (.getfield 19, 3) := by decide +kernel
theorem dX6_leastProof_31 : decode cX6_leastProof 31 = .ok (.if_icmp .gt 47, 3) := by decide +kernel
theorem dX6_leastProof_34 : decode cX6_leastProof 34 = .ok (.iload 4, 2) := by decide +kernel
theorem dX6_leastProof_36 : decode cX6_leastProof 36 = .ok (.invokestatic 35, 3) := by decide +kernel
theorem dX6_leastProof_39 : decode cX6_leastProof 39 = .ok (.istore 5, 2) := by decide +kernel
theorem dX6_leastProof_41 : decode cX6_leastProof 41 = .ok (.aload_n 0, 1) := by decide +kernel
theorem dX6_leastProof_42 : decode cX6_leastProof 42 = .ok (.iload 4, 2) := by decide +kernel
theorem dX6_leastProof_44 : decode cX6_leastProof 44 = .ok (.invokevirtual 41, 3) := by decide +kernel
theorem dX6_leastProof_47 : decode cX6_leastProof 47 = .ok (.ifCond .eq 25, 3) := by decide +kernel
theorem dX6_leastProof_50 : decode cX6_leastProof 50 = .ok (.iload 5, 2) := by decide +kernel
theorem dX6_leastProof_52 : decode cX6_leastProof 52 = .ok (.iload_n 3, 1) := by decide +kernel
theorem dX6_leastProof_53 : decode cX6_leastProof 53 = .ok (.if_icmp .ge 19, 3) := by decide +kernel
theorem dX6_leastProof_56 : decode cX6_leastProof 56 = .ok (.aload_n 0, 1) := by decide +kernel
theorem dX6_leastProof_57 : decode cX6_leastProof 57 = .ok (.iload 4, 2) := by decide +kernel
theorem dX6_leastProof_59 : decode cX6_leastProof 59 = .ok (.iload_n 1, 1) := by decide +kernel
theorem dX6_leastProof_60 : decode cX6_leastProof 60 = .ok (.invokevirtual 32, 3) := by decide +kernel
theorem dX6_leastProof_63 : decode cX6_leastProof 63 = .ok (.ifCond .eq 9, 3) := by decide +kernel
theorem dX6_leastProof_66 : decode cX6_leastProof 66 = .ok (.iload 4, 2) := by decide +kernel
theorem dX6_leastProof_68 : decode cX6_leastProof 68 = .ok (.istore_n 2, 1) := by decide +kernel
theorem dX6_leastProof_69 : decode cX6_leastProof 69 = .ok (.iload 5, 2) := by decide +kernel
theorem dX6_leastProof_71 : decode cX6_leastProof 71 = .ok (.istore_n 3, 1) := by decide +kernel
theorem dX6_leastProof_72 : decode cX6_leastProof 72 = .ok (.iinc 4 1, 3) := by decide +kernel
theorem dX6_leastProof_75 : decode cX6_leastProof 75 = .ok (.goto (-50), 3) := by decide +kernel
theorem dX6_leastProof_78 : decode cX6_leastProof 78 = .ok (.iload_n 2, 1) := by decide +kernel
theorem dX6_leastProof_79 : decode cX6_leastProof 79 = .ok (.ireturn, 1) := by decide +kernel
theorem dX6_cheapestPeace_0 : decode cX6_cheapestPeace 0 = .ok (.aload_n 0, 1) := by decide +kernel
theorem dX6_cheapestPeace_1 : decode cX6_cheapestPeace 1 = .ok (.getfield 9, 3) := by decide +kernel
theorem dX6_cheapestPeace_4 : decode cX6_cheapestPeace 4 = .ok (.aload_n 0, 1) := by decide +kernel
theorem dX6_cheapestPeace_5 : decode cX6_cheapestPeace 5 = .ok (.getfield 15, 3) := by decide +kernel
theorem dX6_cheapestPeace_8 : decode cX6_cheapestPeace 8 = .ok (.invokevirtual 45, 3) := by decide +kernel
theorem dX6_cheapestPeace_11 : decode cX6_cheapestPeace 11 = .ok (.ifCond .eq 5, 3) := by decide +kernel
theorem dX6_cheapestPeace_14 : decode cX6_cheapestPeace 14 = .ok (.iconst (-1), 1) := by decide +kernel
theorem dX6_cheapestPeace_15 : decode cX6_cheapestPeace 15 = .ok (.ireturn, 1) := by decide +kernel
theorem dX6_cheapestPeace_16 : decode cX6_cheapestPeace 16 = .ok (.aload_n 0, 1) := by decide +kernel
theorem dX6_cheapestPeace_17 : decode cX6_cheapestPeace 17 = .ok (.getfield 19, 3) := by decide +kernel
theorem dX6_cheapestPeace_20 : decode cX6_cheapestPeace 20 = .ok (.istore_n 1, 1) := by decide +kernel
theorem dX6_cheapestPeace_21 : decode cX6_cheapestPeace 21 = .ok (.sipush 991, 3) := by decide +kernel
theorem dX6_cheapestPeace_24 : decode cX6_cheapestPeace 24 = .ok (.istore_n 2, 1) := by decide +kernel
theorem dX6_cheapestPeace_25 : decode cX6_cheapestPeace 25 = .ok (.iconst 0, 1) := by decide +kernel
theorem dX6_cheapestPeace_26 : decode cX6_cheapestPeace 26 = .ok (.istore_n 3, 1) := by decide +kernel
theorem dX6_cheapestPeace_27 : decode cX6_cheapestPeace 27 = .ok (.iload_n 3, 1) := by decide +kernel
theorem dX6_cheapestPeace_28 : decode cX6_cheapestPeace 28 = .ok (.aload_n 0, 1) := by decide +kernel
theorem dX6_cheapestPeace_29 : decode cX6_cheapestPeace 29 = .ok (.getfield 19, 3) := by decide +kernel
theorem dX6_cheapestPeace_32 : decode cX6_cheapestPeace 32 = .ok (.if_icmp .gt 48, 3) := by decide +kernel
theorem dX6_cheapestPeace_35 : decode cX6_cheapestPeace 35 = .ok (.aload_n 0, 1) := by decide +kernel
theorem dX6_cheapestPeace_36 : decode cX6_cheapestPeace 36 = .ok (.iload_n 3, 1) := by decide +kernel
theorem dX6_cheapestPeace_37 : decode cX6_cheapestPeace 37 = .ok (.invokevirtual 41, 3) := by decide +kernel
theorem dX6_cheapestPeace_40 : decode cX6_cheapestPeace 40 = .ok (.ifCond .eq 34, 3) := by decide +kernel
theorem dX6_cheapestPeace_43 : decode cX6_cheapestPeace 43 = .ok (.aload_n 0, 1) := by decide +kernel
theorem dX6_cheapestPeace_44 : decode cX6_cheapestPeace 44 = .ok (.getfield 9, 3) := by decide +kernel
theorem dX6_cheapestPeace_47 : decode cX6_cheapestPeace 47 = .ok (.iload_n 3, 1) := by decide +kernel
theorem dX6_cheapestPeace_48 : decode cX6_cheapestPeace 48 = .ok (.invokevirtual 48, 3) := by decide +kernel
theorem dX6_cheapestPeace_51 : decode cX6_cheapestPeace 51 = .ok (.iload_n 2, 1) := by decide +kernel
theorem dX6_cheapestPeace_52 : decode cX6_cheapestPeace 52 = .ok (.if_icmp .ge 22, 3) := by decide +kernel
theorem dX6_cheapestPeace_55 : decode cX6_cheapestPeace 55 = .ok (.aload_n 0, 1) := by decide +kernel
theorem dX6_cheapestPeace_56 : decode cX6_cheapestPeace 56 = .ok (.iload_n 3, 1) := by decide +kernel
theorem dX6_cheapestPeace_57 : decode cX6_cheapestPeace 57 = .ok (.invokevirtual 51, 3) := by decide +kernel
theorem dX6_cheapestPeace_60 : decode cX6_cheapestPeace 60 = .ok (.ifCond .eq 14, 3) := by decide +kernel
theorem dX6_cheapestPeace_63 : decode cX6_cheapestPeace 63 = .ok (.iload_n 3, 1) := by decide +kernel
theorem dX6_cheapestPeace_64 : decode cX6_cheapestPeace 64 = .ok (.istore_n 1, 1) := by decide +kernel
theorem dX6_cheapestPeace_65 : decode cX6_cheapestPeace 65 = .ok (.aload_n 0, 1) := by decide +kernel
theorem dX6_cheapestPeace_66 : decode cX6_cheapestPeace 66 = .ok (.getfield 9, 3) := by decide +kernel
theorem dX6_cheapestPeace_69 : decode cX6_cheapestPeace 69 = .ok (.iload_n 3, 1) := by decide +kernel
theorem dX6_cheapestPeace_70 : decode cX6_cheapestPeace 70 = .ok (.invokevirtual 48, 3) := by decide +kernel
theorem dX6_cheapestPeace_73 : decode cX6_cheapestPeace 73 = .ok (.istore_n 2, 1) := by decide +kernel
theorem dX6_cheapestPeace_74 : decode cX6_cheapestPeace 74 = .ok (.iinc 3 1, 3) := by decide +kernel
theorem dX6_cheapestPeace_77 : decode cX6_cheapestPeace 77 = .ok (.goto (-50), 3) := by decide +kernel
theorem dX6_cheapestPeace_80 : decode cX6_cheapestPeace 80 = .ok (.iload_n 1, 1) := by decide +kernel
theorem dX6_cheapestPeace_81 : decode cX6_cheapestPeace 81 = .ok (.ireturn, 1) := by decide +kernel
theorem dX6_isPeaceWithout_0 : decode cX6_isPeaceWithout 0 = .ok (.aload_n 0, 1) := by decide +kernel
theorem dX6_isPeaceWithout_1 : decode cX6_isPeaceWithout 1 = .ok (.getfield 9, 3) := by decide +kernel
theorem dX6_isPeaceWithout_4 : decode cX6_isPeaceWithout 4 = .ok (.aload_n 0, 1) := by decide +kernel
theorem dX6_isPeaceWithout_5 : decode cX6_isPeaceWithout 5 = .ok (.getfield 9, 3) := by decide +kernel
theorem dX6_isPeaceWithout_8 : decode cX6_isPeaceWithout 8 = .ok (.aload_n 0, 1) := by decide +kernel
theorem dX6_isPeaceWithout_9 : decode cX6_isPeaceWithout 9 = .ok (.getfield 15, 3) := by decide +kernel
theorem dX6_isPeaceWithout_12 : decode cX6_isPeaceWithout 12 = .ok (.aload_n 0, 1) := by decide +kernel
theorem dX6_isPeaceWithout_13 : decode cX6_isPeaceWithout 13 = .ok (.getfield 19, 3) := by decide +kernel
theorem dX6_isPeaceWithout_16 : decode cX6_isPeaceWithout 16 = .ok (.iload_n 1, 1) := by decide +kernel
theorem dX6_isPeaceWithout_17 : decode cX6_isPeaceWithout 17 = .ok (.iconst (-1), 1) := by decide +kernel
theorem dX6_isPeaceWithout_18 : decode cX6_isPeaceWithout 18 = .ok (.ixor, 1) := by decide +kernel
theorem dX6_isPeaceWithout_19 : decode cX6_isPeaceWithout 19 = .ok (.iand, 1) := by decide +kernel
theorem dX6_isPeaceWithout_20 : decode cX6_isPeaceWithout 20 = .ok (.invokevirtual 22, 3) := by decide +kernel
theorem dX6_isPeaceWithout_23 : decode cX6_isPeaceWithout 23 = .ok (.invokevirtual 45, 3) := by decide +kernel
theorem dX6_isPeaceWithout_26 : decode cX6_isPeaceWithout 26 = .ok (.ifCond .ne 7, 3) := by decide +kernel
theorem dX6_isPeaceWithout_29 : decode cX6_isPeaceWithout 29 = .ok (.iconst 1, 1) := by decide +kernel
theorem dX6_isPeaceWithout_30 : decode cX6_isPeaceWithout 30 = .ok (.goto 4, 3) := by decide +kernel
theorem dX6_isPeaceWithout_33 : decode cX6_isPeaceWithout 33 = .ok (.iconst 0, 1) := by decide +kernel
theorem dX6_isPeaceWithout_34 : decode cX6_isPeaceWithout 34 = .ok (.ireturn, 1) := by decide +kernel
theorem dX6_fewestWords_0 : decode cX6_fewestWords 0 = .ok (.iconst 0, 1) := by decide +kernel
theorem dX6_fewestWords_1 : decode cX6_fewestWords 1 = .ok (.istore_n 2, 1) := by decide +kernel
theorem dX6_fewestWords_2 : decode cX6_fewestWords 2 = .ok (.iload_n 2, 1) := by decide +kernel
theorem dX6_fewestWords_3 : decode cX6_fewestWords 3 = .ok (.iconst 3, 1) := by decide +kernel
theorem dX6_fewestWords_4 : decode cX6_fewestWords 4 = .ok (.if_icmp .gt 31, 3) := by decide +kernel
theorem dX6_fewestWords_7 : decode cX6_fewestWords 7 = .ok (.aload_n 0, 1) := by decide +kernel
theorem dX6_fewestWords_8 : decode cX6_fewestWords 8 = .ok (.iload_n 1, 1) := by decide +kernel
theorem dX6_fewestWords_9 : decode cX6_fewestWords 9 = .ok (.iload_n 2, 1) := by decide +kernel
theorem dX6_fewestWords_10 : decode cX6_fewestWords 10 = .ok (.aload_n 0, 1) := by decide +kernel
theorem dX6_fewestWords_11 : decode cX6_fewestWords 11 = .ok (.getfield 9, 3) := by decide +kernel
theorem dX6_fewestWords_14 : decode cX6_fewestWords 14 = .ok (.invokevirtual 54, 3) := by decide +kernel
theorem dX6_fewestWords_17 : decode cX6_fewestWords 17 = .ok (.iconst 0, 1) := by decide +kernel
theorem dX6_fewestWords_18 : decode cX6_fewestWords 18 = .ok (.invokevirtual 58, 3) := by decide +kernel
theorem dX6_fewestWords_21 : decode cX6_fewestWords 21 = .ok (.istore_n 3, 1) := by decide +kernel
theorem dX6_fewestWords_22 : decode cX6_fewestWords 22 = .ok (.iload_n 3, 1) := by decide +kernel
theorem dX6_fewestWords_23 : decode cX6_fewestWords 23 = .ok (.iconst (-1), 1) := by decide +kernel
theorem dX6_fewestWords_24 : decode cX6_fewestWords 24 = .ok (.if_icmp .eq 5, 3) := by decide +kernel
theorem dX6_fewestWords_27 : decode cX6_fewestWords 27 = .ok (.iload_n 3, 1) := by decide +kernel
theorem dX6_fewestWords_28 : decode cX6_fewestWords 28 = .ok (.ireturn, 1) := by decide +kernel
theorem dX6_fewestWords_29 : decode cX6_fewestWords 29 = .ok (.iinc 2 1, 3) := by decide +kernel
theorem dX6_fewestWords_32 : decode cX6_fewestWords 32 = .ok (.goto (-30), 3) := by decide +kernel
theorem dX6_fewestWords_35 : decode cX6_fewestWords 35 = .ok (.iconst (-1), 1) := by decide +kernel
theorem dX6_fewestWords_36 : decode cX6_fewestWords 36 = .ok (.ireturn, 1) := by decide +kernel
theorem dX6_leastWords_0 : decode cX6_leastWords 0 = .ok (.iload_n 2, 1) := by decide +kernel
theorem dX6_leastWords_1 : decode cX6_leastWords 1 = .ok (.ifCond .gt 20, 3) := by decide +kernel
theorem dX6_leastWords_4 : decode cX6_leastWords 4 = .ok (.aload_n 0, 1) := by decide +kernel
theorem dX6_leastWords_5 : decode cX6_leastWords 5 = .ok (.iload_n 1, 1) := by decide +kernel
theorem dX6_leastWords_6 : decode cX6_leastWords 6 = .ok (.iload 4, 2) := by decide +kernel
theorem dX6_leastWords_8 : decode cX6_leastWords 8 = .ok (.invokevirtual 62, 3) := by decide +kernel
theorem dX6_leastWords_11 : decode cX6_leastWords 11 = .ok (.ifCond .eq 8, 3) := by decide +kernel
theorem dX6_leastWords_14 : decode cX6_leastWords 14 = .ok (.iload 4, 2) := by decide +kernel
theorem dX6_leastWords_16 : decode cX6_leastWords 16 = .ok (.goto 4, 3) := by decide +kernel
theorem dX6_leastWords_19 : decode cX6_leastWords 19 = .ok (.iconst (-1), 1) := by decide +kernel
theorem dX6_leastWords_20 : decode cX6_leastWords 20 = .ok (.ireturn, 1) := by decide +kernel
theorem dX6_leastWords_21 : decode cX6_leastWords 21 = .ok (.iload_n 2, 1) := by decide +kernel
theorem dX6_leastWords_22 : decode cX6_leastWords 22 = .ok (.iconst 1, 1) := by decide +kernel
theorem dX6_leastWords_23 : decode cX6_leastWords 23 = .ok (.isub, 1) := by decide +kernel
theorem dX6_leastWords_24 : decode cX6_leastWords 24 = .ok (.istore 5, 2) := by decide +kernel
theorem dX6_leastWords_26 : decode cX6_leastWords 26 = .ok (.iload 5, 2) := by decide +kernel
theorem dX6_leastWords_28 : decode cX6_leastWords 28 = .ok (.iload_n 3, 1) := by decide +kernel
theorem dX6_leastWords_29 : decode cX6_leastWords 29 = .ok (.if_icmp .ge 52, 3) := by decide +kernel
theorem dX6_leastWords_32 : decode cX6_leastWords 32 = .ok (.iload 5, 2) := by decide +kernel
theorem dX6_leastWords_34 : decode cX6_leastWords 34 = .ok (.iload_n 1, 1) := by decide +kernel
theorem dX6_leastWords_35 : decode cX6_leastWords 35 = .ok (.if_icmp .eq 40, 3) := by decide +kernel
theorem dX6_leastWords_38 : decode cX6_leastWords 38 = .ok (.iload 5, 2) := by decide +kernel
theorem dX6_leastWords_40 : decode cX6_leastWords 40 = .ok (.iload_n 1, 1) := by decide +kernel
theorem dX6_leastWords_41 : decode cX6_leastWords 41 = .ok (.invokestatic 65, 3) := by decide +kernel
theorem dX6_leastWords_44 : decode cX6_leastWords 44 = .ok (.if_icmp .eq 31, 3) := by decide +kernel
theorem dX6_leastWords_47 : decode cX6_leastWords 47 = .ok (.aload_n 0, 1) := by decide +kernel
theorem dX6_leastWords_48 : decode cX6_leastWords 48 = .ok (.iload_n 1, 1) := by decide +kernel
theorem dX6_leastWords_49 : decode cX6_leastWords 49 = .ok (.iload_n 2, 1) := by decide +kernel
theorem dX6_leastWords_50 : decode cX6_leastWords 50 = .ok (.iconst 1, 1) := by decide +kernel
theorem dX6_leastWords_51 : decode cX6_leastWords 51 = .ok (.isub, 1) := by decide +kernel
theorem dX6_leastWords_52 : decode cX6_leastWords 52 = .ok (.iload 5, 2) := by decide +kernel
theorem dX6_leastWords_54 : decode cX6_leastWords 54 = .ok (.iload 4, 2) := by decide +kernel
theorem dX6_leastWords_56 : decode cX6_leastWords 56 = .ok (.iconst 1, 1) := by decide +kernel
theorem dX6_leastWords_57 : decode cX6_leastWords 57 = .ok (.iload 5, 2) := by decide +kernel
theorem dX6_leastWords_59 : decode cX6_leastWords 59 = .ok (.ishl, 1) := by decide +kernel
theorem dX6_leastWords_60 : decode cX6_leastWords 60 = .ok (.ior, 1) := by decide +kernel
theorem dX6_leastWords_61 : decode cX6_leastWords 61 = .ok (.invokevirtual 58, 3) := by decide +kernel
theorem dX6_leastWords_64 : decode cX6_leastWords 64 = .ok (.istore 6, 2) := by decide +kernel
theorem dX6_leastWords_66 : decode cX6_leastWords 66 = .ok (.iload 6, 2) := by decide +kernel
theorem dX6_leastWords_68 : decode cX6_leastWords 68 = .ok (.iconst (-1), 1) := by decide +kernel
theorem dX6_leastWords_69 : decode cX6_leastWords 69 = .ok (.if_icmp .eq 6, 3) := by decide +kernel
theorem dX6_leastWords_72 : decode cX6_leastWords 72 = .ok (.iload 6, 2) := by decide +kernel
theorem dX6_leastWords_74 : decode cX6_leastWords 74 = .ok (.ireturn, 1) := by decide +kernel
theorem dX6_leastWords_75 : decode cX6_leastWords 75 = .ok (.iinc 5 1, 3) := by decide +kernel
theorem dX6_leastWords_78 : decode cX6_leastWords 78 = .ok (.goto (-52), 3) := by decide +kernel
theorem dX6_leastWords_81 : decode cX6_leastWords 81 = .ok (.iconst (-1), 1) := by decide +kernel
theorem dX6_leastWords_82 : decode cX6_leastWords 82 = .ok (.ireturn, 1) := by decide +kernel
theorem dX6_bringTo_0 : decode cX6_bringTo 0 = .ok (.aload_n 0, 1) := by decide +kernel
theorem dX6_bringTo_1 : decode cX6_bringTo 1 = .ok (.getfield 9, 3) := by decide +kernel
theorem dX6_bringTo_4 : decode cX6_bringTo 4 = .ok (.aload_n 0, 1) := by decide +kernel
theorem dX6_bringTo_5 : decode cX6_bringTo 5 = .ok (.getfield 15, 3) := by decide +kernel
theorem dX6_bringTo_8 : decode cX6_bringTo 8 = .ok (.iload_n 2, 1) := by decide +kernel
theorem dX6_bringTo_9 : decode cX6_bringTo 9 = .ok (.ior, 1) := by decide +kernel
theorem dX6_bringTo_10 : decode cX6_bringTo 10 = .ok (.aload_n 0, 1) := by decide +kernel
theorem dX6_bringTo_11 : decode cX6_bringTo 11 = .ok (.getfield 19, 3) := by decide +kernel
theorem dX6_bringTo_14 : decode cX6_bringTo 14 = .ok (.invokevirtual 22, 3) := by decide +kernel
theorem dX6_bringTo_17 : decode cX6_bringTo 17 = .ok (.istore_n 3, 1) := by decide +kernel
theorem dX6_bringTo_18 : decode cX6_bringTo 18 = .ok (.iload_n 3, 1) := by decide +kernel
theorem dX6_bringTo_19 : decode cX6_bringTo 19 = .ok (.iload_n 1, 1) := by decide +kernel
theorem dX6_bringTo_20 : decode cX6_bringTo 20 = .ok (.invokestatic 28, 3) := by decide +kernel
theorem dX6_bringTo_23 : decode cX6_bringTo 23 = .ok (.ifCond .eq 18, 3) := by decide +kernel
theorem dX6_bringTo_26 : decode cX6_bringTo 26 = .ok (.aload_n 0, 1) := by decide +kernel
theorem dX6_bringTo_27 : decode cX6_bringTo 27 = .ok (.getfield 9, 3) := by decide +kernel
theorem dX6_bringTo_30 : decode cX6_bringTo 30 = .ok (.iload_n 3, 1) := by decide +kernel
theorem dX6_bringTo_31 : decode cX6_bringTo 31 = .ok (.invokevirtual 45, 3) := by decide +kernel
theorem dX6_bringTo_34 : decode cX6_bringTo 34 = .ok (.ifCond .ne 7, 3) := by decide +kernel
theorem dX6_bringTo_37 : decode cX6_bringTo 37 = .ok (.iconst 1, 1) := by decide +kernel
theorem dX6_bringTo_38 : decode cX6_bringTo 38 = .ok (.goto 4, 3) := by decide +kernel
theorem dX6_bringTo_41 : decode cX6_bringTo 41 = .ok (.iconst 0, 1) := by decide +kernel
theorem dX6_bringTo_42 : decode cX6_bringTo 42 = .ok (.ireturn, 1) := by decide +kernel
theorem dX6_neededRules_0 : decode cX6_neededRules 0 = .ok (.aload_n 0, 1) := by decide +kernel
theorem dX6_neededRules_1 : decode cX6_neededRules 1 = .ok (.aload_n 0, 1) := by decide +kernel
theorem dX6_neededRules_2 : decode cX6_neededRules 2 = .ok (.getfield 19, 3) := by decide +kernel
theorem dX6_neededRules_5 : decode cX6_neededRules 5 = .ok (.iload_n 1, 1) := by decide +kernel
theorem dX6_neededRules_6 : decode cX6_neededRules 6 = .ok (.invokevirtual 32, 3) := by decide +kernel
theorem dX6_neededRules_9 : decode cX6_neededRules 9 = .ok (.ifCond .ne 5, 3) := by decide +kernel
theorem dX6_neededRules_12 : decode cX6_neededRules 12 = .ok (.iconst 0, 1) := by decide +kernel
theorem dX6_neededRules_13 : decode cX6_neededRules 13 = .ok (.ireturn, 1) := by decide +kernel
theorem dX6_neededRules_14 : decode cX6_neededRules 14 = .ok (.iconst 0, 1) := by decide +kernel
theorem dX6_neededRules_15 : decode cX6_neededRules 15 = .ok (.istore_n 2, 1) := by decide +kernel
theorem dX6_neededRules_16 : decode cX6_neededRules 16 = .ok (.iconst 0, 1) := by decide +kernel
theorem dX6_neededRules_17 : decode cX6_neededRules 17 = .ok (.istore_n 3, 1) := by decide +kernel
theorem dX6_neededRules_18 : decode cX6_neededRules 18 = .ok (.iload_n 3, 1) := by decide +kernel
theorem dX6_neededRules_19 : decode cX6_neededRules 19 = .ok (.aload_n 0, 1) := by decide +kernel
theorem dX6_neededRules_20 : decode cX6_neededRules 20 = .ok (.getfield 9, 3) := by decide +kernel
theorem dX6_neededRules_23 : decode cX6_neededRules 23 = .ok (.getfield 68, 3) := by decide +kernel
theorem dX6_neededRules_26 : decode cX6_neededRules 26 = .ok (.if_icmp .ge 32, 3) := by decide +kernel
theorem dX6_neededRules_29 : decode cX6_neededRules 29 = .ok (.aload_n 0, 1) := by decide +kernel
theorem dX6_neededRules_30 : decode cX6_neededRules 30 = .ok (.aload_n 0, 1) := by decide +kernel
theorem dX6_neededRules_31 : decode cX6_neededRules 31 = .ok (.getfield 19, 3) := by decide +kernel
theorem dX6_neededRules_34 : decode cX6_neededRules 34 = .ok (.iload_n 3, 1) := by decide +kernel
theorem dX6_neededRules_35 : decode cX6_neededRules 35 = .ok (.iconst 0, 1) := by decide +kernel
theorem dX6_neededRules_36 : decode cX6_neededRules 36 = .ok (.invokestatic 71, 3) := by decide +kernel
theorem dX6_neededRules_39 : decode cX6_neededRules 39 = .ok (.iload_n 1, 1) := by decide +kernel
theorem dX6_neededRules_40 : decode cX6_neededRules 40 = .ok (.invokevirtual 32, 3) := by decide +kernel
theorem dX6_neededRules_43 : decode cX6_neededRules 43 = .ok (.ifCond .ne 9, 3) := by decide +kernel
theorem dX6_neededRules_46 : decode cX6_neededRules 46 = .ok (.iload_n 2, 1) := by decide +kernel
theorem dX6_neededRules_47 : decode cX6_neededRules 47 = .ok (.iconst 1, 1) := by decide +kernel
theorem dX6_neededRules_48 : decode cX6_neededRules 48 = .ok (.iload_n 3, 1) := by decide +kernel
theorem dX6_neededRules_49 : decode cX6_neededRules 49 = .ok (.ishl, 1) := by decide +kernel
theorem dX6_neededRules_50 : decode cX6_neededRules 50 = .ok (.ior, 1) := by decide +kernel
theorem dX6_neededRules_51 : decode cX6_neededRules 51 = .ok (.istore_n 2, 1) := by decide +kernel
theorem dX6_neededRules_52 : decode cX6_neededRules 52 = .ok (.iinc 3 1, 3) := by decide +kernel
theorem dX6_neededRules_55 : decode cX6_neededRules 55 = .ok (.goto (-37), 3) := by decide +kernel
theorem dX6_neededRules_58 : decode cX6_neededRules 58 = .ok (.iload_n 2, 1) := by decide +kernel
theorem dX6_neededRules_59 : decode cX6_neededRules 59 = .ok (.ireturn, 1) := by decide +kernel
theorem dX6_fewestBars_0 : decode cX6_fewestBars 0 = .ok (.aload_n 0, 1) := by decide +kernel
theorem dX6_fewestBars_1 : decode cX6_fewestBars 1 = .ok (.getfield 15, 3) := by decide +kernel
theorem dX6_fewestBars_4 : decode cX6_fewestBars 4 = .ok (.iload_n 1, 1) := by decide +kernel
theorem dX6_fewestBars_5 : decode cX6_fewestBars 5 = .ok (.invokestatic 28, 3) := by decide +kernel
theorem dX6_fewestBars_8 : decode cX6_fewestBars 8 = .ok (.ifCond .eq 5, 3) := by decide +kernel
theorem dX6_fewestBars_11 : decode cX6_fewestBars 11 = .ok (.iconst (-1), 1) := by decide +kernel
theorem dX6_fewestBars_12 : decode cX6_fewestBars 12 = .ok (.ireturn, 1) := by decide +kernel
theorem dX6_fewestBars_13 : decode cX6_fewestBars 13 = .ok (.aload_n 0, 1) := by decide +kernel
theorem dX6_fewestBars_14 : decode cX6_fewestBars 14 = .ok (.getfield 19, 3) := by decide +kernel
theorem dX6_fewestBars_17 : decode cX6_fewestBars 17 = .ok (.istore_n 2, 1) := by decide +kernel
theorem dX6_fewestBars_18 : decode cX6_fewestBars 18 = .ok (.bipush 11, 2) := by decide +kernel
theorem dX6_fewestBars_20 : decode cX6_fewestBars 20 = .ok (.istore_n 3, 1) := by decide +kernel
theorem dX6_fewestBars_21 : decode cX6_fewestBars 21 = .ok (.iconst 0, 1) := by decide +kernel
theorem dX6_fewestBars_22 : decode cX6_fewestBars 22 = .ok (.istore 4, 2) := by decide +kernel
theorem dX6_fewestBars_24 : decode cX6_fewestBars 24 = .ok (.iload 4, 2) := by decide +kernel
theorem dX6_fewestBars_26 : decode cX6_fewestBars 26 = .ok (.aload_n 0, 1) := by decide +kernel
theorem dX6_fewestBars_27 : decode cX6_fewestBars 27 = .ok (.getfield 19, 3) := by decide +kernel
theorem dX6_fewestBars_30 : decode cX6_fewestBars 30 = .ok (.if_icmp .gt 54, 3) := by decide +kernel
theorem dX6_fewestBars_33 : decode cX6_fewestBars 33 = .ok (.iload 4, 2) := by decide +kernel
theorem dX6_fewestBars_35 : decode cX6_fewestBars 35 = .ok (.invokestatic 35, 3) := by decide +kernel
theorem dX6_fewestBars_38 : decode cX6_fewestBars 38 = .ok (.istore 5, 2) := by decide +kernel
theorem dX6_fewestBars_40 : decode cX6_fewestBars 40 = .ok (.aload_n 0, 1) := by decide +kernel
theorem dX6_fewestBars_41 : decode cX6_fewestBars 41 = .ok (.iload 4, 2) := by decide +kernel
theorem dX6_fewestBars_43 : decode cX6_fewestBars 43 = .ok (.invokevirtual 41, 3) := by decide +kernel
theorem dX6_fewestBars_46 : decode cX6_fewestBars 46 = .ok (.ifCond .eq 32, 3) := by decide +kernel
theorem dX6_fewestBars_49 : decode cX6_fewestBars 49 = .ok (.iload 5, 2) := by decide +kernel
theorem dX6_fewestBars_51 : decode cX6_fewestBars 51 = .ok (.iload_n 3, 1) := by decide +kernel
theorem dX6_fewestBars_52 : decode cX6_fewestBars 52 = .ok (.if_icmp .ge 26, 3) := by decide +kernel
theorem dX6_fewestBars_55 : decode cX6_fewestBars 55 = .ok (.aload_n 0, 1) := by decide +kernel
theorem dX6_fewestBars_56 : decode cX6_fewestBars 56 = .ok (.aload_n 0, 1) := by decide +kernel
theorem dX6_fewestBars_57 : decode cX6_fewestBars 57 = .ok (.getfield 19, 3) := by decide +kernel
theorem dX6_fewestBars_60 : decode cX6_fewestBars 60 = .ok (.iload 4, 2) := by decide +kernel
theorem dX6_fewestBars_62 : decode cX6_fewestBars 62 = .ok (.iconst (-1), 1) := by decide +kernel
theorem dX6_fewestBars_63 : decode cX6_fewestBars 63 = .ok (.ixor, 1) := by decide +kernel
theorem dX6_fewestBars_64 : decode cX6_fewestBars 64 = .ok (.iand, 1) := by decide +kernel
theorem dX6_fewestBars_65 : decode cX6_fewestBars 65 = .ok (.iload_n 1, 1) := by decide +kernel
theorem dX6_fewestBars_66 : decode cX6_fewestBars 66 = .ok (.invokevirtual 32, 3) := by decide +kernel
theorem dX6_fewestBars_69 : decode cX6_fewestBars 69 = .ok (.ifCond .ne 9, 3) := by decide +kernel
theorem dX6_fewestBars_72 : decode cX6_fewestBars 72 = .ok (.iload 4, 2) := by decide +kernel
theorem dX6_fewestBars_74 : decode cX6_fewestBars 74 = .ok (.istore_n 2, 1) := by decide +kernel
theorem dX6_fewestBars_75 : decode cX6_fewestBars 75 = .ok (.iload 5, 2) := by decide +kernel
theorem dX6_fewestBars_77 : decode cX6_fewestBars 77 = .ok (.istore_n 3, 1) := by decide +kernel
theorem dX6_fewestBars_78 : decode cX6_fewestBars 78 = .ok (.iinc 4 1, 3) := by decide +kernel
theorem dX6_fewestBars_81 : decode cX6_fewestBars 81 = .ok (.goto (-57), 3) := by decide +kernel
theorem dX6_fewestBars_84 : decode cX6_fewestBars 84 = .ok (.iload_n 2, 1) := by decide +kernel
theorem dX6_fewestBars_85 : decode cX6_fewestBars 85 = .ok (.ireturn, 1) := by decide +kernel
theorem dX6_circles_0 : decode cX6_circles 0 = .ok (.iconst 0, 1) := by decide +kernel
theorem dX6_circles_1 : decode cX6_circles 1 = .ok (.istore_n 1, 1) := by decide +kernel
theorem dX6_circles_2 : decode cX6_circles 2 = .ok (.iconst 0, 1) := by decide +kernel
theorem dX6_circles_3 : decode cX6_circles 3 = .ok (.istore_n 2, 1) := by decide +kernel
theorem dX6_circles_4 : decode cX6_circles 4 = .ok (.iload_n 2, 1) := by decide +kernel
theorem dX6_circles_5 : decode cX6_circles 5 = .ok (.aload_n 0, 1) := by decide +kernel
theorem dX6_circles_6 : decode cX6_circles 6 = .ok (.getfield 9, 3) := by decide +kernel
theorem dX6_circles_9 : decode cX6_circles 9 = .ok (.invokevirtual 54, 3) := by decide +kernel
theorem dX6_circles_12 : decode cX6_circles 12 = .ok (.if_icmp .ge 27, 3) := by decide +kernel
theorem dX6_circles_15 : decode cX6_circles 15 = .ok (.iload_n 1, 1) := by decide +kernel
theorem dX6_circles_16 : decode cX6_circles 16 = .ok (.aload_n 0, 1) := by decide +kernel
theorem dX6_circles_17 : decode cX6_circles 17 = .ok (.iload_n 2, 1) := by decide +kernel
theorem dX6_circles_18 : decode cX6_circles 18 = .ok (.invokevirtual 75, 3) := by decide +kernel
theorem dX6_circles_21 : decode cX6_circles 21 = .ok (.ifCond .eq 9, 3) := by decide +kernel
theorem dX6_circles_24 : decode cX6_circles 24 = .ok (.iconst 1, 1) := by decide +kernel
theorem dX6_circles_25 : decode cX6_circles 25 = .ok (.iload_n 2, 1) := by decide +kernel
theorem dX6_circles_26 : decode cX6_circles 26 = .ok (.ishl, 1) := by decide +kernel
theorem dX6_circles_27 : decode cX6_circles 27 = .ok (.goto 4, 3) := by decide +kernel
theorem dX6_circles_30 : decode cX6_circles 30 = .ok (.iconst 0, 1) := by decide +kernel
theorem dX6_circles_31 : decode cX6_circles 31 = .ok (.ior, 1) := by decide +kernel
theorem dX6_circles_32 : decode cX6_circles 32 = .ok (.istore_n 1, 1) := by decide +kernel
theorem dX6_circles_33 : decode cX6_circles 33 = .ok (.iinc 2 1, 3) := by decide +kernel
theorem dX6_circles_36 : decode cX6_circles 36 = .ok (.goto (-32), 3) := by decide +kernel
theorem dX6_circles_39 : decode cX6_circles 39 = .ok (.iload_n 1, 1) := by decide +kernel
theorem dX6_circles_40 : decode cX6_circles 40 = .ok (.ireturn, 1) := by decide +kernel
theorem dX6_returnsTo_0 : decode cX6_returnsTo 0 = .ok (.aload_n 0, 1) := by decide +kernel
theorem dX6_returnsTo_1 : decode cX6_returnsTo 1 = .ok (.getfield 9, 3) := by decide +kernel
theorem dX6_returnsTo_4 : decode cX6_returnsTo 4 = .ok (.iconst 1, 1) := by decide +kernel
theorem dX6_returnsTo_5 : decode cX6_returnsTo 5 = .ok (.iload_n 1, 1) := by decide +kernel
theorem dX6_returnsTo_6 : decode cX6_returnsTo 6 = .ok (.ishl, 1) := by decide +kernel
theorem dX6_returnsTo_7 : decode cX6_returnsTo 7 = .ok (.aload_n 0, 1) := by decide +kernel
theorem dX6_returnsTo_8 : decode cX6_returnsTo 8 = .ok (.getfield 19, 3) := by decide +kernel
theorem dX6_returnsTo_11 : decode cX6_returnsTo 11 = .ok (.invokevirtual 22, 3) := by decide +kernel
theorem dX6_returnsTo_14 : decode cX6_returnsTo 14 = .ok (.istore_n 2, 1) := by decide +kernel
theorem dX6_returnsTo_15 : decode cX6_returnsTo 15 = .ok (.iconst 0, 1) := by decide +kernel
theorem dX6_returnsTo_16 : decode cX6_returnsTo 16 = .ok (.istore_n 3, 1) := by decide +kernel
theorem dX6_returnsTo_17 : decode cX6_returnsTo 17 = .ok (.iload_n 3, 1) := by decide +kernel
theorem dX6_returnsTo_18 : decode cX6_returnsTo 18 = .ok (.aload_n 0, 1) := by decide +kernel
theorem dX6_returnsTo_19 : decode cX6_returnsTo 19 = .ok (.getfield 9, 3) := by decide +kernel
theorem dX6_returnsTo_22 : decode cX6_returnsTo 22 = .ok (.getfield 68, 3) := by decide +kernel
theorem dX6_returnsTo_25 : decode cX6_returnsTo 25 = .ok (.if_icmp .ge 51, 3) := by decide +kernel
theorem dX6_returnsTo_28 : decode cX6_returnsTo 28 = .ok (.aload_n 0, 1) := by decide +kernel
theorem dX6_returnsTo_29 : decode cX6_returnsTo 29 = .ok (.getfield 19, 3) := by decide +kernel
theorem dX6_returnsTo_32 : decode cX6_returnsTo 32 = .ok (.iload_n 3, 1) := by decide +kernel
theorem dX6_returnsTo_33 : decode cX6_returnsTo 33 = .ok (.invokestatic 28, 3) := by decide +kernel
theorem dX6_returnsTo_36 : decode cX6_returnsTo 36 = .ok (.ifCond .eq 34, 3) := by decide +kernel
theorem dX6_returnsTo_39 : decode cX6_returnsTo 39 = .ok (.aload_n 0, 1) := by decide +kernel
theorem dX6_returnsTo_40 : decode cX6_returnsTo 40 = .ok (.getfield 9, 3) := by decide +kernel
theorem dX6_returnsTo_43 : decode cX6_returnsTo 43 = .ok (.getfield 78, 3) := by decide +kernel
theorem dX6_returnsTo_46 : decode cX6_returnsTo 46 = .ok (.iload_n 3, 1) := by decide +kernel
theorem dX6_returnsTo_47 : decode cX6_returnsTo 47 = .ok (.iaload, 1) := by decide +kernel
theorem dX6_returnsTo_48 : decode cX6_returnsTo 48 = .ok (.iload_n 1, 1) := by decide +kernel
theorem dX6_returnsTo_49 : decode cX6_returnsTo 49 = .ok (.if_icmp .ne 21, 3) := by decide +kernel
theorem dX6_returnsTo_52 : decode cX6_returnsTo 52 = .ok (.aload_n 0, 1) := by decide +kernel
theorem dX6_returnsTo_53 : decode cX6_returnsTo 53 = .ok (.getfield 9, 3) := by decide +kernel
theorem dX6_returnsTo_56 : decode cX6_returnsTo 56 = .ok (.getfield 82, 3) := by decide +kernel
theorem dX6_returnsTo_59 : decode cX6_returnsTo 59 = .ok (.iload_n 3, 1) := by decide +kernel
theorem dX6_returnsTo_60 : decode cX6_returnsTo 60 = .ok (.iaload, 1) := by decide +kernel
theorem dX6_returnsTo_61 : decode cX6_returnsTo 61 = .ok (.iload_n 2, 1) := by decide +kernel
theorem dX6_returnsTo_62 : decode cX6_returnsTo 62 = .ok (.iconst (-1), 1) := by decide +kernel
theorem dX6_returnsTo_63 : decode cX6_returnsTo 63 = .ok (.ixor, 1) := by decide +kernel
theorem dX6_returnsTo_64 : decode cX6_returnsTo 64 = .ok (.iand, 1) := by decide +kernel
theorem dX6_returnsTo_65 : decode cX6_returnsTo 65 = .ok (.ifCond .ne 5, 3) := by decide +kernel
theorem dX6_returnsTo_68 : decode cX6_returnsTo 68 = .ok (.iconst 1, 1) := by decide +kernel
theorem dX6_returnsTo_69 : decode cX6_returnsTo 69 = .ok (.ireturn, 1) := by decide +kernel
theorem dX6_returnsTo_70 : decode cX6_returnsTo 70 = .ok (.iinc 3 1, 3) := by decide +kernel
theorem dX6_returnsTo_73 : decode cX6_returnsTo 73 = .ok (.goto (-56), 3) := by decide +kernel
theorem dX6_returnsTo_76 : decode cX6_returnsTo 76 = .ok (.iconst 0, 1) := by decide +kernel
theorem dX6_returnsTo_77 : decode cX6_returnsTo 77 = .ok (.ireturn, 1) := by decide +kernel
theorem dX6_isAllowed_0 : decode cX6_isAllowed 0 = .ok (.iload_n 1, 1) := by decide +kernel
theorem dX6_isAllowed_1 : decode cX6_isAllowed 1 = .ok (.aload_n 0, 1) := by decide +kernel
theorem dX6_isAllowed_2 : decode cX6_isAllowed 2 = .ok (.getfield 19, 3) := by decide +kernel
theorem dX6_isAllowed_5 : decode cX6_isAllowed 5 = .ok (.iconst (-1), 1) := by decide +kernel
theorem dX6_isAllowed_6 : decode cX6_isAllowed 6 = .ok (.ixor, 1) := by decide +kernel
theorem dX6_isAllowed_7 : decode cX6_isAllowed 7 = .ok (.iand, 1) := by decide +kernel
theorem dX6_isAllowed_8 : decode cX6_isAllowed 8 = .ok (.ifCond .ne 7, 3) := by decide +kernel
theorem dX6_isAllowed_11 : decode cX6_isAllowed 11 = .ok (.iconst 1, 1) := by decide +kernel
theorem dX6_isAllowed_12 : decode cX6_isAllowed 12 = .ok (.goto 4, 3) := by decide +kernel
theorem dX6_isAllowed_15 : decode cX6_isAllowed 15 = .ok (.iconst 0, 1) := by decide +kernel
theorem dX6_isAllowed_16 : decode cX6_isAllowed 16 = .ok (.ireturn, 1) := by decide +kernel
theorem dX7_init_0 : decode cX7_init 0 = .ok (.aload_n 0, 1) := by decide +kernel
theorem dX7_init_1 : decode cX7_init 1 = .ok (.invokespecial 3, 3) := by decide +kernel
theorem dX7_init_4 : decode cX7_init 4 = .ok (.aload_n 0, 1) := by decide +kernel
theorem dX7_init_5 : decode cX7_init 5 = .ok (.new 9, 3) := by decide +kernel
theorem dX7_init_8 : decode cX7_init 8 = .ok (.dup, 1) := by decide +kernel
theorem dX7_init_9 : decode cX7_init 9 = .ok (.invokespecial 11, 3) := by decide +kernel
theorem dX7_init_12 : decode cX7_init 12 = .ok (.putfield 12, 3) := by decide +kernel
theorem dX7_init_15 : decode cX7_init 15 = .ok (.aload_n 0, 1) := by decide +kernel
theorem dX7_init_16 : decode cX7_init 16 = .ok (.new 16, 3) := by decide +kernel
theorem dX7_init_19 : decode cX7_init 19 = .ok (.dup, 1) := by decide +kernel
theorem dX7_init_20 : decode cX7_init 20 = .ok (.invokespecial 18, 3) := by decide +kernel
theorem dX7_init_23 : decode cX7_init 23 = .ok (.putfield 19, 3) := by decide +kernel
theorem dX7_init_26 : decode cX7_init 26 = .ok (.aload_n 0, 1) := by decide +kernel
theorem dX7_init_27 : decode cX7_init 27 = .ok (.new 23, 3) := by decide +kernel
theorem dX7_init_30 : decode cX7_init 30 = .ok (.dup, 1) := by decide +kernel
theorem dX7_init_31 : decode cX7_init 31 = .ok (.invokespecial 25, 3) := by decide +kernel
theorem dX7_init_34 : decode cX7_init 34 = .ok (.putfield 26, 3) := by decide +kernel
theorem dX7_init_37 : decode cX7_init 37 = .ok (.aload_n 0, 1) := by decide +kernel
theorem dX7_init_38 : decode cX7_init 38 = .ok (.new 30, 3) := by decide +kernel
theorem dX7_init_41 : decode cX7_init 41 = .ok (.dup, 1) := by decide +kernel
theorem dX7_init_42 : decode cX7_init 42 = .ok (.invokespecial 32, 3) := by decide +kernel
theorem dX7_init_45 : decode cX7_init 45 = .ok (.putfield 33, 3) := by decide +kernel
theorem dX7_init_48 : decode cX7_init 48 = .ok (.aload_n 0, 1) := by decide +kernel
theorem dX7_init_49 : decode cX7_init 49 = .ok (.iconst 2, 1) := by decide +kernel
theorem dX7_init_50 : decode cX7_init 50 = .ok (.anewarray 37, 3) := by decide +kernel
theorem dX7_init_53 : decode cX7_init 53 = .ok (.putfield 39, 3) := by decide +kernel
theorem dX7_init_56 : decode cX7_init 56 = .ok (.aload_n 0, 1) := by decide +kernel
theorem dX7_init_57 : decode cX7_init 57 = .ok (.iconst 2, 1) := by decide +kernel
theorem dX7_init_58 : decode cX7_init 58 = .ok (.newarray .int, 2) := by decide +kernel
theorem dX7_init_60 : decode cX7_init 60 = .ok (.putfield 43, 3) := by decide +kernel
theorem dX7_init_63 : decode cX7_init 63 = .ok (.aload_n 0, 1) := by decide +kernel
theorem dX7_init_64 : decode cX7_init 64 = .ok (.bipush 10, 2) := by decide +kernel
theorem dX7_init_66 : decode cX7_init 66 = .ok (.newarray .long, 2) := by decide +kernel
theorem dX7_init_68 : decode cX7_init 68 = .ok (.putfield 47, 3) := by decide +kernel
theorem dX7_init_71 : decode cX7_init 71 = .ok (.aload_n 0, 1) := by decide +kernel
theorem dX7_init_72 : decode cX7_init 72 = .ok (.bipush 16, 2) := by decide +kernel
theorem dX7_init_74 : decode cX7_init 74 = .ok (.newarray .int, 2) := by decide +kernel
theorem dX7_init_76 : decode cX7_init 76 = .ok (.putfield 51, 3) := by decide +kernel
theorem dX7_init_79 : decode cX7_init 79 = .ok (.aload_n 0, 1) := by decide +kernel
theorem dX7_init_80 : decode cX7_init 80 = .ok (.new 54, 3) := by decide +kernel
theorem dX7_init_83 : decode cX7_init 83 = .ok (.dup, 1) := by decide +kernel
theorem dX7_init_84 : decode cX7_init 84 = .ok (.invokespecial 56, 3) := by decide +kernel
theorem dX7_init_87 : decode cX7_init 87 = .ok (.putfield 57, 3) := by decide +kernel
theorem dX7_init_90 : decode cX7_init 90 = .ok (.aload_n 0, 1) := by decide +kernel
theorem dX7_init_91 : decode cX7_init 91 = .ok (.new 54, 3) := by decide +kernel
theorem dX7_init_94 : decode cX7_init 94 = .ok (.dup, 1) := by decide +kernel
theorem dX7_init_95 : decode cX7_init 95 = .ok (.invokespecial 56, 3) := by decide +kernel
theorem dX7_init_98 : decode cX7_init 98 = .ok (.putfield 61, 3) := by decide +kernel
theorem dX7_init_101 : decode cX7_init 101 = .ok (.aload_n 0, 1) := by decide +kernel
theorem dX7_init_102 : decode cX7_init 102 = .ok (.new 37, 3) := by decide +kernel
theorem dX7_init_105 : decode cX7_init 105 = .ok (.dup, 1) := by decide +kernel
theorem dX7_init_106 : decode cX7_init 106 = .ok (.iconst 0, 1) := by decide +kernel
theorem dX7_init_107 : decode cX7_init 107 = .ok (.iconst 0, 1) := by decide +kernel
theorem dX7_init_108 : decode cX7_init 108 = .ok (.iconst 0, 1) := by decide +kernel
theorem dX7_init_109 : decode cX7_init 109 = .ok (.iconst 0, 1) := by decide +kernel
theorem dX7_init_110 : decode cX7_init 110 = .ok (.invokespecial 64, 3) := by decide +kernel
theorem dX7_init_113 : decode cX7_init 113 = .ok (.putfield 67, 3) := by decide +kernel
theorem dX7_init_116 : decode cX7_init 116 = .ok (.aload_n 0, 1) := by decide +kernel
theorem dX7_init_117 : decode cX7_init 117 = .ok (.iconst 0, 1) := by decide +kernel
theorem dX7_init_118 : decode cX7_init 118 = .ok (.putfield 71, 3) := by decide +kernel
theorem dX7_init_121 : decode cX7_init 121 = .ok (.return_, 1) := by decide +kernel
theorem dX7_feed_0 : decode cX7_feed 0 = .ok (.iload_n 1, 1) := by decide +kernel
theorem dX7_feed_1 : decode cX7_feed 1 = .ok (.ifCond .lt 10, 3) := by decide +kernel
theorem dX7_feed_4 : decode cX7_feed 4 = .ok (.iload_n 1, 1) := by decide +kernel
theorem dX7_feed_5 : decode cX7_feed 5 = .ok (.sipush 255, 3) := by decide +kernel
theorem dX7_feed_8 : decode cX7_feed 8 = .ok (.if_icmp .le 6, 3) := by decide +kernel
theorem dX7_feed_11 : decode cX7_feed 11 = .ok (.ldc 75, 2) := by decide +kernel
theorem dX7_feed_13 : decode cX7_feed 13 = .ok (.ireturn, 1) := by decide +kernel
theorem dX7_feed_14 : decode cX7_feed 14 = .ok (.aload_n 0, 1) := by decide +kernel
theorem dX7_feed_15 : decode cX7_feed 15 = .ok (.getfield 12, 3) := by decide +kernel
theorem dX7_feed_18 : decode cX7_feed 18 = .ok (.iload_n 1, 1) := by decide +kernel
theorem dX7_feed_19 : decode cX7_feed 19 = .ok (.invokevirtual 76, 3) := by decide +kernel
theorem dX7_feed_22 : decode cX7_feed 22 = .ok (.ifCond .eq 13, 3) := by decide +kernel
theorem dX7_feed_25 : decode cX7_feed 25 = .ok (.aload_n 0, 1) := by decide +kernel
theorem dX7_feed_26 : decode cX7_feed 26 = .ok (.getfield 12, 3) := by decide +kernel
theorem dX7_feed_29 : decode cX7_feed 29 = .ok (.invokevirtual 80, 3) := by decide +kernel
theorem dX7_feed_32 : decode cX7_feed 32 = .ok (.goto 5, 3) := by decide +kernel
theorem dX7_feed_35 : decode cX7_feed 35 = .ok (.ldc 84, 2) := by decide +kernel
theorem dX7_feed_37 : decode cX7_feed 37 = .ok (.ireturn, 1) := by decide +kernel
theorem dX7_town_0 : decode cX7_town 0 = .ok (.aload_n 0, 1) := by decide +kernel
theorem dX7_town_1 : decode cX7_town 1 = .ok (.getfield 12, 3) := by decide +kernel
theorem dX7_town_4 : decode cX7_town 4 = .ok (.aload_n 0, 1) := by decide +kernel
theorem dX7_town_5 : decode cX7_town 5 = .ok (.getfield 61, 3) := by decide +kernel
theorem dX7_town_8 : decode cX7_town 8 = .ok (.invokevirtual 85, 3) := by decide +kernel
theorem dX7_town_11 : decode cX7_town 11 = .ok (.aload_n 0, 1) := by decide +kernel
theorem dX7_town_12 : decode cX7_town 12 = .ok (.getfield 12, 3) := by decide +kernel
theorem dX7_town_15 : decode cX7_town 15 = .ok (.invokevirtual 89, 3) := by decide +kernel
theorem dX7_town_18 : decode cX7_town 18 = .ok (.aload_n 0, 1) := by decide +kernel
theorem dX7_town_19 : decode cX7_town 19 = .ok (.getfield 12, 3) := by decide +kernel
theorem dX7_town_22 : decode cX7_town 22 = .ok (.invokevirtual 92, 3) := by decide +kernel
theorem dX7_town_25 : decode cX7_town 25 = .ok (.ifCond .eq 14, 3) := by decide +kernel
theorem dX7_town_28 : decode cX7_town 28 = .ok (.bipush (-10), 2) := by decide +kernel
theorem dX7_town_30 : decode cX7_town 30 = .ok (.aload_n 0, 1) := by decide +kernel
theorem dX7_town_31 : decode cX7_town 31 = .ok (.getfield 12, 3) := by decide +kernel
theorem dX7_town_34 : decode cX7_town 34 = .ok (.invokevirtual 92, 3) := by decide +kernel
theorem dX7_town_37 : decode cX7_town 37 = .ok (.isub, 1) := by decide +kernel
theorem dX7_town_38 : decode cX7_town 38 = .ok (.ireturn, 1) := by decide +kernel
theorem dX7_town_39 : decode cX7_town 39 = .ok (.aload_n 0, 1) := by decide +kernel
theorem dX7_town_40 : decode cX7_town 40 = .ok (.getfield 57, 3) := by decide +kernel
theorem dX7_town_43 : decode cX7_town 43 = .ok (.astore_n 1, 1) := by decide +kernel
theorem dX7_town_44 : decode cX7_town 44 = .ok (.aload_n 0, 1) := by decide +kernel
theorem dX7_town_45 : decode cX7_town 45 = .ok (.aload_n 0, 1) := by decide +kernel
theorem dX7_town_46 : decode cX7_town 46 = .ok (.getfield 61, 3) := by decide +kernel
theorem dX7_town_49 : decode cX7_town 49 = .ok (.putfield 57, 3) := by decide +kernel
theorem dX7_town_52 : decode cX7_town 52 = .ok (.aload_n 0, 1) := by decide +kernel
theorem dX7_town_53 : decode cX7_town 53 = .ok (.aload_n 1, 1) := by decide +kernel
theorem dX7_town_54 : decode cX7_town 54 = .ok (.putfield 61, 3) := by decide +kernel
theorem dX7_town_57 : decode cX7_town 57 = .ok (.aload_n 0, 1) := by decide +kernel
theorem dX7_town_58 : decode cX7_town 58 = .ok (.invokevirtual 95, 3) := by decide +kernel
theorem dX7_town_61 : decode cX7_town 61 = .ok (.aload_n 0, 1) := by decide +kernel
theorem dX7_town_62 : decode cX7_town 62 = .ok (.getfield 57, 3) := by decide +kernel
theorem dX7_town_65 : decode cX7_town 65 = .ok (.getfield 98, 3) := by decide +kernel
theorem dX7_town_68 : decode cX7_town 68 = .ok (.ireturn, 1) := by decide +kernel
theorem dX7_beginAnew_0 : decode cX7_beginAnew 0 = .ok (.aload_n 0, 1) := by decide +kernel
theorem dX7_beginAnew_1 : decode cX7_beginAnew 1 = .ok (.new 37, 3) := by decide +kernel
theorem dX7_beginAnew_4 : decode cX7_beginAnew 4 = .ok (.dup, 1) := by decide +kernel
theorem dX7_beginAnew_5 : decode cX7_beginAnew 5 = .ok (.aload_n 0, 1) := by decide +kernel
theorem dX7_beginAnew_6 : decode cX7_beginAnew 6 = .ok (.getfield 57, 3) := by decide +kernel
theorem dX7_beginAnew_9 : decode cX7_beginAnew 9 = .ok (.getfield 101, 3) := by decide +kernel
theorem dX7_beginAnew_12 : decode cX7_beginAnew 12 = .ok (.iconst 0, 1) := by decide +kernel
theorem dX7_beginAnew_13 : decode cX7_beginAnew 13 = .ok (.iconst 0, 1) := by decide +kernel
theorem dX7_beginAnew_14 : decode cX7_beginAnew 14 = .ok (.iconst 0, 1) := by decide +kernel
theorem dX7_beginAnew_15 : decode cX7_beginAnew 15 = .ok (.invokespecial 64, 3) := by decide +kernel
theorem dX7_beginAnew_18 : decode cX7_beginAnew 18 = .ok (.putfield 67, 3) := by decide +kernel
theorem dX7_beginAnew_21 : decode cX7_beginAnew 21 = .ok (.aload_n 0, 1) := by decide +kernel
theorem dX7_beginAnew_22 : decode cX7_beginAnew 22 = .ok (.getfield 19, 3) := by decide +kernel
theorem dX7_beginAnew_25 : decode cX7_beginAnew 25 = .ok (.invokevirtual 104, 3) := by decide +kernel
theorem dX7_beginAnew_28 : decode cX7_beginAnew 28 = .ok (.aload_n 0, 1) := by decide +kernel
theorem dX7_beginAnew_29 : decode cX7_beginAnew 29 = .ok (.getfield 26, 3) := by decide +kernel
theorem dX7_beginAnew_32 : decode cX7_beginAnew 32 = .ok (.invokevirtual 107, 3) := by decide +kernel
theorem dX7_beginAnew_35 : decode cX7_beginAnew 35 = .ok (.aload_n 0, 1) := by decide +kernel
theorem dX7_beginAnew_36 : decode cX7_beginAnew 36 = .ok (.getfield 33, 3) := by decide +kernel
theorem dX7_beginAnew_39 : decode cX7_beginAnew 39 = .ok (.invokevirtual 108, 3) := by decide +kernel
theorem dX7_beginAnew_42 : decode cX7_beginAnew 42 = .ok (.iconst 0, 1) := by decide +kernel
theorem dX7_beginAnew_43 : decode cX7_beginAnew 43 = .ok (.istore_n 1, 1) := by decide +kernel
theorem dX7_beginAnew_44 : decode cX7_beginAnew 44 = .ok (.iload_n 1, 1) := by decide +kernel
theorem dX7_beginAnew_45 : decode cX7_beginAnew 45 = .ok (.iconst 2, 1) := by decide +kernel
theorem dX7_beginAnew_46 : decode cX7_beginAnew 46 = .ok (.if_icmp .ge 16, 3) := by decide +kernel
theorem dX7_beginAnew_49 : decode cX7_beginAnew 49 = .ok (.aload_n 0, 1) := by decide +kernel
theorem dX7_beginAnew_50 : decode cX7_beginAnew 50 = .ok (.getfield 39, 3) := by decide +kernel
theorem dX7_beginAnew_53 : decode cX7_beginAnew 53 = .ok (.iload_n 1, 1) := by decide +kernel
theorem dX7_beginAnew_54 : decode cX7_beginAnew 54 = .ok (.aconst_null, 1) := by decide +kernel
theorem dX7_beginAnew_55 : decode cX7_beginAnew 55 = .ok (.aastore, 1) := by decide +kernel
theorem dX7_beginAnew_56 : decode cX7_beginAnew 56 = .ok (.iinc 1 1, 3) := by decide +kernel
theorem dX7_beginAnew_59 : decode cX7_beginAnew 59 = .ok (.goto (-15), 3) := by decide +kernel
theorem dX7_beginAnew_62 : decode cX7_beginAnew 62 = .ok (.return_, 1) := by decide +kernel
theorem dX7_fault_0 : decode cX7_fault 0 = .ok (.aload_n 0, 1) := by decide +kernel
theorem dX7_fault_1 : decode cX7_fault 1 = .ok (.getfield 12, 3) := by decide +kernel
theorem dX7_fault_4 : decode cX7_fault 4 = .ok (.invokevirtual 109, 3) := by decide +kernel
theorem dX7_fault_7 : decode cX7_fault 7 = .ok (.ireturn, 1) := by decide +kernel
theorem dX7_told_0 : decode cX7_told 0 = .ok (.iload_n 1, 1) := by decide +kernel
theorem dX7_told_1 : decode cX7_told 1 = .ok (.tableswitch 185 0 12 #[67, 75, 83, 91, 99, 107, 115, 123, 131, 146, 161, 169, 177], 67) := by decide +kernel
theorem dX7_told_68 : decode cX7_told 68 = .ok (.aload_n 0, 1) := by decide +kernel
theorem dX7_told_69 : decode cX7_told 69 = .ok (.getfield 57, 3) := by decide +kernel
theorem dX7_told_72 : decode cX7_told 72 = .ok (.getfield 112, 3) := by decide +kernel
theorem dX7_told_75 : decode cX7_told 75 = .ok (.ireturn, 1) := by decide +kernel
theorem dX7_told_76 : decode cX7_told 76 = .ok (.aload_n 0, 1) := by decide +kernel
theorem dX7_told_77 : decode cX7_told 77 = .ok (.getfield 57, 3) := by decide +kernel
theorem dX7_told_80 : decode cX7_told 80 = .ok (.getfield 98, 3) := by decide +kernel
theorem dX7_told_83 : decode cX7_told 83 = .ok (.ireturn, 1) := by decide +kernel
theorem dX7_told_84 : decode cX7_told 84 = .ok (.aload_n 0, 1) := by decide +kernel
theorem dX7_told_85 : decode cX7_told 85 = .ok (.getfield 12, 3) := by decide +kernel
theorem dX7_told_88 : decode cX7_told 88 = .ok (.invokevirtual 80, 3) := by decide +kernel
theorem dX7_told_91 : decode cX7_told 91 = .ok (.ireturn, 1) := by decide +kernel
theorem dX7_told_92 : decode cX7_told 92 = .ok (.aload_n 0, 1) := by decide +kernel
theorem dX7_told_93 : decode cX7_told 93 = .ok (.getfield 67, 3) := by decide +kernel
theorem dX7_told_96 : decode cX7_told 96 = .ok (.getfield 115, 3) := by decide +kernel
theorem dX7_told_99 : decode cX7_told 99 = .ok (.ireturn, 1) := by decide +kernel
theorem dX7_told_100 : decode cX7_told 100 = .ok (.aload_n 0, 1) := by decide +kernel
theorem dX7_told_101 : decode cX7_told 101 = .ok (.getfield 67, 3) := by decide +kernel
theorem dX7_told_104 : decode cX7_told 104 = .ok (.getfield 118, 3) := by decide +kernel
theorem dX7_told_107 : decode cX7_told 107 = .ok (.ireturn, 1) := by decide +kernel
theorem dX7_told_108 : decode cX7_told 108 = .ok (.aload_n 0, 1) := by decide +kernel
theorem dX7_told_109 : decode cX7_told 109 = .ok (.getfield 67, 3) := by decide +kernel
theorem dX7_told_112 : decode cX7_told 112 = .ok (.getfield 121, 3) := by decide +kernel
theorem dX7_told_115 : decode cX7_told 115 = .ok (.ireturn, 1) := by decide +kernel
theorem dX7_told_116 : decode cX7_told 116 = .ok (.aload_n 0, 1) := by decide +kernel
theorem dX7_told_117 : decode cX7_told 117 = .ok (.getfield 67, 3) := by decide +kernel
theorem dX7_told_120 : decode cX7_told 120 = .ok (.getfield 124, 3) := by decide +kernel
theorem dX7_told_123 : decode cX7_told 123 = .ok (.ireturn, 1) := by decide +kernel
theorem dX7_told_124 : decode cX7_told 124 = .ok (.aload_n 0, 1) := by decide +kernel
theorem dX7_told_125 : decode cX7_told 125 = .ok (.invokevirtual 127, 3) := by decide +kernel
theorem dX7_told_128 : decode cX7_told 128 = .ok (.invokevirtual 131, 3) := by decide +kernel
theorem dX7_told_131 : decode cX7_told 131 = .ok (.ireturn, 1) := by decide +kernel
theorem dX7_told_132 : decode cX7_told 132 = .ok (.aload_n 0, 1) := by decide +kernel
theorem dX7_told_133 : decode cX7_told 133 = .ok (.getfield 57, 3) := by decide +kernel
theorem dX7_told_136 : decode cX7_told 136 = .ok (.aload_n 0, 1) := by decide +kernel
theorem dX7_told_137 : decode cX7_told 137 = .ok (.invokevirtual 127, 3) := by decide +kernel
theorem dX7_told_140 : decode cX7_told 140 = .ok (.invokevirtual 131, 3) := by decide +kernel
theorem dX7_told_143 : decode cX7_told 143 = .ok (.invokevirtual 136, 3) := by decide +kernel
theorem dX7_told_146 : decode cX7_told 146 = .ok (.ireturn, 1) := by decide +kernel
theorem dX7_told_147 : decode cX7_told 147 = .ok (.aload_n 0, 1) := by decide +kernel
theorem dX7_told_148 : decode cX7_told 148 = .ok (.getfield 57, 3) := by decide +kernel
theorem dX7_told_151 : decode cX7_told 151 = .ok (.aload_n 0, 1) := by decide +kernel
theorem dX7_told_152 : decode cX7_told 152 = .ok (.getfield 67, 3) := by decide +kernel
theorem dX7_told_155 : decode cX7_told 155 = .ok (.getfield 118, 3) := by decide +kernel
theorem dX7_told_158 : decode cX7_told 158 = .ok (.invokevirtual 136, 3) := by decide +kernel
theorem dX7_told_161 : decode cX7_told 161 = .ok (.ireturn, 1) := by decide +kernel
theorem dX7_told_162 : decode cX7_told 162 = .ok (.aload_n 0, 1) := by decide +kernel
theorem dX7_told_163 : decode cX7_told 163 = .ok (.getfield 26, 3) := by decide +kernel
theorem dX7_told_166 : decode cX7_told 166 = .ok (.invokevirtual 140, 3) := by decide +kernel
theorem dX7_told_169 : decode cX7_told 169 = .ok (.ireturn, 1) := by decide +kernel
theorem dX7_told_170 : decode cX7_told 170 = .ok (.aload_n 0, 1) := by decide +kernel
theorem dX7_told_171 : decode cX7_told 171 = .ok (.getfield 33, 3) := by decide +kernel
theorem dX7_told_174 : decode cX7_told 174 = .ok (.invokevirtual 143, 3) := by decide +kernel
theorem dX7_told_177 : decode cX7_told 177 = .ok (.ireturn, 1) := by decide +kernel
theorem dX7_told_178 : decode cX7_told 178 = .ok (.aload_n 0, 1) := by decide +kernel
theorem dX7_told_179 : decode cX7_told 179 = .ok (.getfield 19, 3) := by decide +kernel
theorem dX7_told_182 : decode cX7_told 182 = .ok (.invokevirtual 144, 3) := by decide +kernel
theorem dX7_told_185 : decode cX7_told 185 = .ok (.ireturn, 1) := by decide +kernel
theorem dX7_told_186 : decode cX7_told 186 = .ok (.ldc 75, 2) := by decide +kernel
theorem dX7_told_188 : decode cX7_told 188 = .ok (.ireturn, 1) := by decide +kernel
theorem dX7_rule_0 : decode cX7_rule 0 = .ok (.aload_n 0, 1) := by decide +kernel
theorem dX7_rule_1 : decode cX7_rule 1 = .ok (.getfield 57, 3) := by decide +kernel
theorem dX7_rule_4 : decode cX7_rule 4 = .ok (.iload_n 1, 1) := by decide +kernel
theorem dX7_rule_5 : decode cX7_rule 5 = .ok (.invokevirtual 145, 3) := by decide +kernel
theorem dX7_rule_8 : decode cX7_rule 8 = .ok (.ifCond .ne 6, 3) := by decide +kernel
theorem dX7_rule_11 : decode cX7_rule 11 = .ok (.ldc 148, 2) := by decide +kernel
theorem dX7_rule_13 : decode cX7_rule 13 = .ok (.ireturn, 1) := by decide +kernel
theorem dX7_rule_14 : decode cX7_rule 14 = .ok (.iload_n 2, 1) := by decide +kernel
theorem dX7_rule_15 : decode cX7_rule 15 = .ok (.tableswitch 79 0 3 #[29, 39, 49, 59], 29) := by decide +kernel
theorem dX7_rule_44 : decode cX7_rule 44 = .ok (.aload_n 0, 1) := by decide +kernel
theorem dX7_rule_45 : decode cX7_rule 45 = .ok (.getfield 57, 3) := by decide +kernel
theorem dX7_rule_48 : decode cX7_rule 48 = .ok (.getfield 149, 3) := by decide +kernel
theorem dX7_rule_51 : decode cX7_rule 51 = .ok (.iload_n 1, 1) := by decide +kernel
theorem dX7_rule_52 : decode cX7_rule 52 = .ok (.iaload, 1) := by decide +kernel
theorem dX7_rule_53 : decode cX7_rule 53 = .ok (.ireturn, 1) := by decide +kernel
theorem dX7_rule_54 : decode cX7_rule 54 = .ok (.aload_n 0, 1) := by decide +kernel
theorem dX7_rule_55 : decode cX7_rule 55 = .ok (.getfield 57, 3) := by decide +kernel
theorem dX7_rule_58 : decode cX7_rule 58 = .ok (.getfield 152, 3) := by decide +kernel
theorem dX7_rule_61 : decode cX7_rule 61 = .ok (.iload_n 1, 1) := by decide +kernel
theorem dX7_rule_62 : decode cX7_rule 62 = .ok (.iaload, 1) := by decide +kernel
theorem dX7_rule_63 : decode cX7_rule 63 = .ok (.ireturn, 1) := by decide +kernel
theorem dX7_rule_64 : decode cX7_rule 64 = .ok (.aload_n 0, 1) := by decide +kernel
theorem dX7_rule_65 : decode cX7_rule 65 = .ok (.getfield 57, 3) := by decide +kernel
theorem dX7_rule_68 : decode cX7_rule 68 = .ok (.getfield 155, 3) := by decide +kernel
theorem dX7_rule_71 : decode cX7_rule 71 = .ok (.iload_n 1, 1) := by decide +kernel
theorem dX7_rule_72 : decode cX7_rule 72 = .ok (.iaload, 1) := by decide +kernel
theorem dX7_rule_73 : decode cX7_rule 73 = .ok (.ireturn, 1) := by decide +kernel
theorem dX7_rule_74 : decode cX7_rule 74 = .ok (.aload_n 0, 1) := by decide +kernel
theorem dX7_rule_75 : decode cX7_rule 75 = .ok (.getfield 67, 3) := by decide +kernel
theorem dX7_rule_78 : decode cX7_rule 78 = .ok (.getfield 121, 3) := by decide +kernel
theorem dX7_rule_81 : decode cX7_rule 81 = .ok (.iload_n 1, 1) := by decide +kernel
theorem dX7_rule_82 : decode cX7_rule 82 = .ok (.invokestatic 158, 3) := by decide +kernel
theorem dX7_rule_85 : decode cX7_rule 85 = .ok (.ifCond .eq 7, 3) := by decide +kernel
theorem dX7_rule_88 : decode cX7_rule 88 = .ok (.iconst 1, 1) := by decide +kernel
theorem dX7_rule_89 : decode cX7_rule 89 = .ok (.goto 4, 3) := by decide +kernel
theorem dX7_rule_92 : decode cX7_rule 92 = .ok (.iconst 0, 1) := by decide +kernel
theorem dX7_rule_93 : decode cX7_rule 93 = .ok (.ireturn, 1) := by decide +kernel
theorem dX7_rule_94 : decode cX7_rule 94 = .ok (.ldc 75, 2) := by decide +kernel
theorem dX7_rule_96 : decode cX7_rule 96 = .ok (.ireturn, 1) := by decide +kernel
theorem dX7_see_0 : decode cX7_see 0 = .ok (.aload_n 0, 1) := by decide +kernel
theorem dX7_see_1 : decode cX7_see 1 = .ok (.getfield 57, 3) := by decide +kernel
theorem dX7_see_4 : decode cX7_see 4 = .ok (.iload_n 1, 1) := by decide +kernel
theorem dX7_see_5 : decode cX7_see 5 = .ok (.invokevirtual 162, 3) := by decide +kernel
theorem dX7_see_8 : decode cX7_see 8 = .ok (.ifCond .ne 6, 3) := by decide +kernel
theorem dX7_see_11 : decode cX7_see 11 = .ok (.ldc 148, 2) := by decide +kernel
theorem dX7_see_13 : decode cX7_see 13 = .ok (.ireturn, 1) := by decide +kernel
theorem dX7_see_14 : decode cX7_see 14 = .ok (.aload_n 0, 1) := by decide +kernel
theorem dX7_see_15 : decode cX7_see 15 = .ok (.getfield 67, 3) := by decide +kernel
theorem dX7_see_18 : decode cX7_see 18 = .ok (.getfield 115, 3) := by decide +kernel
theorem dX7_see_21 : decode cX7_see 21 = .ok (.iload_n 1, 1) := by decide +kernel
theorem dX7_see_22 : decode cX7_see 22 = .ok (.invokestatic 158, 3) := by decide +kernel
theorem dX7_see_25 : decode cX7_see 25 = .ok (.ifCond .eq 7, 3) := by decide +kernel
theorem dX7_see_28 : decode cX7_see 28 = .ok (.iconst 1, 1) := by decide +kernel
theorem dX7_see_29 : decode cX7_see 29 = .ok (.goto 4, 3) := by decide +kernel
theorem dX7_see_32 : decode cX7_see 32 = .ok (.iconst 0, 1) := by decide +kernel
theorem dX7_see_33 : decode cX7_see 33 = .ok (.istore_n 3, 1) := by decide +kernel
theorem dX7_see_34 : decode cX7_see 34 = .ok (.aload_n 0, 1) := by decide +kernel
theorem dX7_see_35 : decode cX7_see 35 = .ok (.new 37, 3) := by decide +kernel
theorem dX7_see_38 : decode cX7_see 38 = .ok (.dup, 1) := by decide +kernel
theorem dX7_see_39 : decode cX7_see 39 = .ok (.aload_n 0, 1) := by decide +kernel
theorem dX7_see_40 : decode cX7_see 40 = .ok (.getfield 67, 3) := by decide +kernel
theorem dX7_see_43 : decode cX7_see 43 = .ok (.getfield 115, 3) := by decide +kernel
theorem dX7_see_46 : decode cX7_see 46 = .ok (.iload_n 1, 1) := by decide +kernel
theorem dX7_see_47 : decode cX7_see 47 = .ok (.iload_n 2, 1) := by decide +kernel
theorem dX7_see_48 : decode cX7_see 48 = .ok (.invokestatic 165, 3) := by decide +kernel
theorem dX7_see_51 : decode cX7_see 51 = .ok (.aload_n 0, 1) := by decide +kernel
theorem dX7_see_52 : decode cX7_see 52 = .ok (.getfield 67, 3) := by decide +kernel
theorem dX7_see_55 : decode cX7_see 55 = .ok (.getfield 118, 3) := by decide +kernel
theorem dX7_see_58 : decode cX7_see 58 = .ok (.aload_n 0, 1) := by decide +kernel
theorem dX7_see_59 : decode cX7_see 59 = .ok (.getfield 67, 3) := by decide +kernel
theorem dX7_see_62 : decode cX7_see 62 = .ok (.getfield 121, 3) := by decide +kernel
theorem dX7_see_65 : decode cX7_see 65 = .ok (.aload_n 0, 1) := by decide +kernel
theorem dX7_see_66 : decode cX7_see 66 = .ok (.getfield 67, 3) := by decide +kernel
theorem dX7_see_69 : decode cX7_see 69 = .ok (.getfield 124, 3) := by decide +kernel
theorem dX7_see_72 : decode cX7_see 72 = .ok (.invokespecial 64, 3) := by decide +kernel
theorem dX7_see_75 : decode cX7_see 75 = .ok (.invokevirtual 169, 3) := by decide +kernel
theorem dX7_see_78 : decode cX7_see 78 = .ok (.iload_n 3, 1) := by decide +kernel
theorem dX7_see_79 : decode cX7_see 79 = .ok (.ireturn, 1) := by decide +kernel
theorem dX7_forbid_0 : decode cX7_forbid 0 = .ok (.aload_n 0, 1) := by decide +kernel
theorem dX7_forbid_1 : decode cX7_forbid 1 = .ok (.getfield 57, 3) := by decide +kernel
theorem dX7_forbid_4 : decode cX7_forbid 4 = .ok (.iload_n 1, 1) := by decide +kernel
theorem dX7_forbid_5 : decode cX7_forbid 5 = .ok (.invokevirtual 145, 3) := by decide +kernel
theorem dX7_forbid_8 : decode cX7_forbid 8 = .ok (.ifCond .ne 6, 3) := by decide +kernel
theorem dX7_forbid_11 : decode cX7_forbid 11 = .ok (.ldc 148, 2) := by decide +kernel
theorem dX7_forbid_13 : decode cX7_forbid 13 = .ok (.ireturn, 1) := by decide +kernel
theorem dX7_forbid_14 : decode cX7_forbid 14 = .ok (.aload_n 0, 1) := by decide +kernel
theorem dX7_forbid_15 : decode cX7_forbid 15 = .ok (.getfield 67, 3) := by decide +kernel
theorem dX7_forbid_18 : decode cX7_forbid 18 = .ok (.getfield 121, 3) := by decide +kernel
theorem dX7_forbid_21 : decode cX7_forbid 21 = .ok (.iload_n 1, 1) := by decide +kernel
theorem dX7_forbid_22 : decode cX7_forbid 22 = .ok (.invokestatic 158, 3) := by decide +kernel
theorem dX7_forbid_25 : decode cX7_forbid 25 = .ok (.ifCond .eq 7, 3) := by decide +kernel
theorem dX7_forbid_28 : decode cX7_forbid 28 = .ok (.iconst 1, 1) := by decide +kernel
theorem dX7_forbid_29 : decode cX7_forbid 29 = .ok (.goto 4, 3) := by decide +kernel
theorem dX7_forbid_32 : decode cX7_forbid 32 = .ok (.iconst 0, 1) := by decide +kernel
theorem dX7_forbid_33 : decode cX7_forbid 33 = .ok (.istore_n 3, 1) := by decide +kernel
theorem dX7_forbid_34 : decode cX7_forbid 34 = .ok (.aload_n 0, 1) := by decide +kernel
theorem dX7_forbid_35 : decode cX7_forbid 35 = .ok (.new 37, 3) := by decide +kernel
theorem dX7_forbid_38 : decode cX7_forbid 38 = .ok (.dup, 1) := by decide +kernel
theorem dX7_forbid_39 : decode cX7_forbid 39 = .ok (.aload_n 0, 1) := by decide +kernel
theorem dX7_forbid_40 : decode cX7_forbid 40 = .ok (.getfield 67, 3) := by decide +kernel
theorem dX7_forbid_43 : decode cX7_forbid 43 = .ok (.getfield 115, 3) := by decide +kernel
theorem dX7_forbid_46 : decode cX7_forbid 46 = .ok (.aload_n 0, 1) := by decide +kernel
theorem dX7_forbid_47 : decode cX7_forbid 47 = .ok (.getfield 67, 3) := by decide +kernel
theorem dX7_forbid_50 : decode cX7_forbid 50 = .ok (.getfield 118, 3) := by decide +kernel
theorem dX7_forbid_53 : decode cX7_forbid 53 = .ok (.aload_n 0, 1) := by decide +kernel
theorem dX7_forbid_54 : decode cX7_forbid 54 = .ok (.getfield 67, 3) := by decide +kernel
theorem dX7_forbid_57 : decode cX7_forbid 57 = .ok (.getfield 121, 3) := by decide +kernel
theorem dX7_forbid_60 : decode cX7_forbid 60 = .ok (.iload_n 1, 1) := by decide +kernel
theorem dX7_forbid_61 : decode cX7_forbid 61 = .ok (.iload_n 2, 1) := by decide +kernel
theorem dX7_forbid_62 : decode cX7_forbid 62 = .ok (.invokestatic 165, 3) := by decide +kernel
theorem dX7_forbid_65 : decode cX7_forbid 65 = .ok (.aload_n 0, 1) := by decide +kernel
theorem dX7_forbid_66 : decode cX7_forbid 66 = .ok (.getfield 67, 3) := by decide +kernel
theorem dX7_forbid_69 : decode cX7_forbid 69 = .ok (.getfield 124, 3) := by decide +kernel
theorem dX7_forbid_72 : decode cX7_forbid 72 = .ok (.invokespecial 64, 3) := by decide +kernel
theorem dX7_forbid_75 : decode cX7_forbid 75 = .ok (.invokevirtual 169, 3) := by decide +kernel
theorem dX7_forbid_78 : decode cX7_forbid 78 = .ok (.iload_n 3, 1) := by decide +kernel
theorem dX7_forbid_79 : decode cX7_forbid 79 = .ok (.ireturn, 1) := by decide +kernel
theorem dX7_debate_0 : decode cX7_debate 0 = .ok (.aload_n 0, 1) := by decide +kernel
theorem dX7_debate_1 : decode cX7_debate 1 = .ok (.getfield 57, 3) := by decide +kernel
theorem dX7_debate_4 : decode cX7_debate 4 = .ok (.invokevirtual 173, 3) := by decide +kernel
theorem dX7_debate_7 : decode cX7_debate 7 = .ok (.ifCond .eq 6, 3) := by decide +kernel
theorem dX7_debate_10 : decode cX7_debate 10 = .ok (.ldc 177, 2) := by decide +kernel
theorem dX7_debate_12 : decode cX7_debate 12 = .ok (.ireturn, 1) := by decide +kernel
theorem dX7_debate_13 : decode cX7_debate 13 = .ok (.aload_n 0, 1) := by decide +kernel
theorem dX7_debate_14 : decode cX7_debate 14 = .ok (.getfield 67, 3) := by decide +kernel
theorem dX7_debate_17 : decode cX7_debate 17 = .ok (.getfield 124, 3) := by decide +kernel
theorem dX7_debate_20 : decode cX7_debate 20 = .ok (.sipush 9000, 3) := by decide +kernel
theorem dX7_debate_23 : decode cX7_debate 23 = .ok (.if_icmp .le 6, 3) := by decide +kernel
theorem dX7_debate_26 : decode cX7_debate 26 = .ok (.ldc 84, 2) := by decide +kernel
theorem dX7_debate_28 : decode cX7_debate 28 = .ok (.ireturn, 1) := by decide +kernel
theorem dX7_debate_29 : decode cX7_debate 29 = .ok (.aload_n 0, 1) := by decide +kernel
theorem dX7_debate_30 : decode cX7_debate 30 = .ok (.getfield 57, 3) := by decide +kernel
theorem dX7_debate_33 : decode cX7_debate 33 = .ok (.aload_n 0, 1) := by decide +kernel
theorem dX7_debate_34 : decode cX7_debate 34 = .ok (.getfield 67, 3) := by decide +kernel
theorem dX7_debate_37 : decode cX7_debate 37 = .ok (.getfield 115, 3) := by decide +kernel
theorem dX7_debate_40 : decode cX7_debate 40 = .ok (.aload_n 0, 1) := by decide +kernel
theorem dX7_debate_41 : decode cX7_debate 41 = .ok (.getfield 67, 3) := by decide +kernel
theorem dX7_debate_44 : decode cX7_debate 44 = .ok (.getfield 118, 3) := by decide +kernel
theorem dX7_debate_47 : decode cX7_debate 47 = .ok (.ior, 1) := by decide +kernel
theorem dX7_debate_48 : decode cX7_debate 48 = .ok (.aload_n 0, 1) := by decide +kernel
theorem dX7_debate_49 : decode cX7_debate 49 = .ok (.invokevirtual 178, 3) := by decide +kernel
theorem dX7_debate_52 : decode cX7_debate 52 = .ok (.invokevirtual 181, 3) := by decide +kernel
theorem dX7_debate_55 : decode cX7_debate 55 = .ok (.istore_n 1, 1) := by decide +kernel
theorem dX7_debate_56 : decode cX7_debate 56 = .ok (.aload_n 0, 1) := by decide +kernel
theorem dX7_debate_57 : decode cX7_debate 57 = .ok (.new 37, 3) := by decide +kernel
theorem dX7_debate_60 : decode cX7_debate 60 = .ok (.dup, 1) := by decide +kernel
theorem dX7_debate_61 : decode cX7_debate 61 = .ok (.aload_n 0, 1) := by decide +kernel
theorem dX7_debate_62 : decode cX7_debate 62 = .ok (.getfield 67, 3) := by decide +kernel
theorem dX7_debate_65 : decode cX7_debate 65 = .ok (.getfield 115, 3) := by decide +kernel
theorem dX7_debate_68 : decode cX7_debate 68 = .ok (.iload_n 1, 1) := by decide +kernel
theorem dX7_debate_69 : decode cX7_debate 69 = .ok (.aload_n 0, 1) := by decide +kernel
theorem dX7_debate_70 : decode cX7_debate 70 = .ok (.getfield 67, 3) := by decide +kernel
theorem dX7_debate_73 : decode cX7_debate 73 = .ok (.getfield 121, 3) := by decide +kernel
theorem dX7_debate_76 : decode cX7_debate 76 = .ok (.aload_n 0, 1) := by decide +kernel
theorem dX7_debate_77 : decode cX7_debate 77 = .ok (.getfield 67, 3) := by decide +kernel
theorem dX7_debate_80 : decode cX7_debate 80 = .ok (.getfield 124, 3) := by decide +kernel
theorem dX7_debate_83 : decode cX7_debate 83 = .ok (.iconst 1, 1) := by decide +kernel
theorem dX7_debate_84 : decode cX7_debate 84 = .ok (.iadd, 1) := by decide +kernel
theorem dX7_debate_85 : decode cX7_debate 85 = .ok (.invokespecial 64, 3) := by decide +kernel
theorem dX7_debate_88 : decode cX7_debate 88 = .ok (.invokevirtual 169, 3) := by decide +kernel
theorem dX7_debate_91 : decode cX7_debate 91 = .ok (.iload_n 1, 1) := by decide +kernel
theorem dX7_debate_92 : decode cX7_debate 92 = .ok (.ireturn, 1) := by decide +kernel
theorem dX7_drop_0 : decode cX7_drop 0 = .ok (.aload_n 0, 1) := by decide +kernel
theorem dX7_drop_1 : decode cX7_drop 1 = .ok (.getfield 57, 3) := by decide +kernel
theorem dX7_drop_4 : decode cX7_drop 4 = .ok (.invokevirtual 173, 3) := by decide +kernel
theorem dX7_drop_7 : decode cX7_drop 7 = .ok (.ifCond .eq 6, 3) := by decide +kernel
theorem dX7_drop_10 : decode cX7_drop 10 = .ok (.ldc 177, 2) := by decide +kernel
theorem dX7_drop_12 : decode cX7_drop 12 = .ok (.ireturn, 1) := by decide +kernel
theorem dX7_drop_13 : decode cX7_drop 13 = .ok (.aload_n 0, 1) := by decide +kernel
theorem dX7_drop_14 : decode cX7_drop 14 = .ok (.getfield 67, 3) := by decide +kernel
theorem dX7_drop_17 : decode cX7_drop 17 = .ok (.getfield 118, 3) := by decide +kernel
theorem dX7_drop_20 : decode cX7_drop 20 = .ok (.istore_n 1, 1) := by decide +kernel
theorem dX7_drop_21 : decode cX7_drop 21 = .ok (.aload_n 0, 1) := by decide +kernel
theorem dX7_drop_22 : decode cX7_drop 22 = .ok (.new 37, 3) := by decide +kernel
theorem dX7_drop_25 : decode cX7_drop 25 = .ok (.dup, 1) := by decide +kernel
theorem dX7_drop_26 : decode cX7_drop 26 = .ok (.aload_n 0, 1) := by decide +kernel
theorem dX7_drop_27 : decode cX7_drop 27 = .ok (.getfield 67, 3) := by decide +kernel
theorem dX7_drop_30 : decode cX7_drop 30 = .ok (.getfield 115, 3) := by decide +kernel
theorem dX7_drop_33 : decode cX7_drop 33 = .ok (.iconst 0, 1) := by decide +kernel
theorem dX7_drop_34 : decode cX7_drop 34 = .ok (.aload_n 0, 1) := by decide +kernel
theorem dX7_drop_35 : decode cX7_drop 35 = .ok (.getfield 67, 3) := by decide +kernel
theorem dX7_drop_38 : decode cX7_drop 38 = .ok (.getfield 121, 3) := by decide +kernel
theorem dX7_drop_41 : decode cX7_drop 41 = .ok (.aload_n 0, 1) := by decide +kernel
theorem dX7_drop_42 : decode cX7_drop 42 = .ok (.getfield 67, 3) := by decide +kernel
theorem dX7_drop_45 : decode cX7_drop 45 = .ok (.getfield 124, 3) := by decide +kernel
theorem dX7_drop_48 : decode cX7_drop 48 = .ok (.invokespecial 64, 3) := by decide +kernel
theorem dX7_drop_51 : decode cX7_drop 51 = .ok (.invokevirtual 169, 3) := by decide +kernel
theorem dX7_drop_54 : decode cX7_drop 54 = .ok (.iload_n 1, 1) := by decide +kernel
theorem dX7_drop_55 : decode cX7_drop 55 = .ok (.ireturn, 1) := by decide +kernel
theorem dX7_drift_0 : decode cX7_drift 0 = .ok (.iload_n 1, 1) := by decide +kernel
theorem dX7_drift_1 : decode cX7_drift 1 = .ok (.iconst 1, 1) := by decide +kernel
theorem dX7_drift_2 : decode cX7_drift 2 = .ok (.if_icmp .lt 9, 3) := by decide +kernel
theorem dX7_drift_5 : decode cX7_drift 5 = .ok (.iload_n 1, 1) := by decide +kernel
theorem dX7_drift_6 : decode cX7_drift 6 = .ok (.bipush 60, 2) := by decide +kernel
theorem dX7_drift_8 : decode cX7_drift 8 = .ok (.if_icmp .le 6, 3) := by decide +kernel
theorem dX7_drift_11 : decode cX7_drift 11 = .ok (.ldc 75, 2) := by decide +kernel
theorem dX7_drift_13 : decode cX7_drift 13 = .ok (.ireturn, 1) := by decide +kernel
theorem dX7_drift_14 : decode cX7_drift 14 = .ok (.aload_n 0, 1) := by decide +kernel
theorem dX7_drift_15 : decode cX7_drift 15 = .ok (.getfield 57, 3) := by decide +kernel
theorem dX7_drift_18 : decode cX7_drift 18 = .ok (.invokevirtual 173, 3) := by decide +kernel
theorem dX7_drift_21 : decode cX7_drift 21 = .ok (.ifCond .eq 6, 3) := by decide +kernel
theorem dX7_drift_24 : decode cX7_drift 24 = .ok (.ldc 177, 2) := by decide +kernel
theorem dX7_drift_26 : decode cX7_drift 26 = .ok (.ireturn, 1) := by decide +kernel
theorem dX7_drift_27 : decode cX7_drift 27 = .ok (.aload_n 0, 1) := by decide +kernel
theorem dX7_drift_28 : decode cX7_drift 28 = .ok (.getfield 67, 3) := by decide +kernel
theorem dX7_drift_31 : decode cX7_drift 31 = .ok (.getfield 124, 3) := by decide +kernel
theorem dX7_drift_34 : decode cX7_drift 34 = .ok (.sipush 9000, 3) := by decide +kernel
theorem dX7_drift_37 : decode cX7_drift 37 = .ok (.if_icmp .le 6, 3) := by decide +kernel
theorem dX7_drift_40 : decode cX7_drift 40 = .ok (.ldc 84, 2) := by decide +kernel
theorem dX7_drift_42 : decode cX7_drift 42 = .ok (.ireturn, 1) := by decide +kernel
theorem dX7_drift_43 : decode cX7_drift 43 = .ok (.aload_n 0, 1) := by decide +kernel
theorem dX7_drift_44 : decode cX7_drift 44 = .ok (.getfield 67, 3) := by decide +kernel
theorem dX7_drift_47 : decode cX7_drift 47 = .ok (.getfield 115, 3) := by decide +kernel
theorem dX7_drift_50 : decode cX7_drift 50 = .ok (.istore_n 2, 1) := by decide +kernel
theorem dX7_drift_51 : decode cX7_drift 51 = .ok (.aload_n 0, 1) := by decide +kernel
theorem dX7_drift_52 : decode cX7_drift 52 = .ok (.getfield 67, 3) := by decide +kernel
theorem dX7_drift_55 : decode cX7_drift 55 = .ok (.getfield 118, 3) := by decide +kernel
theorem dX7_drift_58 : decode cX7_drift 58 = .ok (.istore_n 3, 1) := by decide +kernel
theorem dX7_drift_59 : decode cX7_drift 59 = .ok (.aload_n 0, 1) := by decide +kernel
theorem dX7_drift_60 : decode cX7_drift 60 = .ok (.getfield 67, 3) := by decide +kernel
theorem dX7_drift_63 : decode cX7_drift 63 = .ok (.getfield 124, 3) := by decide +kernel
theorem dX7_drift_66 : decode cX7_drift 66 = .ok (.istore 4, 2) := by decide +kernel
theorem dX7_drift_68 : decode cX7_drift 68 = .ok (.iconst 0, 1) := by decide +kernel
theorem dX7_drift_69 : decode cX7_drift 69 = .ok (.istore 5, 2) := by decide +kernel
theorem dX7_drift_71 : decode cX7_drift 71 = .ok (.iload 5, 2) := by decide +kernel
theorem dX7_drift_73 : decode cX7_drift 73 = .ok (.iload_n 1, 1) := by decide +kernel
theorem dX7_drift_74 : decode cX7_drift 74 = .ok (.if_icmp .ge 65, 3) := by decide +kernel
theorem dX7_drift_77 : decode cX7_drift 77 = .ok (.aload_n 0, 1) := by decide +kernel
theorem dX7_drift_78 : decode cX7_drift 78 = .ok (.aload_n 0, 1) := by decide +kernel
theorem dX7_drift_79 : decode cX7_drift 79 = .ok (.getfield 57, 3) := by decide +kernel
theorem dX7_drift_82 : decode cX7_drift 82 = .ok (.invokevirtual 185, 3) := by decide +kernel
theorem dX7_drift_85 : decode cX7_drift 85 = .ok (.invokevirtual 188, 3) := by decide +kernel
theorem dX7_drift_88 : decode cX7_drift 88 = .ok (.istore 6, 2) := by decide +kernel
theorem dX7_drift_90 : decode cX7_drift 90 = .ok (.iload_n 2, 1) := by decide +kernel
theorem dX7_drift_91 : decode cX7_drift 91 = .ok (.iload 6, 2) := by decide +kernel
theorem dX7_drift_93 : decode cX7_drift 93 = .ok (.iconst 1, 1) := by decide +kernel
theorem dX7_drift_94 : decode cX7_drift 94 = .ok (.invokestatic 165, 3) := by decide +kernel
theorem dX7_drift_97 : decode cX7_drift 97 = .ok (.iload 6, 2) := by decide +kernel
theorem dX7_drift_99 : decode cX7_drift 99 = .ok (.invokestatic 191, 3) := by decide +kernel
theorem dX7_drift_102 : decode cX7_drift 102 = .ok (.iconst 0, 1) := by decide +kernel
theorem dX7_drift_103 : decode cX7_drift 103 = .ok (.invokestatic 165, 3) := by decide +kernel
theorem dX7_drift_106 : decode cX7_drift 106 = .ok (.istore_n 2, 1) := by decide +kernel
theorem dX7_drift_107 : decode cX7_drift 107 = .ok (.aload_n 0, 1) := by decide +kernel
theorem dX7_drift_108 : decode cX7_drift 108 = .ok (.iconst 4, 1) := by decide +kernel
theorem dX7_drift_109 : decode cX7_drift 109 = .ok (.invokevirtual 188, 3) := by decide +kernel
theorem dX7_drift_112 : decode cX7_drift 112 = .ok (.ifCond .ne 21, 3) := by decide +kernel
theorem dX7_drift_115 : decode cX7_drift 115 = .ok (.aload_n 0, 1) := by decide +kernel
theorem dX7_drift_116 : decode cX7_drift 116 = .ok (.getfield 57, 3) := by decide +kernel
theorem dX7_drift_119 : decode cX7_drift 119 = .ok (.iload_n 2, 1) := by decide +kernel
theorem dX7_drift_120 : decode cX7_drift 120 = .ok (.iload_n 3, 1) := by decide +kernel
theorem dX7_drift_121 : decode cX7_drift 121 = .ok (.ior, 1) := by decide +kernel
theorem dX7_drift_122 : decode cX7_drift 122 = .ok (.aload_n 0, 1) := by decide +kernel
theorem dX7_drift_123 : decode cX7_drift 123 = .ok (.invokevirtual 178, 3) := by decide +kernel
theorem dX7_drift_126 : decode cX7_drift 126 = .ok (.invokevirtual 181, 3) := by decide +kernel
theorem dX7_drift_129 : decode cX7_drift 129 = .ok (.istore_n 3, 1) := by decide +kernel
theorem dX7_drift_130 : decode cX7_drift 130 = .ok (.iinc 4 1, 3) := by decide +kernel
theorem dX7_drift_133 : decode cX7_drift 133 = .ok (.iinc 5 1, 3) := by decide +kernel
theorem dX7_drift_136 : decode cX7_drift 136 = .ok (.goto (-65), 3) := by decide +kernel
theorem dX7_drift_139 : decode cX7_drift 139 = .ok (.aload_n 0, 1) := by decide +kernel
theorem dX7_drift_140 : decode cX7_drift 140 = .ok (.new 37, 3) := by decide +kernel
theorem dX7_drift_143 : decode cX7_drift 143 = .ok (.dup, 1) := by decide +kernel
theorem dX7_drift_144 : decode cX7_drift 144 = .ok (.iload_n 2, 1) := by decide +kernel
theorem dX7_drift_145 : decode cX7_drift 145 = .ok (.iload_n 3, 1) := by decide +kernel
theorem dX7_drift_146 : decode cX7_drift 146 = .ok (.aload_n 0, 1) := by decide +kernel
theorem dX7_drift_147 : decode cX7_drift 147 = .ok (.getfield 67, 3) := by decide +kernel
theorem dX7_drift_150 : decode cX7_drift 150 = .ok (.getfield 121, 3) := by decide +kernel
theorem dX7_drift_153 : decode cX7_drift 153 = .ok (.iload 4, 2) := by decide +kernel
theorem dX7_drift_155 : decode cX7_drift 155 = .ok (.invokespecial 64, 3) := by decide +kernel
theorem dX7_drift_158 : decode cX7_drift 158 = .ok (.invokevirtual 169, 3) := by decide +kernel
theorem dX7_drift_161 : decode cX7_drift 161 = .ok (.iload_n 2, 1) := by decide +kernel
theorem dX7_drift_162 : decode cX7_drift 162 = .ok (.ireturn, 1) := by decide +kernel
theorem dX7_undo_0 : decode cX7_undo 0 = .ok (.aload_n 0, 1) := by decide +kernel
theorem dX7_undo_1 : decode cX7_undo 1 = .ok (.getfield 19, 3) := by decide +kernel
theorem dX7_undo_4 : decode cX7_undo 4 = .ok (.invokevirtual 194, 3) := by decide +kernel
theorem dX7_undo_7 : decode cX7_undo 7 = .ok (.astore_n 1, 1) := by decide +kernel
theorem dX7_undo_8 : decode cX7_undo 8 = .ok (.aload_n 1, 1) := by decide +kernel
theorem dX7_undo_9 : decode cX7_undo 9 = .ok (.ifnonnull 6, 3) := by decide +kernel
theorem dX7_undo_12 : decode cX7_undo 12 = .ok (.ldc 177, 2) := by decide +kernel
theorem dX7_undo_14 : decode cX7_undo 14 = .ok (.ireturn, 1) := by decide +kernel
theorem dX7_undo_15 : decode cX7_undo 15 = .ok (.aload_n 0, 1) := by decide +kernel
theorem dX7_undo_16 : decode cX7_undo 16 = .ok (.aload_n 1, 1) := by decide +kernel
theorem dX7_undo_17 : decode cX7_undo 17 = .ok (.putfield 67, 3) := by decide +kernel
theorem dX7_undo_20 : decode cX7_undo 20 = .ok (.aload_n 0, 1) := by decide +kernel
theorem dX7_undo_21 : decode cX7_undo 21 = .ok (.getfield 19, 3) := by decide +kernel
theorem dX7_undo_24 : decode cX7_undo 24 = .ok (.invokevirtual 144, 3) := by decide +kernel
theorem dX7_undo_27 : decode cX7_undo 27 = .ok (.ireturn, 1) := by decide +kernel
theorem dX7_change_0 : decode cX7_change 0 = .ok (.aload_n 0, 1) := by decide +kernel
theorem dX7_change_1 : decode cX7_change 1 = .ok (.getfield 19, 3) := by decide +kernel
theorem dX7_change_4 : decode cX7_change 4 = .ok (.aload_n 0, 1) := by decide +kernel
theorem dX7_change_5 : decode cX7_change 5 = .ok (.getfield 67, 3) := by decide +kernel
theorem dX7_change_8 : decode cX7_change 8 = .ok (.invokevirtual 198, 3) := by decide +kernel
theorem dX7_change_11 : decode cX7_change 11 = .ok (.aload_n 0, 1) := by decide +kernel
theorem dX7_change_12 : decode cX7_change 12 = .ok (.aload_n 1, 1) := by decide +kernel
theorem dX7_change_13 : decode cX7_change 13 = .ok (.putfield 67, 3) := by decide +kernel
theorem dX7_change_16 : decode cX7_change 16 = .ok (.return_, 1) := by decide +kernel
theorem dX7_follows_0 : decode cX7_follows 0 = .ok (.aload_n 0, 1) := by decide +kernel
theorem dX7_follows_1 : decode cX7_follows 1 = .ok (.getfield 57, 3) := by decide +kernel
theorem dX7_follows_4 : decode cX7_follows 4 = .ok (.iload_n 1, 1) := by decide +kernel
theorem dX7_follows_5 : decode cX7_follows 5 = .ok (.invokevirtual 201, 3) := by decide +kernel
theorem dX7_follows_8 : decode cX7_follows 8 = .ok (.ifCond .ne 6, 3) := by decide +kernel
theorem dX7_follows_11 : decode cX7_follows 11 = .ok (.ldc 148, 2) := by decide +kernel
theorem dX7_follows_13 : decode cX7_follows 13 = .ok (.ireturn, 1) := by decide +kernel
theorem dX7_follows_14 : decode cX7_follows 14 = .ok (.aload_n 0, 1) := by decide +kernel
theorem dX7_follows_15 : decode cX7_follows 15 = .ok (.getfield 57, 3) := by decide +kernel
theorem dX7_follows_18 : decode cX7_follows 18 = .ok (.iload_n 1, 1) := by decide +kernel
theorem dX7_follows_19 : decode cX7_follows 19 = .ok (.aload_n 0, 1) := by decide +kernel
theorem dX7_follows_20 : decode cX7_follows 20 = .ok (.invokevirtual 178, 3) := by decide +kernel
theorem dX7_follows_23 : decode cX7_follows 23 = .ok (.invokevirtual 181, 3) := by decide +kernel
theorem dX7_follows_26 : decode cX7_follows 26 = .ok (.ireturn, 1) := by decide +kernel
theorem dX7_proof_0 : decode cX7_proof 0 = .ok (.aload_n 0, 1) := by decide +kernel
theorem dX7_proof_1 : decode cX7_proof 1 = .ok (.getfield 57, 3) := by decide +kernel
theorem dX7_proof_4 : decode cX7_proof 4 = .ok (.iload_n 1, 1) := by decide +kernel
theorem dX7_proof_5 : decode cX7_proof 5 = .ok (.invokevirtual 162, 3) := by decide +kernel
theorem dX7_proof_8 : decode cX7_proof 8 = .ok (.ifCond .ne 6, 3) := by decide +kernel
theorem dX7_proof_11 : decode cX7_proof 11 = .ok (.ldc 148, 2) := by decide +kernel
theorem dX7_proof_13 : decode cX7_proof 13 = .ok (.ireturn, 1) := by decide +kernel
theorem dX7_proof_14 : decode cX7_proof 14 = .ok (.iload_n 2, 1) := by decide +kernel
theorem dX7_proof_15 : decode cX7_proof 15 = .ok (.ifCond .lt 8, 3) := by decide +kernel
theorem dX7_proof_18 : decode cX7_proof 18 = .ok (.iload_n 2, 1) := by decide +kernel
theorem dX7_proof_19 : decode cX7_proof 19 = .ok (.iconst 1, 1) := by decide +kernel
theorem dX7_proof_20 : decode cX7_proof 20 = .ok (.if_icmp .le 6, 3) := by decide +kernel
theorem dX7_proof_23 : decode cX7_proof 23 = .ok (.ldc 75, 2) := by decide +kernel
theorem dX7_proof_25 : decode cX7_proof 25 = .ok (.ireturn, 1) := by decide +kernel
theorem dX7_proof_26 : decode cX7_proof 26 = .ok (.aload_n 0, 1) := by decide +kernel
theorem dX7_proof_27 : decode cX7_proof 27 = .ok (.invokevirtual 127, 3) := by decide +kernel
theorem dX7_proof_30 : decode cX7_proof 30 = .ok (.iload_n 1, 1) := by decide +kernel
theorem dX7_proof_31 : decode cX7_proof 31 = .ok (.invokevirtual 204, 3) := by decide +kernel
theorem dX7_proof_34 : decode cX7_proof 34 = .ok (.istore_n 3, 1) := by decide +kernel
theorem dX7_proof_35 : decode cX7_proof 35 = .ok (.iload_n 2, 1) := by decide +kernel
theorem dX7_proof_36 : decode cX7_proof 36 = .ok (.ifCond .ne 15, 3) := by decide +kernel
theorem dX7_proof_39 : decode cX7_proof 39 = .ok (.iload_n 3, 1) := by decide +kernel
theorem dX7_proof_40 : decode cX7_proof 40 = .ok (.iconst (-1), 1) := by decide +kernel
theorem dX7_proof_41 : decode cX7_proof 41 = .ok (.if_icmp .eq 10, 3) := by decide +kernel
theorem dX7_proof_44 : decode cX7_proof 44 = .ok (.iload_n 3, 1) := by decide +kernel
theorem dX7_proof_45 : decode cX7_proof 45 = .ok (.invokestatic 207, 3) := by decide +kernel
theorem dX7_proof_48 : decode cX7_proof 48 = .ok (.goto 4, 3) := by decide +kernel
theorem dX7_proof_51 : decode cX7_proof 51 = .ok (.iload_n 3, 1) := by decide +kernel
theorem dX7_proof_52 : decode cX7_proof 52 = .ok (.ireturn, 1) := by decide +kernel
theorem dX7_giveUp_0 : decode cX7_giveUp 0 = .ok (.iload_n 1, 1) := by decide +kernel
theorem dX7_giveUp_1 : decode cX7_giveUp 1 = .ok (.ifCond .lt 8, 3) := by decide +kernel
theorem dX7_giveUp_4 : decode cX7_giveUp 4 = .ok (.iload_n 1, 1) := by decide +kernel
theorem dX7_giveUp_5 : decode cX7_giveUp 5 = .ok (.iconst 1, 1) := by decide +kernel
theorem dX7_giveUp_6 : decode cX7_giveUp 6 = .ok (.if_icmp .le 6, 3) := by decide +kernel
theorem dX7_giveUp_9 : decode cX7_giveUp 9 = .ok (.ldc 75, 2) := by decide +kernel
theorem dX7_giveUp_11 : decode cX7_giveUp 11 = .ok (.ireturn, 1) := by decide +kernel
theorem dX7_giveUp_12 : decode cX7_giveUp 12 = .ok (.aload_n 0, 1) := by decide +kernel
theorem dX7_giveUp_13 : decode cX7_giveUp 13 = .ok (.invokevirtual 127, 3) := by decide +kernel
theorem dX7_giveUp_16 : decode cX7_giveUp 16 = .ok (.invokevirtual 212, 3) := by decide +kernel
theorem dX7_giveUp_19 : decode cX7_giveUp 19 = .ok (.istore_n 2, 1) := by decide +kernel
theorem dX7_giveUp_20 : decode cX7_giveUp 20 = .ok (.iload_n 1, 1) := by decide +kernel
theorem dX7_giveUp_21 : decode cX7_giveUp 21 = .ok (.iconst 1, 1) := by decide +kernel
theorem dX7_giveUp_22 : decode cX7_giveUp 22 = .ok (.if_icmp .ne 19, 3) := by decide +kernel
theorem dX7_giveUp_25 : decode cX7_giveUp 25 = .ok (.iload_n 2, 1) := by decide +kernel
theorem dX7_giveUp_26 : decode cX7_giveUp 26 = .ok (.iconst (-1), 1) := by decide +kernel
theorem dX7_giveUp_27 : decode cX7_giveUp 27 = .ok (.if_icmp .eq 14, 3) := by decide +kernel
theorem dX7_giveUp_30 : decode cX7_giveUp 30 = .ok (.aload_n 0, 1) := by decide +kernel
theorem dX7_giveUp_31 : decode cX7_giveUp 31 = .ok (.getfield 57, 3) := by decide +kernel
theorem dX7_giveUp_34 : decode cX7_giveUp 34 = .ok (.iload_n 2, 1) := by decide +kernel
theorem dX7_giveUp_35 : decode cX7_giveUp 35 = .ok (.invokevirtual 215, 3) := by decide +kernel
theorem dX7_giveUp_38 : decode cX7_giveUp 38 = .ok (.goto 4, 3) := by decide +kernel
theorem dX7_giveUp_41 : decode cX7_giveUp 41 = .ok (.iload_n 2, 1) := by decide +kernel
theorem dX7_giveUp_42 : decode cX7_giveUp 42 = .ok (.ireturn, 1) := by decide +kernel
theorem dX7_words_0 : decode cX7_words 0 = .ok (.aload_n 0, 1) := by decide +kernel
theorem dX7_words_1 : decode cX7_words 1 = .ok (.getfield 57, 3) := by decide +kernel
theorem dX7_words_4 : decode cX7_words 4 = .ok (.iload_n 1, 1) := by decide +kernel
theorem dX7_words_5 : decode cX7_words 5 = .ok (.invokevirtual 162, 3) := by decide +kernel
theorem dX7_words_8 : decode cX7_words 8 = .ok (.ifCond .eq 14, 3) := by decide +kernel
theorem dX7_words_11 : decode cX7_words 11 = .ok (.aload_n 0, 1) := by decide +kernel
theorem dX7_words_12 : decode cX7_words 12 = .ok (.invokevirtual 127, 3) := by decide +kernel
theorem dX7_words_15 : decode cX7_words 15 = .ok (.iload_n 1, 1) := by decide +kernel
theorem dX7_words_16 : decode cX7_words 16 = .ok (.invokevirtual 218, 3) := by decide +kernel
theorem dX7_words_19 : decode cX7_words 19 = .ok (.goto 5, 3) := by decide +kernel
theorem dX7_words_22 : decode cX7_words 22 = .ok (.ldc 148, 2) := by decide +kernel
theorem dX7_words_24 : decode cX7_words 24 = .ok (.ireturn, 1) := by decide +kernel
theorem dX7_step_0 : decode cX7_step 0 = .ok (.aload_n 0, 1) := by decide +kernel
theorem dX7_step_1 : decode cX7_step 1 = .ok (.getfield 57, 3) := by decide +kernel
theorem dX7_step_4 : decode cX7_step 4 = .ok (.iload_n 1, 1) := by decide +kernel
theorem dX7_step_5 : decode cX7_step 5 = .ok (.invokevirtual 162, 3) := by decide +kernel
theorem dX7_step_8 : decode cX7_step 8 = .ok (.ifCond .eq 14, 3) := by decide +kernel
theorem dX7_step_11 : decode cX7_step 11 = .ok (.aload_n 0, 1) := by decide +kernel
theorem dX7_step_12 : decode cX7_step 12 = .ok (.invokevirtual 127, 3) := by decide +kernel
theorem dX7_step_15 : decode cX7_step 15 = .ok (.iload_n 1, 1) := by decide +kernel
theorem dX7_step_16 : decode cX7_step 16 = .ok (.invokevirtual 221, 3) := by decide +kernel
theorem dX7_step_19 : decode cX7_step 19 = .ok (.goto 5, 3) := by decide +kernel
theorem dX7_step_22 : decode cX7_step 22 = .ok (.ldc 148, 2) := by decide +kernel
theorem dX7_step_24 : decode cX7_step 24 = .ok (.ireturn, 1) := by decide +kernel
theorem dX7_barred_0 : decode cX7_barred 0 = .ok (.aload_n 0, 1) := by decide +kernel
theorem dX7_barred_1 : decode cX7_barred 1 = .ok (.getfield 57, 3) := by decide +kernel
theorem dX7_barred_4 : decode cX7_barred 4 = .ok (.iload_n 1, 1) := by decide +kernel
theorem dX7_barred_5 : decode cX7_barred 5 = .ok (.invokevirtual 162, 3) := by decide +kernel
theorem dX7_barred_8 : decode cX7_barred 8 = .ok (.ifCond .eq 14, 3) := by decide +kernel
theorem dX7_barred_11 : decode cX7_barred 11 = .ok (.aload_n 0, 1) := by decide +kernel
theorem dX7_barred_12 : decode cX7_barred 12 = .ok (.invokevirtual 127, 3) := by decide +kernel
theorem dX7_barred_15 : decode cX7_barred 15 = .ok (.iload_n 1, 1) := by decide +kernel
theorem dX7_barred_16 : decode cX7_barred 16 = .ok (.invokevirtual 224, 3) := by decide +kernel
theorem dX7_barred_19 : decode cX7_barred 19 = .ok (.goto 5, 3) := by decide +kernel
theorem dX7_barred_22 : decode cX7_barred 22 = .ok (.ldc 148, 2) := by decide +kernel
theorem dX7_barred_24 : decode cX7_barred 24 = .ok (.ireturn, 1) := by decide +kernel
theorem dX7_never_0 : decode cX7_never 0 = .ok (.aload_n 0, 1) := by decide +kernel
theorem dX7_never_1 : decode cX7_never 1 = .ok (.getfield 57, 3) := by decide +kernel
theorem dX7_never_4 : decode cX7_never 4 = .ok (.invokevirtual 227, 3) := by decide +kernel
theorem dX7_never_7 : decode cX7_never 7 = .ok (.aload_n 0, 1) := by decide +kernel
theorem dX7_never_8 : decode cX7_never 8 = .ok (.getfield 57, 3) := by decide +kernel
theorem dX7_never_11 : decode cX7_never 11 = .ok (.aload_n 0, 1) := by decide +kernel
theorem dX7_never_12 : decode cX7_never 12 = .ok (.invokevirtual 178, 3) := by decide +kernel
theorem dX7_never_15 : decode cX7_never 15 = .ok (.invokevirtual 230, 3) := by decide +kernel
theorem dX7_never_18 : decode cX7_never 18 = .ok (.iconst (-1), 1) := by decide +kernel
theorem dX7_never_19 : decode cX7_never 19 = .ok (.ixor, 1) := by decide +kernel
theorem dX7_never_20 : decode cX7_never 20 = .ok (.iand, 1) := by decide +kernel
theorem dX7_never_21 : decode cX7_never 21 = .ok (.ireturn, 1) := by decide +kernel
theorem dX7_round_0 : decode cX7_round 0 = .ok (.aload_n 0, 1) := by decide +kernel
theorem dX7_round_1 : decode cX7_round 1 = .ok (.invokevirtual 127, 3) := by decide +kernel
theorem dX7_round_4 : decode cX7_round 4 = .ok (.invokevirtual 233, 3) := by decide +kernel
theorem dX7_round_7 : decode cX7_round 7 = .ok (.ireturn, 1) := by decide +kernel
theorem dX7_vote_0 : decode cX7_vote 0 = .ok (.iload_n 1, 1) := by decide +kernel
theorem dX7_vote_1 : decode cX7_vote 1 = .ok (.iconst 1, 1) := by decide +kernel
theorem dX7_vote_2 : decode cX7_vote 2 = .ok (.if_icmp .lt 19, 3) := by decide +kernel
theorem dX7_vote_5 : decode cX7_vote 5 = .ok (.iload_n 1, 1) := by decide +kernel
theorem dX7_vote_6 : decode cX7_vote 6 = .ok (.bipush 9, 2) := by decide +kernel
theorem dX7_vote_8 : decode cX7_vote 8 = .ok (.if_icmp .gt 13, 3) := by decide +kernel
theorem dX7_vote_11 : decode cX7_vote 11 = .ok (.iload_n 2, 1) := by decide +kernel
theorem dX7_vote_12 : decode cX7_vote 12 = .ok (.ifCond .lt 9, 3) := by decide +kernel
theorem dX7_vote_15 : decode cX7_vote 15 = .ok (.iload_n 2, 1) := by decide +kernel
theorem dX7_vote_16 : decode cX7_vote 16 = .ok (.bipush 100, 2) := by decide +kernel
theorem dX7_vote_18 : decode cX7_vote 18 = .ok (.if_icmp .le 6, 3) := by decide +kernel
theorem dX7_vote_21 : decode cX7_vote 21 = .ok (.ldc 75, 2) := by decide +kernel
theorem dX7_vote_23 : decode cX7_vote 23 = .ok (.ireturn, 1) := by decide +kernel
theorem dX7_vote_24 : decode cX7_vote 24 = .ok (.aload_n 0, 1) := by decide +kernel
theorem dX7_vote_25 : decode cX7_vote 25 = .ok (.iload_n 1, 1) := by decide +kernel
theorem dX7_vote_26 : decode cX7_vote 26 = .ok (.iload_n 2, 1) := by decide +kernel
theorem dX7_vote_27 : decode cX7_vote 27 = .ok (.invokevirtual 236, 3) := by decide +kernel
theorem dX7_vote_30 : decode cX7_vote 30 = .ok (.lconst 0, 1) := by decide +kernel
theorem dX7_vote_31 : decode cX7_vote 31 = .ok (.lstore_n 3, 1) := by decide +kernel
theorem dX7_vote_32 : decode cX7_vote 32 = .ok (.iload_n 1, 1) := by decide +kernel
theorem dX7_vote_33 : decode cX7_vote 33 = .ok (.iconst 2, 1) := by decide +kernel
theorem dX7_vote_34 : decode cX7_vote 34 = .ok (.idiv, 1) := by decide +kernel
theorem dX7_vote_35 : decode cX7_vote 35 = .ok (.iconst 1, 1) := by decide +kernel
theorem dX7_vote_36 : decode cX7_vote 36 = .ok (.iadd, 1) := by decide +kernel
theorem dX7_vote_37 : decode cX7_vote 37 = .ok (.istore 5, 2) := by decide +kernel
theorem dX7_vote_39 : decode cX7_vote 39 = .ok (.iload 5, 2) := by decide +kernel
theorem dX7_vote_41 : decode cX7_vote 41 = .ok (.iload_n 1, 1) := by decide +kernel
theorem dX7_vote_42 : decode cX7_vote 42 = .ok (.if_icmp .gt 19, 3) := by decide +kernel
theorem dX7_vote_45 : decode cX7_vote 45 = .ok (.lload_n 3, 1) := by decide +kernel
theorem dX7_vote_46 : decode cX7_vote 46 = .ok (.aload_n 0, 1) := by decide +kernel
theorem dX7_vote_47 : decode cX7_vote 47 = .ok (.getfield 47, 3) := by decide +kernel
theorem dX7_vote_50 : decode cX7_vote 50 = .ok (.iload 5, 2) := by decide +kernel
theorem dX7_vote_52 : decode cX7_vote 52 = .ok (.laload, 1) := by decide +kernel
theorem dX7_vote_53 : decode cX7_vote 53 = .ok (.ladd, 1) := by decide +kernel
theorem dX7_vote_54 : decode cX7_vote 54 = .ok (.lstore_n 3, 1) := by decide +kernel
theorem dX7_vote_55 : decode cX7_vote 55 = .ok (.iinc 5 1, 3) := by decide +kernel
theorem dX7_vote_58 : decode cX7_vote 58 = .ok (.goto (-19), 3) := by decide +kernel
theorem dX7_vote_61 : decode cX7_vote 61 = .ok (.lload_n 3, 1) := by decide +kernel
theorem dX7_vote_62 : decode cX7_vote 62 = .ok (.l2i, 1) := by decide +kernel
theorem dX7_vote_63 : decode cX7_vote 63 = .ok (.ireturn, 1) := by decide +kernel
theorem dX7_shareVotes_0 : decode cX7_shareVotes 0 = .ok (.iconst 0, 1) := by decide +kernel
theorem dX7_shareVotes_1 : decode cX7_shareVotes 1 = .ok (.istore_n 3, 1) := by decide +kernel
theorem dX7_shareVotes_2 : decode cX7_shareVotes 2 = .ok (.iload_n 3, 1) := by decide +kernel
theorem dX7_shareVotes_3 : decode cX7_shareVotes 3 = .ok (.bipush 9, 2) := by decide +kernel
theorem dX7_shareVotes_5 : decode cX7_shareVotes 5 = .ok (.if_icmp .gt 16, 3) := by decide +kernel
theorem dX7_shareVotes_8 : decode cX7_shareVotes 8 = .ok (.aload_n 0, 1) := by decide +kernel
theorem dX7_shareVotes_9 : decode cX7_shareVotes 9 = .ok (.getfield 47, 3) := by decide +kernel
theorem dX7_shareVotes_12 : decode cX7_shareVotes 12 = .ok (.iload_n 3, 1) := by decide +kernel
theorem dX7_shareVotes_13 : decode cX7_shareVotes 13 = .ok (.lconst 0, 1) := by decide +kernel
theorem dX7_shareVotes_14 : decode cX7_shareVotes 14 = .ok (.lastore, 1) := by decide +kernel
theorem dX7_shareVotes_15 : decode cX7_shareVotes 15 = .ok (.iinc 3 1, 3) := by decide +kernel
theorem dX7_shareVotes_18 : decode cX7_shareVotes 18 = .ok (.goto (-16), 3) := by decide +kernel
theorem dX7_shareVotes_21 : decode cX7_shareVotes 21 = .ok (.aload_n 0, 1) := by decide +kernel
theorem dX7_shareVotes_22 : decode cX7_shareVotes 22 = .ok (.getfield 47, 3) := by decide +kernel
theorem dX7_shareVotes_25 : decode cX7_shareVotes 25 = .ok (.iconst 0, 1) := by decide +kernel
theorem dX7_shareVotes_26 : decode cX7_shareVotes 26 = .ok (.ldc2_w 240, 3) := by decide +kernel
theorem dX7_shareVotes_29 : decode cX7_shareVotes 29 = .ok (.lastore, 1) := by decide +kernel
theorem dX7_shareVotes_30 : decode cX7_shareVotes 30 = .ok (.iconst 0, 1) := by decide +kernel
theorem dX7_shareVotes_31 : decode cX7_shareVotes 31 = .ok (.istore_n 3, 1) := by decide +kernel
theorem dX7_shareVotes_32 : decode cX7_shareVotes 32 = .ok (.iload_n 3, 1) := by decide +kernel
theorem dX7_shareVotes_33 : decode cX7_shareVotes 33 = .ok (.iload_n 1, 1) := by decide +kernel
theorem dX7_shareVotes_34 : decode cX7_shareVotes 34 = .ok (.if_icmp .ge 65, 3) := by decide +kernel
theorem dX7_shareVotes_37 : decode cX7_shareVotes 37 = .ok (.iload_n 3, 1) := by decide +kernel
theorem dX7_shareVotes_38 : decode cX7_shareVotes 38 = .ok (.istore 4, 2) := by decide +kernel
theorem dX7_shareVotes_40 : decode cX7_shareVotes 40 = .ok (.iload 4, 2) := by decide +kernel
theorem dX7_shareVotes_42 : decode cX7_shareVotes 42 = .ok (.ifCond .lt 51, 3) := by decide +kernel
theorem dX7_shareVotes_45 : decode cX7_shareVotes 45 = .ok (.aload_n 0, 1) := by decide +kernel
theorem dX7_shareVotes_46 : decode cX7_shareVotes 46 = .ok (.getfield 47, 3) := by decide +kernel
theorem dX7_shareVotes_49 : decode cX7_shareVotes 49 = .ok (.iload 4, 2) := by decide +kernel
theorem dX7_shareVotes_51 : decode cX7_shareVotes 51 = .ok (.laload, 1) := by decide +kernel
theorem dX7_shareVotes_52 : decode cX7_shareVotes 52 = .ok (.iload_n 2, 1) := by decide +kernel
theorem dX7_shareVotes_53 : decode cX7_shareVotes 53 = .ok (.i2l, 1) := by decide +kernel
theorem dX7_shareVotes_54 : decode cX7_shareVotes 54 = .ok (.lmul, 1) := by decide +kernel
theorem dX7_shareVotes_55 : decode cX7_shareVotes 55 = .ok (.ldc2_w 242, 3) := by decide +kernel
theorem dX7_shareVotes_58 : decode cX7_shareVotes 58 = .ok (.ldiv, 1) := by decide +kernel
theorem dX7_shareVotes_59 : decode cX7_shareVotes 59 = .ok (.lstore 5, 2) := by decide +kernel
theorem dX7_shareVotes_61 : decode cX7_shareVotes 61 = .ok (.aload_n 0, 1) := by decide +kernel
theorem dX7_shareVotes_62 : decode cX7_shareVotes 62 = .ok (.getfield 47, 3) := by decide +kernel
theorem dX7_shareVotes_65 : decode cX7_shareVotes 65 = .ok (.iload 4, 2) := by decide +kernel
theorem dX7_shareVotes_67 : decode cX7_shareVotes 67 = .ok (.iconst 1, 1) := by decide +kernel
theorem dX7_shareVotes_68 : decode cX7_shareVotes 68 = .ok (.iadd, 1) := by decide +kernel
theorem dX7_shareVotes_69 : decode cX7_shareVotes 69 = .ok (.dup2, 1) := by decide +kernel
theorem dX7_shareVotes_70 : decode cX7_shareVotes 70 = .ok (.laload, 1) := by decide +kernel
theorem dX7_shareVotes_71 : decode cX7_shareVotes 71 = .ok (.lload 5, 2) := by decide +kernel
theorem dX7_shareVotes_73 : decode cX7_shareVotes 73 = .ok (.ladd, 1) := by decide +kernel
theorem dX7_shareVotes_74 : decode cX7_shareVotes 74 = .ok (.lastore, 1) := by decide +kernel
theorem dX7_shareVotes_75 : decode cX7_shareVotes 75 = .ok (.aload_n 0, 1) := by decide +kernel
theorem dX7_shareVotes_76 : decode cX7_shareVotes 76 = .ok (.getfield 47, 3) := by decide +kernel
theorem dX7_shareVotes_79 : decode cX7_shareVotes 79 = .ok (.iload 4, 2) := by decide +kernel
theorem dX7_shareVotes_81 : decode cX7_shareVotes 81 = .ok (.dup2, 1) := by decide +kernel
theorem dX7_shareVotes_82 : decode cX7_shareVotes 82 = .ok (.laload, 1) := by decide +kernel
theorem dX7_shareVotes_83 : decode cX7_shareVotes 83 = .ok (.lload 5, 2) := by decide +kernel
theorem dX7_shareVotes_85 : decode cX7_shareVotes 85 = .ok (.lsub, 1) := by decide +kernel
theorem dX7_shareVotes_86 : decode cX7_shareVotes 86 = .ok (.lastore, 1) := by decide +kernel
theorem dX7_shareVotes_87 : decode cX7_shareVotes 87 = .ok (.iinc 4 (-1), 3) := by decide +kernel
theorem dX7_shareVotes_90 : decode cX7_shareVotes 90 = .ok (.goto (-50), 3) := by decide +kernel
theorem dX7_shareVotes_93 : decode cX7_shareVotes 93 = .ok (.iinc 3 1, 3) := by decide +kernel
theorem dX7_shareVotes_96 : decode cX7_shareVotes 96 = .ok (.goto (-64), 3) := by decide +kernel
theorem dX7_shareVotes_99 : decode cX7_shareVotes 99 = .ok (.return_, 1) := by decide +kernel
theorem dX7_ask_0 : decode cX7_ask 0 = .ok (.aload_n 0, 1) := by decide +kernel
theorem dX7_ask_1 : decode cX7_ask 1 = .ok (.getfield 57, 3) := by decide +kernel
theorem dX7_ask_4 : decode cX7_ask 4 = .ok (.iload_n 1, 1) := by decide +kernel
theorem dX7_ask_5 : decode cX7_ask 5 = .ok (.invokevirtual 201, 3) := by decide +kernel
theorem dX7_ask_8 : decode cX7_ask 8 = .ok (.ifCond .eq 14, 3) := by decide +kernel
theorem dX7_ask_11 : decode cX7_ask 11 = .ok (.aload_n 0, 1) := by decide +kernel
theorem dX7_ask_12 : decode cX7_ask 12 = .ok (.getfield 57, 3) := by decide +kernel
theorem dX7_ask_15 : decode cX7_ask 15 = .ok (.iload_n 2, 1) := by decide +kernel
theorem dX7_ask_16 : decode cX7_ask 16 = .ok (.invokevirtual 162, 3) := by decide +kernel
theorem dX7_ask_19 : decode cX7_ask 19 = .ok (.ifCond .ne 6, 3) := by decide +kernel
theorem dX7_ask_22 : decode cX7_ask 22 = .ok (.ldc 148, 2) := by decide +kernel
theorem dX7_ask_24 : decode cX7_ask 24 = .ok (.ireturn, 1) := by decide +kernel
theorem dX7_ask_25 : decode cX7_ask 25 = .ok (.aload_n 0, 1) := by decide +kernel
theorem dX7_ask_26 : decode cX7_ask 26 = .ok (.getfield 26, 3) := by decide +kernel
theorem dX7_ask_29 : decode cX7_ask 29 = .ok (.iload_n 1, 1) := by decide +kernel
theorem dX7_ask_30 : decode cX7_ask 30 = .ok (.iload_n 2, 1) := by decide +kernel
theorem dX7_ask_31 : decode cX7_ask 31 = .ok (.iload_n 3, 1) := by decide +kernel
theorem dX7_ask_32 : decode cX7_ask 32 = .ok (.invokevirtual 244, 3) := by decide +kernel
theorem dX7_ask_35 : decode cX7_ask 35 = .ok (.ifCond .eq 13, 3) := by decide +kernel
theorem dX7_ask_38 : decode cX7_ask 38 = .ok (.aload_n 0, 1) := by decide +kernel
theorem dX7_ask_39 : decode cX7_ask 39 = .ok (.getfield 26, 3) := by decide +kernel
theorem dX7_ask_42 : decode cX7_ask 42 = .ok (.invokevirtual 140, 3) := by decide +kernel
theorem dX7_ask_45 : decode cX7_ask 45 = .ok (.goto 5, 3) := by decide +kernel
theorem dX7_ask_48 : decode cX7_ask 48 = .ok (.ldc 84, 2) := by decide +kernel
theorem dX7_ask_50 : decode cX7_ask 50 = .ok (.ireturn, 1) := by decide +kernel
theorem dX7_believed_0 : decode cX7_believed 0 = .ok (.iload_n 1, 1) := by decide +kernel
theorem dX7_believed_1 : decode cX7_believed 1 = .ok (.ifCond .lt 8, 3) := by decide +kernel
theorem dX7_believed_4 : decode cX7_believed 4 = .ok (.iload_n 1, 1) := by decide +kernel
theorem dX7_believed_5 : decode cX7_believed 5 = .ok (.iconst 2, 1) := by decide +kernel
theorem dX7_believed_6 : decode cX7_believed 6 = .ok (.if_icmp .le 6, 3) := by decide +kernel
theorem dX7_believed_9 : decode cX7_believed 9 = .ok (.ldc 75, 2) := by decide +kernel
theorem dX7_believed_11 : decode cX7_believed 11 = .ok (.ireturn, 1) := by decide +kernel
theorem dX7_believed_12 : decode cX7_believed 12 = .ok (.iconst 0, 1) := by decide +kernel
theorem dX7_believed_13 : decode cX7_believed 13 = .ok (.istore_n 2, 1) := by decide +kernel
theorem dX7_believed_14 : decode cX7_believed 14 = .ok (.iconst (-1), 1) := by decide +kernel
theorem dX7_believed_15 : decode cX7_believed 15 = .ok (.istore_n 3, 1) := by decide +kernel
theorem dX7_believed_16 : decode cX7_believed 16 = .ok (.aload_n 0, 1) := by decide +kernel
theorem dX7_believed_17 : decode cX7_believed 17 = .ok (.getfield 57, 3) := by decide +kernel
theorem dX7_believed_20 : decode cX7_believed 20 = .ok (.invokevirtual 247, 3) := by decide +kernel
theorem dX7_believed_23 : decode cX7_believed 23 = .ok (.istore 4, 2) := by decide +kernel
theorem dX7_believed_25 : decode cX7_believed 25 = .ok (.iconst 0, 1) := by decide +kernel
theorem dX7_believed_26 : decode cX7_believed 26 = .ok (.istore 5, 2) := by decide +kernel
theorem dX7_believed_28 : decode cX7_believed 28 = .ok (.iload 5, 2) := by decide +kernel
theorem dX7_believed_30 : decode cX7_believed 30 = .ok (.aload_n 0, 1) := by decide +kernel
theorem dX7_believed_31 : decode cX7_believed 31 = .ok (.getfield 57, 3) := by decide +kernel
theorem dX7_believed_34 : decode cX7_believed 34 = .ok (.invokevirtual 247, 3) := by decide +kernel
theorem dX7_believed_37 : decode cX7_believed 37 = .ok (.if_icmp .gt 46, 3) := by decide +kernel
theorem dX7_believed_40 : decode cX7_believed 40 = .ok (.aload_n 0, 1) := by decide +kernel
theorem dX7_believed_41 : decode cX7_believed 41 = .ok (.getfield 26, 3) := by decide +kernel
theorem dX7_believed_44 : decode cX7_believed 44 = .ok (.aload_n 0, 1) := by decide +kernel
theorem dX7_believed_45 : decode cX7_believed 45 = .ok (.getfield 57, 3) := by decide +kernel
theorem dX7_believed_48 : decode cX7_believed 48 = .ok (.iload 5, 2) := by decide +kernel
theorem dX7_believed_50 : decode cX7_believed 50 = .ok (.invokevirtual 250, 3) := by decide +kernel
theorem dX7_believed_53 : decode cX7_believed 53 = .ok (.ifCond .eq 24, 3) := by decide +kernel
theorem dX7_believed_56 : decode cX7_believed 56 = .ok (.iload_n 2, 1) := by decide +kernel
theorem dX7_believed_57 : decode cX7_believed 57 = .ok (.ifCond .ne 8, 3) := by decide +kernel
theorem dX7_believed_60 : decode cX7_believed 60 = .ok (.iload 5, 2) := by decide +kernel
theorem dX7_believed_62 : decode cX7_believed 62 = .ok (.goto 4, 3) := by decide +kernel
theorem dX7_believed_65 : decode cX7_believed 65 = .ok (.iload_n 3, 1) := by decide +kernel
theorem dX7_believed_66 : decode cX7_believed 66 = .ok (.istore_n 3, 1) := by decide +kernel
theorem dX7_believed_67 : decode cX7_believed 67 = .ok (.iload 4, 2) := by decide +kernel
theorem dX7_believed_69 : decode cX7_believed 69 = .ok (.iload 5, 2) := by decide +kernel
theorem dX7_believed_71 : decode cX7_believed 71 = .ok (.iand, 1) := by decide +kernel
theorem dX7_believed_72 : decode cX7_believed 72 = .ok (.istore 4, 2) := by decide +kernel
theorem dX7_believed_74 : decode cX7_believed 74 = .ok (.iinc 2 1, 3) := by decide +kernel
theorem dX7_believed_77 : decode cX7_believed 77 = .ok (.iinc 5 1, 3) := by decide +kernel
theorem dX7_believed_80 : decode cX7_believed 80 = .ok (.goto (-52), 3) := by decide +kernel
theorem dX7_believed_83 : decode cX7_believed 83 = .ok (.iload_n 1, 1) := by decide +kernel
theorem dX7_believed_84 : decode cX7_believed 84 = .ok (.ifCond .ne 5, 3) := by decide +kernel
theorem dX7_believed_87 : decode cX7_believed 87 = .ok (.iload_n 2, 1) := by decide +kernel
theorem dX7_believed_88 : decode cX7_believed 88 = .ok (.ireturn, 1) := by decide +kernel
theorem dX7_believed_89 : decode cX7_believed 89 = .ok (.iload_n 1, 1) := by decide +kernel
theorem dX7_believed_90 : decode cX7_believed 90 = .ok (.iconst 1, 1) := by decide +kernel
theorem dX7_believed_91 : decode cX7_believed 91 = .ok (.if_icmp .ne 5, 3) := by decide +kernel
theorem dX7_believed_94 : decode cX7_believed 94 = .ok (.iload_n 3, 1) := by decide +kernel
theorem dX7_believed_95 : decode cX7_believed 95 = .ok (.ireturn, 1) := by decide +kernel
theorem dX7_believed_96 : decode cX7_believed 96 = .ok (.iload_n 2, 1) := by decide +kernel
theorem dX7_believed_97 : decode cX7_believed 97 = .ok (.ifCond .ne 7, 3) := by decide +kernel
theorem dX7_believed_100 : decode cX7_believed 100 = .ok (.iconst 0, 1) := by decide +kernel
theorem dX7_believed_101 : decode cX7_believed 101 = .ok (.goto 5, 3) := by decide +kernel
theorem dX7_believed_104 : decode cX7_believed 104 = .ok (.iload 4, 2) := by decide +kernel
theorem dX7_believed_106 : decode cX7_believed 106 = .ok (.ireturn, 1) := by decide +kernel
theorem dX7_askNext_0 : decode cX7_askNext 0 = .ok (.aload_n 0, 1) := by decide +kernel
theorem dX7_askNext_1 : decode cX7_askNext 1 = .ok (.invokevirtual 254, 3) := by decide +kernel
theorem dX7_askNext_4 : decode cX7_askNext 4 = .ok (.istore_n 1, 1) := by decide +kernel
theorem dX7_askNext_5 : decode cX7_askNext 5 = .ok (.iconst (-1), 1) := by decide +kernel
theorem dX7_askNext_6 : decode cX7_askNext 6 = .ok (.istore_n 2, 1) := by decide +kernel
theorem dX7_askNext_7 : decode cX7_askNext 7 = .ok (.iload_n 1, 1) := by decide +kernel
theorem dX7_askNext_8 : decode cX7_askNext 8 = .ok (.istore_n 3, 1) := by decide +kernel
theorem dX7_askNext_9 : decode cX7_askNext 9 = .ok (.iconst 0, 1) := by decide +kernel
theorem dX7_askNext_10 : decode cX7_askNext 10 = .ok (.istore 4, 2) := by decide +kernel
theorem dX7_askNext_12 : decode cX7_askNext 12 = .ok (.iload 4, 2) := by decide +kernel
theorem dX7_askNext_14 : decode cX7_askNext 14 = .ok (.aload_n 0, 1) := by decide +kernel
theorem dX7_askNext_15 : decode cX7_askNext 15 = .ok (.getfield 57, 3) := by decide +kernel
theorem dX7_askNext_18 : decode cX7_askNext 18 = .ok (.invokevirtual 185, 3) := by decide +kernel
theorem dX7_askNext_21 : decode cX7_askNext 21 = .ok (.if_icmp .ge 42, 3) := by decide +kernel
theorem dX7_askNext_24 : decode cX7_askNext 24 = .ok (.aload_n 0, 1) := by decide +kernel
theorem dX7_askNext_25 : decode cX7_askNext 25 = .ok (.getfield 51, 3) := by decide +kernel
theorem dX7_askNext_28 : decode cX7_askNext 28 = .ok (.iload 4, 2) := by decide +kernel
theorem dX7_askNext_30 : decode cX7_askNext 30 = .ok (.iaload, 1) := by decide +kernel
theorem dX7_askNext_31 : decode cX7_askNext 31 = .ok (.iload_n 1, 1) := by decide +kernel
theorem dX7_askNext_32 : decode cX7_askNext 32 = .ok (.aload_n 0, 1) := by decide +kernel
theorem dX7_askNext_33 : decode cX7_askNext 33 = .ok (.getfield 51, 3) := by decide +kernel
theorem dX7_askNext_36 : decode cX7_askNext 36 = .ok (.iload 4, 2) := by decide +kernel
theorem dX7_askNext_38 : decode cX7_askNext 38 = .ok (.iaload, 1) := by decide +kernel
theorem dX7_askNext_39 : decode cX7_askNext 39 = .ok (.isub, 1) := by decide +kernel
theorem dX7_askNext_40 : decode cX7_askNext 40 = .ok (.invokestatic 257, 3) := by decide +kernel
theorem dX7_askNext_43 : decode cX7_askNext 43 = .ok (.istore 5, 2) := by decide +kernel
theorem dX7_askNext_45 : decode cX7_askNext 45 = .ok (.iload 5, 2) := by decide +kernel
theorem dX7_askNext_47 : decode cX7_askNext 47 = .ok (.iload_n 3, 1) := by decide +kernel
theorem dX7_askNext_48 : decode cX7_askNext 48 = .ok (.if_icmp .ge 9, 3) := by decide +kernel
theorem dX7_askNext_51 : decode cX7_askNext 51 = .ok (.iload 5, 2) := by decide +kernel
theorem dX7_askNext_53 : decode cX7_askNext 53 = .ok (.istore_n 3, 1) := by decide +kernel
theorem dX7_askNext_54 : decode cX7_askNext 54 = .ok (.iload 4, 2) := by decide +kernel
theorem dX7_askNext_56 : decode cX7_askNext 56 = .ok (.istore_n 2, 1) := by decide +kernel
theorem dX7_askNext_57 : decode cX7_askNext 57 = .ok (.iinc 4 1, 3) := by decide +kernel
theorem dX7_askNext_60 : decode cX7_askNext 60 = .ok (.goto (-48), 3) := by decide +kernel
theorem dX7_askNext_63 : decode cX7_askNext 63 = .ok (.iload_n 2, 1) := by decide +kernel
theorem dX7_askNext_64 : decode cX7_askNext 64 = .ok (.ireturn, 1) := by decide +kernel
theorem dX7_countAnswers_0 : decode cX7_countAnswers 0 = .ok (.iconst 0, 1) := by decide +kernel
theorem dX7_countAnswers_1 : decode cX7_countAnswers 1 = .ok (.istore_n 1, 1) := by decide +kernel
theorem dX7_countAnswers_2 : decode cX7_countAnswers 2 = .ok (.iload_n 1, 1) := by decide +kernel
theorem dX7_countAnswers_3 : decode cX7_countAnswers 3 = .ok (.bipush 16, 2) := by decide +kernel
theorem dX7_countAnswers_5 : decode cX7_countAnswers 5 = .ok (.if_icmp .ge 16, 3) := by decide +kernel
theorem dX7_countAnswers_8 : decode cX7_countAnswers 8 = .ok (.aload_n 0, 1) := by decide +kernel
theorem dX7_countAnswers_9 : decode cX7_countAnswers 9 = .ok (.getfield 51, 3) := by decide +kernel
theorem dX7_countAnswers_12 : decode cX7_countAnswers 12 = .ok (.iload_n 1, 1) := by decide +kernel
theorem dX7_countAnswers_13 : decode cX7_countAnswers 13 = .ok (.iconst 0, 1) := by decide +kernel
theorem dX7_countAnswers_14 : decode cX7_countAnswers 14 = .ok (.iastore, 1) := by decide +kernel
theorem dX7_countAnswers_15 : decode cX7_countAnswers 15 = .ok (.iinc 1 1, 3) := by decide +kernel
theorem dX7_countAnswers_18 : decode cX7_countAnswers 18 = .ok (.goto (-16), 3) := by decide +kernel
theorem dX7_countAnswers_21 : decode cX7_countAnswers 21 = .ok (.iconst 0, 1) := by decide +kernel
theorem dX7_countAnswers_22 : decode cX7_countAnswers 22 = .ok (.istore_n 1, 1) := by decide +kernel
theorem dX7_countAnswers_23 : decode cX7_countAnswers 23 = .ok (.iconst 0, 1) := by decide +kernel
theorem dX7_countAnswers_24 : decode cX7_countAnswers 24 = .ok (.istore_n 2, 1) := by decide +kernel
theorem dX7_countAnswers_25 : decode cX7_countAnswers 25 = .ok (.iload_n 2, 1) := by decide +kernel
theorem dX7_countAnswers_26 : decode cX7_countAnswers 26 = .ok (.aload_n 0, 1) := by decide +kernel
theorem dX7_countAnswers_27 : decode cX7_countAnswers 27 = .ok (.getfield 57, 3) := by decide +kernel
theorem dX7_countAnswers_30 : decode cX7_countAnswers 30 = .ok (.invokevirtual 247, 3) := by decide +kernel
theorem dX7_countAnswers_33 : decode cX7_countAnswers 33 = .ok (.if_icmp .gt 46, 3) := by decide +kernel
theorem dX7_countAnswers_36 : decode cX7_countAnswers 36 = .ok (.aload_n 0, 1) := by decide +kernel
theorem dX7_countAnswers_37 : decode cX7_countAnswers 37 = .ok (.getfield 26, 3) := by decide +kernel
theorem dX7_countAnswers_40 : decode cX7_countAnswers 40 = .ok (.aload_n 0, 1) := by decide +kernel
theorem dX7_countAnswers_41 : decode cX7_countAnswers 41 = .ok (.getfield 57, 3) := by decide +kernel
theorem dX7_countAnswers_44 : decode cX7_countAnswers 44 = .ok (.iload_n 2, 1) := by decide +kernel
theorem dX7_countAnswers_45 : decode cX7_countAnswers 45 = .ok (.invokevirtual 250, 3) := by decide +kernel
theorem dX7_countAnswers_48 : decode cX7_countAnswers 48 = .ok (.ifCond .eq 25, 3) := by decide +kernel
theorem dX7_countAnswers_51 : decode cX7_countAnswers 51 = .ok (.aload_n 0, 1) := by decide +kernel
theorem dX7_countAnswers_52 : decode cX7_countAnswers 52 = .ok (.aload_n 0, 1) := by decide +kernel
theorem dX7_countAnswers_53 : decode cX7_countAnswers 53 = .ok (.getfield 57, 3) := by decide +kernel
theorem dX7_countAnswers_56 : decode cX7_countAnswers 56 = .ok (.aload_n 0, 1) := by decide +kernel
theorem dX7_countAnswers_57 : decode cX7_countAnswers 57 = .ok (.getfield 67, 3) := by decide +kernel
theorem dX7_countAnswers_60 : decode cX7_countAnswers 60 = .ok (.getfield 115, 3) := by decide +kernel
theorem dX7_countAnswers_63 : decode cX7_countAnswers 63 = .ok (.iload_n 2, 1) := by decide +kernel
theorem dX7_countAnswers_64 : decode cX7_countAnswers 64 = .ok (.invokevirtual 181, 3) := by decide +kernel
theorem dX7_countAnswers_67 : decode cX7_countAnswers 67 = .ok (.invokevirtual 262, 3) := by decide +kernel
theorem dX7_countAnswers_70 : decode cX7_countAnswers 70 = .ok (.iinc 1 1, 3) := by decide +kernel
theorem dX7_countAnswers_73 : decode cX7_countAnswers 73 = .ok (.iinc 2 1, 3) := by decide +kernel
theorem dX7_countAnswers_76 : decode cX7_countAnswers 76 = .ok (.goto (-51), 3) := by decide +kernel
theorem dX7_countAnswers_79 : decode cX7_countAnswers 79 = .ok (.iload_n 1, 1) := by decide +kernel
theorem dX7_countAnswers_80 : decode cX7_countAnswers 80 = .ok (.ireturn, 1) := by decide +kernel
theorem dX7_countYes_0 : decode cX7_countYes 0 = .ok (.iconst 0, 1) := by decide +kernel
theorem dX7_countYes_1 : decode cX7_countYes 1 = .ok (.istore_n 2, 1) := by decide +kernel
theorem dX7_countYes_2 : decode cX7_countYes 2 = .ok (.iload_n 2, 1) := by decide +kernel
theorem dX7_countYes_3 : decode cX7_countYes 3 = .ok (.bipush 16, 2) := by decide +kernel
theorem dX7_countYes_5 : decode cX7_countYes 5 = .ok (.if_icmp .ge 27, 3) := by decide +kernel
theorem dX7_countYes_8 : decode cX7_countYes 8 = .ok (.iload_n 1, 1) := by decide +kernel
theorem dX7_countYes_9 : decode cX7_countYes 9 = .ok (.iload_n 2, 1) := by decide +kernel
theorem dX7_countYes_10 : decode cX7_countYes 10 = .ok (.invokestatic 158, 3) := by decide +kernel
theorem dX7_countYes_13 : decode cX7_countYes 13 = .ok (.ifCond .eq 13, 3) := by decide +kernel
theorem dX7_countYes_16 : decode cX7_countYes 16 = .ok (.aload_n 0, 1) := by decide +kernel
theorem dX7_countYes_17 : decode cX7_countYes 17 = .ok (.getfield 51, 3) := by decide +kernel
theorem dX7_countYes_20 : decode cX7_countYes 20 = .ok (.iload_n 2, 1) := by decide +kernel
theorem dX7_countYes_21 : decode cX7_countYes 21 = .ok (.dup2, 1) := by decide +kernel
theorem dX7_countYes_22 : decode cX7_countYes 22 = .ok (.iaload, 1) := by decide +kernel
theorem dX7_countYes_23 : decode cX7_countYes 23 = .ok (.iconst 1, 1) := by decide +kernel
theorem dX7_countYes_24 : decode cX7_countYes 24 = .ok (.iadd, 1) := by decide +kernel
theorem dX7_countYes_25 : decode cX7_countYes 25 = .ok (.iastore, 1) := by decide +kernel
theorem dX7_countYes_26 : decode cX7_countYes 26 = .ok (.iinc 2 1, 3) := by decide +kernel
theorem dX7_countYes_29 : decode cX7_countYes 29 = .ok (.goto (-27), 3) := by decide +kernel
theorem dX7_countYes_32 : decode cX7_countYes 32 = .ok (.return_, 1) := by decide +kernel
theorem dX7_write_0 : decode cX7_write 0 = .ok (.aload_n 0, 1) := by decide +kernel
theorem dX7_write_1 : decode cX7_write 1 = .ok (.getfield 57, 3) := by decide +kernel
theorem dX7_write_4 : decode cX7_write 4 = .ok (.iload_n 1, 1) := by decide +kernel
theorem dX7_write_5 : decode cX7_write 5 = .ok (.invokevirtual 162, 3) := by decide +kernel
theorem dX7_write_8 : decode cX7_write 8 = .ok (.ifCond .ne 6, 3) := by decide +kernel
theorem dX7_write_11 : decode cX7_write 11 = .ok (.ldc 148, 2) := by decide +kernel
theorem dX7_write_13 : decode cX7_write 13 = .ok (.ireturn, 1) := by decide +kernel
theorem dX7_write_14 : decode cX7_write 14 = .ok (.iload_n 2, 1) := by decide +kernel
theorem dX7_write_15 : decode cX7_write 15 = .ok (.ifCond .lt 8, 3) := by decide +kernel
theorem dX7_write_18 : decode cX7_write 18 = .ok (.iload_n 2, 1) := by decide +kernel
theorem dX7_write_19 : decode cX7_write 19 = .ok (.iconst 1, 1) := by decide +kernel
theorem dX7_write_20 : decode cX7_write 20 = .ok (.if_icmp .le 6, 3) := by decide +kernel
theorem dX7_write_23 : decode cX7_write 23 = .ok (.ldc 75, 2) := by decide +kernel
theorem dX7_write_25 : decode cX7_write 25 = .ok (.ireturn, 1) := by decide +kernel
theorem dX7_write_26 : decode cX7_write 26 = .ok (.aload_n 0, 1) := by decide +kernel
theorem dX7_write_27 : decode cX7_write 27 = .ok (.getfield 33, 3) := by decide +kernel
theorem dX7_write_30 : decode cX7_write 30 = .ok (.iload_n 1, 1) := by decide +kernel
theorem dX7_write_31 : decode cX7_write 31 = .ok (.iload_n 2, 1) := by decide +kernel
theorem dX7_write_32 : decode cX7_write 32 = .ok (.iconst 1, 1) := by decide +kernel
theorem dX7_write_33 : decode cX7_write 33 = .ok (.if_icmp .ne 7, 3) := by decide +kernel
theorem dX7_write_36 : decode cX7_write 36 = .ok (.iconst 1, 1) := by decide +kernel
theorem dX7_write_37 : decode cX7_write 37 = .ok (.goto 4, 3) := by decide +kernel
theorem dX7_write_40 : decode cX7_write 40 = .ok (.iconst 0, 1) := by decide +kernel
theorem dX7_write_41 : decode cX7_write 41 = .ok (.invokevirtual 266, 3) := by decide +kernel
theorem dX7_write_44 : decode cX7_write 44 = .ok (.ifCond .eq 13, 3) := by decide +kernel
theorem dX7_write_47 : decode cX7_write 47 = .ok (.aload_n 0, 1) := by decide +kernel
theorem dX7_write_48 : decode cX7_write 48 = .ok (.getfield 33, 3) := by decide +kernel
theorem dX7_write_51 : decode cX7_write 51 = .ok (.invokevirtual 143, 3) := by decide +kernel
theorem dX7_write_54 : decode cX7_write 54 = .ok (.goto 5, 3) := by decide +kernel
theorem dX7_write_57 : decode cX7_write 57 = .ok (.ldc 84, 2) := by decide +kernel
theorem dX7_write_59 : decode cX7_write 59 = .ok (.ireturn, 1) := by decide +kernel
theorem dX7_tear_0 : decode cX7_tear 0 = .ok (.aload_n 0, 1) := by decide +kernel
theorem dX7_tear_1 : decode cX7_tear 1 = .ok (.getfield 26, 3) := by decide +kernel
theorem dX7_tear_4 : decode cX7_tear 4 = .ok (.invokevirtual 140, 3) := by decide +kernel
theorem dX7_tear_7 : decode cX7_tear 7 = .ok (.aload_n 0, 1) := by decide +kernel
theorem dX7_tear_8 : decode cX7_tear 8 = .ok (.getfield 33, 3) := by decide +kernel
theorem dX7_tear_11 : decode cX7_tear 11 = .ok (.invokevirtual 143, 3) := by decide +kernel
theorem dX7_tear_14 : decode cX7_tear 14 = .ok (.iadd, 1) := by decide +kernel
theorem dX7_tear_15 : decode cX7_tear 15 = .ok (.istore_n 1, 1) := by decide +kernel
theorem dX7_tear_16 : decode cX7_tear 16 = .ok (.aload_n 0, 1) := by decide +kernel
theorem dX7_tear_17 : decode cX7_tear 17 = .ok (.getfield 26, 3) := by decide +kernel
theorem dX7_tear_20 : decode cX7_tear 20 = .ok (.invokevirtual 107, 3) := by decide +kernel
theorem dX7_tear_23 : decode cX7_tear 23 = .ok (.aload_n 0, 1) := by decide +kernel
theorem dX7_tear_24 : decode cX7_tear 24 = .ok (.getfield 33, 3) := by decide +kernel
theorem dX7_tear_27 : decode cX7_tear 27 = .ok (.invokevirtual 108, 3) := by decide +kernel
theorem dX7_tear_30 : decode cX7_tear 30 = .ok (.iload_n 1, 1) := by decide +kernel
theorem dX7_tear_31 : decode cX7_tear 31 = .ok (.ireturn, 1) := by decide +kernel
theorem dX7_judge_0 : decode cX7_judge 0 = .ok (.aload_n 0, 1) := by decide +kernel
theorem dX7_judge_1 : decode cX7_judge 1 = .ok (.getfield 33, 3) := by decide +kernel
theorem dX7_judge_4 : decode cX7_judge 4 = .ok (.aload_n 0, 1) := by decide +kernel
theorem dX7_judge_5 : decode cX7_judge 5 = .ok (.invokevirtual 127, 3) := by decide +kernel
theorem dX7_judge_8 : decode cX7_judge 8 = .ok (.invokevirtual 131, 3) := by decide +kernel
theorem dX7_judge_11 : decode cX7_judge 11 = .ok (.invokevirtual 269, 3) := by decide +kernel
theorem dX7_judge_14 : decode cX7_judge 14 = .ok (.ireturn, 1) := by decide +kernel
theorem dX7_seed_0 : decode cX7_seed 0 = .ok (.iload_n 1, 1) := by decide +kernel
theorem dX7_seed_1 : decode cX7_seed 1 = .ok (.ifCond .ge 6, 3) := by decide +kernel
theorem dX7_seed_4 : decode cX7_seed 4 = .ok (.ldc 75, 2) := by decide +kernel
theorem dX7_seed_6 : decode cX7_seed 6 = .ok (.ireturn, 1) := by decide +kernel
theorem dX7_seed_7 : decode cX7_seed 7 = .ok (.aload_n 0, 1) := by decide +kernel
theorem dX7_seed_8 : decode cX7_seed 8 = .ok (.getfield 71, 3) := by decide +kernel
theorem dX7_seed_11 : decode cX7_seed 11 = .ok (.istore_n 2, 1) := by decide +kernel
theorem dX7_seed_12 : decode cX7_seed 12 = .ok (.aload_n 0, 1) := by decide +kernel
theorem dX7_seed_13 : decode cX7_seed 13 = .ok (.iload_n 1, 1) := by decide +kernel
theorem dX7_seed_14 : decode cX7_seed 14 = .ok (.putfield 71, 3) := by decide +kernel
theorem dX7_seed_17 : decode cX7_seed 17 = .ok (.iload_n 2, 1) := by decide +kernel
theorem dX7_seed_18 : decode cX7_seed 18 = .ok (.ireturn, 1) := by decide +kernel
theorem dX7_keep_0 : decode cX7_keep 0 = .ok (.iload_n 1, 1) := by decide +kernel
theorem dX7_keep_1 : decode cX7_keep 1 = .ok (.ifCond .lt 8, 3) := by decide +kernel
theorem dX7_keep_4 : decode cX7_keep 4 = .ok (.iload_n 1, 1) := by decide +kernel
theorem dX7_keep_5 : decode cX7_keep 5 = .ok (.iconst 2, 1) := by decide +kernel
theorem dX7_keep_6 : decode cX7_keep 6 = .ok (.if_icmp .lt 6, 3) := by decide +kernel
theorem dX7_keep_9 : decode cX7_keep 9 = .ok (.ldc 148, 2) := by decide +kernel
theorem dX7_keep_11 : decode cX7_keep 11 = .ok (.ireturn, 1) := by decide +kernel
theorem dX7_keep_12 : decode cX7_keep 12 = .ok (.aload_n 0, 1) := by decide +kernel
theorem dX7_keep_13 : decode cX7_keep 13 = .ok (.getfield 39, 3) := by decide +kernel
theorem dX7_keep_16 : decode cX7_keep 16 = .ok (.iload_n 1, 1) := by decide +kernel
theorem dX7_keep_17 : decode cX7_keep 17 = .ok (.aload_n 0, 1) := by decide +kernel
theorem dX7_keep_18 : decode cX7_keep 18 = .ok (.getfield 67, 3) := by decide +kernel
theorem dX7_keep_21 : decode cX7_keep 21 = .ok (.aastore, 1) := by decide +kernel
theorem dX7_keep_22 : decode cX7_keep 22 = .ok (.aload_n 0, 1) := by decide +kernel
theorem dX7_keep_23 : decode cX7_keep 23 = .ok (.getfield 43, 3) := by decide +kernel
theorem dX7_keep_26 : decode cX7_keep 26 = .ok (.iload_n 1, 1) := by decide +kernel
theorem dX7_keep_27 : decode cX7_keep 27 = .ok (.aload_n 0, 1) := by decide +kernel
theorem dX7_keep_28 : decode cX7_keep 28 = .ok (.getfield 71, 3) := by decide +kernel
theorem dX7_keep_31 : decode cX7_keep 31 = .ok (.iastore, 1) := by decide +kernel
theorem dX7_keep_32 : decode cX7_keep 32 = .ok (.aload_n 0, 1) := by decide +kernel
theorem dX7_keep_33 : decode cX7_keep 33 = .ok (.getfield 19, 3) := by decide +kernel
theorem dX7_keep_36 : decode cX7_keep 36 = .ok (.invokevirtual 104, 3) := by decide +kernel
theorem dX7_keep_39 : decode cX7_keep 39 = .ok (.iconst 1, 1) := by decide +kernel
theorem dX7_keep_40 : decode cX7_keep 40 = .ok (.ireturn, 1) := by decide +kernel
theorem dX7_goBack_0 : decode cX7_goBack 0 = .ok (.iload_n 1, 1) := by decide +kernel
theorem dX7_goBack_1 : decode cX7_goBack 1 = .ok (.ifCond .lt 8, 3) := by decide +kernel
theorem dX7_goBack_4 : decode cX7_goBack 4 = .ok (.iload_n 1, 1) := by decide +kernel
theorem dX7_goBack_5 : decode cX7_goBack 5 = .ok (.iconst 2, 1) := by decide +kernel
theorem dX7_goBack_6 : decode cX7_goBack 6 = .ok (.if_icmp .lt 6, 3) := by decide +kernel
theorem dX7_goBack_9 : decode cX7_goBack 9 = .ok (.ldc 148, 2) := by decide +kernel
theorem dX7_goBack_11 : decode cX7_goBack 11 = .ok (.ireturn, 1) := by decide +kernel
theorem dX7_goBack_12 : decode cX7_goBack 12 = .ok (.aload_n 0, 1) := by decide +kernel
theorem dX7_goBack_13 : decode cX7_goBack 13 = .ok (.getfield 39, 3) := by decide +kernel
theorem dX7_goBack_16 : decode cX7_goBack 16 = .ok (.iload_n 1, 1) := by decide +kernel
theorem dX7_goBack_17 : decode cX7_goBack 17 = .ok (.aaload, 1) := by decide +kernel
theorem dX7_goBack_18 : decode cX7_goBack 18 = .ok (.astore_n 2, 1) := by decide +kernel
theorem dX7_goBack_19 : decode cX7_goBack 19 = .ok (.aload_n 2, 1) := by decide +kernel
theorem dX7_goBack_20 : decode cX7_goBack 20 = .ok (.ifnonnull 6, 3) := by decide +kernel
theorem dX7_goBack_23 : decode cX7_goBack 23 = .ok (.ldc 177, 2) := by decide +kernel
theorem dX7_goBack_25 : decode cX7_goBack 25 = .ok (.ireturn, 1) := by decide +kernel
theorem dX7_goBack_26 : decode cX7_goBack 26 = .ok (.aload_n 0, 1) := by decide +kernel
theorem dX7_goBack_27 : decode cX7_goBack 27 = .ok (.aload_n 2, 1) := by decide +kernel
theorem dX7_goBack_28 : decode cX7_goBack 28 = .ok (.putfield 67, 3) := by decide +kernel
theorem dX7_goBack_31 : decode cX7_goBack 31 = .ok (.aload_n 0, 1) := by decide +kernel
theorem dX7_goBack_32 : decode cX7_goBack 32 = .ok (.aload_n 0, 1) := by decide +kernel
theorem dX7_goBack_33 : decode cX7_goBack 33 = .ok (.getfield 43, 3) := by decide +kernel
theorem dX7_goBack_36 : decode cX7_goBack 36 = .ok (.iload_n 1, 1) := by decide +kernel
theorem dX7_goBack_37 : decode cX7_goBack 37 = .ok (.iaload, 1) := by decide +kernel
theorem dX7_goBack_38 : decode cX7_goBack 38 = .ok (.putfield 71, 3) := by decide +kernel
theorem dX7_goBack_41 : decode cX7_goBack 41 = .ok (.aload_n 0, 1) := by decide +kernel
theorem dX7_goBack_42 : decode cX7_goBack 42 = .ok (.getfield 19, 3) := by decide +kernel
theorem dX7_goBack_45 : decode cX7_goBack 45 = .ok (.invokevirtual 104, 3) := by decide +kernel
theorem dX7_goBack_48 : decode cX7_goBack 48 = .ok (.iconst 1, 1) := by decide +kernel
theorem dX7_goBack_49 : decode cX7_goBack 49 = .ok (.ireturn, 1) := by decide +kernel
theorem dX7_draw_0 : decode cX7_draw 0 = .ok (.aload_n 0, 1) := by decide +kernel
theorem dX7_draw_1 : decode cX7_draw 1 = .ok (.aload_n 0, 1) := by decide +kernel
theorem dX7_draw_2 : decode cX7_draw 2 = .ok (.getfield 71, 3) := by decide +kernel
theorem dX7_draw_5 : decode cX7_draw 5 = .ok (.i2l, 1) := by decide +kernel
theorem dX7_draw_6 : decode cX7_draw 6 = .ok (.ldc2_w 272, 3) := by decide +kernel
theorem dX7_draw_9 : decode cX7_draw 9 = .ok (.lmul, 1) := by decide +kernel
theorem dX7_draw_10 : decode cX7_draw 10 = .ok (.ldc2_w 274, 3) := by decide +kernel
theorem dX7_draw_13 : decode cX7_draw 13 = .ok (.ladd, 1) := by decide +kernel
theorem dX7_draw_14 : decode cX7_draw 14 = .ok (.ldc2_w 276, 3) := by decide +kernel
theorem dX7_draw_17 : decode cX7_draw 17 = .ok (.land, 1) := by decide +kernel
theorem dX7_draw_18 : decode cX7_draw 18 = .ok (.l2i, 1) := by decide +kernel
theorem dX7_draw_19 : decode cX7_draw 19 = .ok (.putfield 71, 3) := by decide +kernel
theorem dX7_draw_22 : decode cX7_draw 22 = .ok (.iload_n 1, 1) := by decide +kernel
theorem dX7_draw_23 : decode cX7_draw 23 = .ok (.ifCond .le 16, 3) := by decide +kernel
theorem dX7_draw_26 : decode cX7_draw 26 = .ok (.aload_n 0, 1) := by decide +kernel
theorem dX7_draw_27 : decode cX7_draw 27 = .ok (.getfield 71, 3) := by decide +kernel
theorem dX7_draw_30 : decode cX7_draw 30 = .ok (.ldc_w 278, 3) := by decide +kernel
theorem dX7_draw_33 : decode cX7_draw 33 = .ok (.idiv, 1) := by decide +kernel
theorem dX7_draw_34 : decode cX7_draw 34 = .ok (.iload_n 1, 1) := by decide +kernel
theorem dX7_draw_35 : decode cX7_draw 35 = .ok (.irem, 1) := by decide +kernel
theorem dX7_draw_36 : decode cX7_draw 36 = .ok (.goto 4, 3) := by decide +kernel
theorem dX7_draw_39 : decode cX7_draw 39 = .ok (.iconst 0, 1) := by decide +kernel
theorem dX7_draw_40 : decode cX7_draw 40 = .ok (.ireturn, 1) := by decide +kernel
theorem dX7_rulesGoneBy_0 : decode cX7_rulesGoneBy 0 = .ok (.aload_n 0, 1) := by decide +kernel
theorem dX7_rulesGoneBy_1 : decode cX7_rulesGoneBy 1 = .ok (.getfield 57, 3) := by decide +kernel
theorem dX7_rulesGoneBy_4 : decode cX7_rulesGoneBy 4 = .ok (.invokevirtual 247, 3) := by decide +kernel
theorem dX7_rulesGoneBy_7 : decode cX7_rulesGoneBy 7 = .ok (.aload_n 0, 1) := by decide +kernel
theorem dX7_rulesGoneBy_8 : decode cX7_rulesGoneBy 8 = .ok (.getfield 67, 3) := by decide +kernel
theorem dX7_rulesGoneBy_11 : decode cX7_rulesGoneBy 11 = .ok (.getfield 121, 3) := by decide +kernel
theorem dX7_rulesGoneBy_14 : decode cX7_rulesGoneBy 14 = .ok (.iconst (-1), 1) := by decide +kernel
theorem dX7_rulesGoneBy_15 : decode cX7_rulesGoneBy 15 = .ok (.ixor, 1) := by decide +kernel
theorem dX7_rulesGoneBy_16 : decode cX7_rulesGoneBy 16 = .ok (.iand, 1) := by decide +kernel
theorem dX7_rulesGoneBy_17 : decode cX7_rulesGoneBy 17 = .ok (.ireturn, 1) := by decide +kernel
theorem dX7_trialNow_0 : decode cX7_trialNow 0 = .ok (.new 132, 3) := by decide +kernel
theorem dX7_trialNow_3 : decode cX7_trialNow 3 = .ok (.dup, 1) := by decide +kernel
theorem dX7_trialNow_4 : decode cX7_trialNow 4 = .ok (.aload_n 0, 1) := by decide +kernel
theorem dX7_trialNow_5 : decode cX7_trialNow 5 = .ok (.getfield 57, 3) := by decide +kernel
theorem dX7_trialNow_8 : decode cX7_trialNow 8 = .ok (.aload_n 0, 1) := by decide +kernel
theorem dX7_trialNow_9 : decode cX7_trialNow 9 = .ok (.getfield 67, 3) := by decide +kernel
theorem dX7_trialNow_12 : decode cX7_trialNow 12 = .ok (.getfield 115, 3) := by decide +kernel
theorem dX7_trialNow_15 : decode cX7_trialNow 15 = .ok (.aload_n 0, 1) := by decide +kernel
theorem dX7_trialNow_16 : decode cX7_trialNow 16 = .ok (.invokevirtual 178, 3) := by decide +kernel
theorem dX7_trialNow_19 : decode cX7_trialNow 19 = .ok (.invokespecial 279, 3) := by decide +kernel
theorem dX7_trialNow_22 : decode cX7_trialNow 22 = .ok (.areturn, 1) := by decide +kernel
theorem dX7_has_0 : decode cX7_has 0 = .ok (.iload_n 0, 1) := by decide +kernel
theorem dX7_has_1 : decode cX7_has 1 = .ok (.iload_n 1, 1) := by decide +kernel
theorem dX7_has_2 : decode cX7_has 2 = .ok (.ishr, 1) := by decide +kernel
theorem dX7_has_3 : decode cX7_has 3 = .ok (.iconst 1, 1) := by decide +kernel
theorem dX7_has_4 : decode cX7_has 4 = .ok (.iand, 1) := by decide +kernel
theorem dX7_has_5 : decode cX7_has 5 = .ok (.ifCond .eq 7, 3) := by decide +kernel
theorem dX7_has_8 : decode cX7_has 8 = .ok (.iconst 1, 1) := by decide +kernel
theorem dX7_has_9 : decode cX7_has 9 = .ok (.goto 4, 3) := by decide +kernel
theorem dX7_has_12 : decode cX7_has 12 = .ok (.iconst 0, 1) := by decide +kernel
theorem dX7_has_13 : decode cX7_has 13 = .ok (.ireturn, 1) := by decide +kernel
theorem dX7_put_0 : decode cX7_put 0 = .ok (.iload_n 2, 1) := by decide +kernel
theorem dX7_put_1 : decode cX7_put 1 = .ok (.ifCond .eq 11, 3) := by decide +kernel
theorem dX7_put_4 : decode cX7_put 4 = .ok (.iload_n 0, 1) := by decide +kernel
theorem dX7_put_5 : decode cX7_put 5 = .ok (.iconst 1, 1) := by decide +kernel
theorem dX7_put_6 : decode cX7_put 6 = .ok (.iload_n 1, 1) := by decide +kernel
theorem dX7_put_7 : decode cX7_put 7 = .ok (.ishl, 1) := by decide +kernel
theorem dX7_put_8 : decode cX7_put 8 = .ok (.ior, 1) := by decide +kernel
theorem dX7_put_9 : decode cX7_put 9 = .ok (.goto 10, 3) := by decide +kernel
theorem dX7_put_12 : decode cX7_put 12 = .ok (.iload_n 0, 1) := by decide +kernel
theorem dX7_put_13 : decode cX7_put 13 = .ok (.iconst 1, 1) := by decide +kernel
theorem dX7_put_14 : decode cX7_put 14 = .ok (.iload_n 1, 1) := by decide +kernel
theorem dX7_put_15 : decode cX7_put 15 = .ok (.ishl, 1) := by decide +kernel
theorem dX7_put_16 : decode cX7_put 16 = .ok (.iconst (-1), 1) := by decide +kernel
theorem dX7_put_17 : decode cX7_put 17 = .ok (.ixor, 1) := by decide +kernel
theorem dX7_put_18 : decode cX7_put 18 = .ok (.iand, 1) := by decide +kernel
theorem dX7_put_19 : decode cX7_put 19 = .ok (.ireturn, 1) := by decide +kernel
theorem dX7_denialOf_0 : decode cX7_denialOf 0 = .ok (.iload_n 0, 1) := by decide +kernel
theorem dX7_denialOf_1 : decode cX7_denialOf 1 = .ok (.iconst 1, 1) := by decide +kernel
theorem dX7_denialOf_2 : decode cX7_denialOf 2 = .ok (.ixor, 1) := by decide +kernel
theorem dX7_denialOf_3 : decode cX7_denialOf 3 = .ok (.ireturn, 1) := by decide +kernel
theorem dX8_init_0 : decode cX8_init 0 = .ok (.aload_n 0, 1) := by decide +kernel
theorem dX8_init_1 : decode cX8_init 1 = .ok (.invokespecial 1, 3) := by decide +kernel
theorem dX8_init_4 : decode cX8_init 4 = .ok (.aload_n 0, 1) := by decide +kernel
theorem dX8_init_5 : decode cX8_init 5 = .ok (.bipush 10, 2) := by decide +kernel
theorem dX8_init_7 : decode cX8_init 7 = .ok (.newarray .int, 2) := by decide +kernel
theorem dX8_init_9 : decode cX8_init 9 = .ok (.putfield 7, 3) := by decide +kernel
theorem dX8_init_12 : decode cX8_init 12 = .ok (.aload_n 0, 1) := by decide +kernel
theorem dX8_init_13 : decode cX8_init 13 = .ok (.bipush 10, 2) := by decide +kernel
theorem dX8_init_15 : decode cX8_init 15 = .ok (.newarray .int, 2) := by decide +kernel
theorem dX8_init_17 : decode cX8_init 17 = .ok (.putfield 13, 3) := by decide +kernel
theorem dX8_init_20 : decode cX8_init 20 = .ok (.aload_n 0, 1) := by decide +kernel
theorem dX8_init_21 : decode cX8_init 21 = .ok (.bipush 10, 2) := by decide +kernel
theorem dX8_init_23 : decode cX8_init 23 = .ok (.newarray .int, 2) := by decide +kernel
theorem dX8_init_25 : decode cX8_init 25 = .ok (.putfield 16, 3) := by decide +kernel
theorem dX8_init_28 : decode cX8_init 28 = .ok (.aload_n 0, 1) := by decide +kernel
theorem dX8_init_29 : decode cX8_init 29 = .ok (.iconst 4, 1) := by decide +kernel
theorem dX8_init_30 : decode cX8_init 30 = .ok (.newarray .int, 2) := by decide +kernel
theorem dX8_init_32 : decode cX8_init 32 = .ok (.putfield 19, 3) := by decide +kernel
theorem dX8_init_35 : decode cX8_init 35 = .ok (.aload_n 0, 1) := by decide +kernel
theorem dX8_init_36 : decode cX8_init 36 = .ok (.sipush 240, 3) := by decide +kernel
theorem dX8_init_39 : decode cX8_init 39 = .ok (.newarray .int, 2) := by decide +kernel
theorem dX8_init_41 : decode cX8_init 41 = .ok (.putfield 22, 3) := by decide +kernel
theorem dX8_init_44 : decode cX8_init 44 = .ok (.aload_n 0, 1) := by decide +kernel
theorem dX8_init_45 : decode cX8_init 45 = .ok (.iconst (-1), 1) := by decide +kernel
theorem dX8_init_46 : decode cX8_init 46 = .ok (.putfield 25, 3) := by decide +kernel
theorem dX8_init_49 : decode cX8_init 49 = .ok (.aload_n 0, 1) := by decide +kernel
theorem dX8_init_50 : decode cX8_init 50 = .ok (.bipush 10, 2) := by decide +kernel
theorem dX8_init_52 : decode cX8_init 52 = .ok (.newarray .int, 2) := by decide +kernel
theorem dX8_init_54 : decode cX8_init 54 = .ok (.putfield 29, 3) := by decide +kernel
theorem dX8_init_57 : decode cX8_init 57 = .ok (.aload_n 0, 1) := by decide +kernel
theorem dX8_init_58 : decode cX8_init 58 = .ok (.bipush 10, 2) := by decide +kernel
theorem dX8_init_60 : decode cX8_init 60 = .ok (.newarray .int, 2) := by decide +kernel
theorem dX8_init_62 : decode cX8_init 62 = .ok (.putfield 32, 3) := by decide +kernel
theorem dX8_init_65 : decode cX8_init 65 = .ok (.aload_n 0, 1) := by decide +kernel
theorem dX8_init_66 : decode cX8_init 66 = .ok (.bipush 10, 2) := by decide +kernel
theorem dX8_init_68 : decode cX8_init 68 = .ok (.newarray .int, 2) := by decide +kernel
theorem dX8_init_70 : decode cX8_init 70 = .ok (.putfield 35, 3) := by decide +kernel
theorem dX8_init_73 : decode cX8_init 73 = .ok (.aload_n 0, 1) := by decide +kernel
theorem dX8_init_74 : decode cX8_init 74 = .ok (.bipush 80, 2) := by decide +kernel
theorem dX8_init_76 : decode cX8_init 76 = .ok (.newarray .int, 2) := by decide +kernel
theorem dX8_init_78 : decode cX8_init 78 = .ok (.putfield 38, 3) := by decide +kernel
theorem dX8_init_81 : decode cX8_init 81 = .ok (.aload_n 0, 1) := by decide +kernel
theorem dX8_init_82 : decode cX8_init 82 = .ok (.bipush 10, 2) := by decide +kernel
theorem dX8_init_84 : decode cX8_init 84 = .ok (.newarray .long, 2) := by decide +kernel
theorem dX8_init_86 : decode cX8_init 86 = .ok (.putfield 41, 3) := by decide +kernel
theorem dX8_init_89 : decode cX8_init 89 = .ok (.aload_n 0, 1) := by decide +kernel
theorem dX8_init_90 : decode cX8_init 90 = .ok (.bipush 6, 2) := by decide +kernel
theorem dX8_init_92 : decode cX8_init 92 = .ok (.newarray .int, 2) := by decide +kernel
theorem dX8_init_94 : decode cX8_init 94 = .ok (.putfield 45, 3) := by decide +kernel
theorem dX8_init_97 : decode cX8_init 97 = .ok (.aload_n 0, 1) := by decide +kernel
theorem dX8_init_98 : decode cX8_init 98 = .ok (.bipush 6, 2) := by decide +kernel
theorem dX8_init_100 : decode cX8_init 100 = .ok (.newarray .int, 2) := by decide +kernel
theorem dX8_init_102 : decode cX8_init 102 = .ok (.putfield 48, 3) := by decide +kernel
theorem dX8_init_105 : decode cX8_init 105 = .ok (.aload_n 0, 1) := by decide +kernel
theorem dX8_init_106 : decode cX8_init 106 = .ok (.bipush 6, 2) := by decide +kernel
theorem dX8_init_108 : decode cX8_init 108 = .ok (.newarray .boolean, 2) := by decide +kernel
theorem dX8_init_110 : decode cX8_init 110 = .ok (.putfield 51, 3) := by decide +kernel
theorem dX8_init_113 : decode cX8_init 113 = .ok (.aload_n 0, 1) := by decide +kernel
theorem dX8_init_114 : decode cX8_init 114 = .ok (.bipush 16, 2) := by decide +kernel
theorem dX8_init_116 : decode cX8_init 116 = .ok (.newarray .int, 2) := by decide +kernel
theorem dX8_init_118 : decode cX8_init 118 = .ok (.putfield 55, 3) := by decide +kernel
theorem dX8_init_121 : decode cX8_init 121 = .ok (.aload_n 0, 1) := by decide +kernel
theorem dX8_init_122 : decode cX8_init 122 = .ok (.bipush 15, 2) := by decide +kernel
theorem dX8_init_124 : decode cX8_init 124 = .ok (.newarray .int, 2) := by decide +kernel
theorem dX8_init_126 : decode cX8_init 126 = .ok (.putfield 58, 3) := by decide +kernel
theorem dX8_init_129 : decode cX8_init 129 = .ok (.aload_n 0, 1) := by decide +kernel
theorem dX8_init_130 : decode cX8_init 130 = .ok (.bipush 15, 2) := by decide +kernel
theorem dX8_init_132 : decode cX8_init 132 = .ok (.newarray .int, 2) := by decide +kernel
theorem dX8_init_134 : decode cX8_init 134 = .ok (.putfield 61, 3) := by decide +kernel
theorem dX8_init_137 : decode cX8_init 137 = .ok (.aload_n 0, 1) := by decide +kernel
theorem dX8_init_138 : decode cX8_init 138 = .ok (.bipush 10, 2) := by decide +kernel
theorem dX8_init_140 : decode cX8_init 140 = .ok (.newarray .int, 2) := by decide +kernel
theorem dX8_init_142 : decode cX8_init 142 = .ok (.putfield 64, 3) := by decide +kernel
theorem dX8_init_145 : decode cX8_init 145 = .ok (.aload_n 0, 1) := by decide +kernel
theorem dX8_init_146 : decode cX8_init 146 = .ok (.iconst 2, 1) := by decide +kernel
theorem dX8_init_147 : decode cX8_init 147 = .ok (.newarray .boolean, 2) := by decide +kernel
theorem dX8_init_149 : decode cX8_init 149 = .ok (.putfield 67, 3) := by decide +kernel
theorem dX8_init_152 : decode cX8_init 152 = .ok (.aload_n 0, 1) := by decide +kernel
theorem dX8_init_153 : decode cX8_init 153 = .ok (.iconst 0, 1) := by decide +kernel
theorem dX8_init_154 : decode cX8_init 154 = .ok (.putfield 70, 3) := by decide +kernel
theorem dX8_init_157 : decode cX8_init 157 = .ok (.return_, 1) := by decide +kernel
theorem dX8_in_0 : decode cX8_in 0 = .ok (.lload_n 0, 1) := by decide +kernel
theorem dX8_in_1 : decode cX8_in 1 = .ok (.lload_n 2, 1) := by decide +kernel
theorem dX8_in_2 : decode cX8_in 2 = .ok (.lcmp, 1) := by decide +kernel
theorem dX8_in_3 : decode cX8_in 3 = .ok (.ifCond .lt 14, 3) := by decide +kernel
theorem dX8_in_6 : decode cX8_in 6 = .ok (.lload_n 0, 1) := by decide +kernel
theorem dX8_in_7 : decode cX8_in 7 = .ok (.lload 4, 2) := by decide +kernel
theorem dX8_in_9 : decode cX8_in 9 = .ok (.lcmp, 1) := by decide +kernel
theorem dX8_in_10 : decode cX8_in 10 = .ok (.ifCond .gt 7, 3) := by decide +kernel
theorem dX8_in_13 : decode cX8_in 13 = .ok (.iconst 1, 1) := by decide +kernel
theorem dX8_in_14 : decode cX8_in 14 = .ok (.goto 4, 3) := by decide +kernel
theorem dX8_in_17 : decode cX8_in 17 = .ok (.iconst 0, 1) := by decide +kernel
theorem dX8_in_18 : decode cX8_in 18 = .ok (.ireturn, 1) := by decide +kernel
theorem dX8_has_0 : decode cX8_has 0 = .ok (.iload_n 0, 1) := by decide +kernel
theorem dX8_has_1 : decode cX8_has 1 = .ok (.iload_n 1, 1) := by decide +kernel
theorem dX8_has_2 : decode cX8_has 2 = .ok (.ishr, 1) := by decide +kernel
theorem dX8_has_3 : decode cX8_has 3 = .ok (.iconst 1, 1) := by decide +kernel
theorem dX8_has_4 : decode cX8_has 4 = .ok (.iand, 1) := by decide +kernel
theorem dX8_has_5 : decode cX8_has 5 = .ok (.iconst 1, 1) := by decide +kernel
theorem dX8_has_6 : decode cX8_has 6 = .ok (.if_icmp .ne 7, 3) := by decide +kernel
theorem dX8_has_9 : decode cX8_has 9 = .ok (.iconst 1, 1) := by decide +kernel
theorem dX8_has_10 : decode cX8_has 10 = .ok (.goto 4, 3) := by decide +kernel
theorem dX8_has_13 : decode cX8_has 13 = .ok (.iconst 0, 1) := by decide +kernel
theorem dX8_has_14 : decode cX8_has 14 = .ok (.ireturn, 1) := by decide +kernel
theorem dX8_bits_0 : decode cX8_bits 0 = .ok (.iconst 0, 1) := by decide +kernel
theorem dX8_bits_1 : decode cX8_bits 1 = .ok (.istore_n 1, 1) := by decide +kernel
theorem dX8_bits_2 : decode cX8_bits 2 = .ok (.iconst 0, 1) := by decide +kernel
theorem dX8_bits_3 : decode cX8_bits 3 = .ok (.istore_n 2, 1) := by decide +kernel
theorem dX8_bits_4 : decode cX8_bits 4 = .ok (.iload_n 2, 1) := by decide +kernel
theorem dX8_bits_5 : decode cX8_bits 5 = .ok (.bipush 16, 2) := by decide +kernel
theorem dX8_bits_7 : decode cX8_bits 7 = .ok (.if_icmp .ge 17, 3) := by decide +kernel
theorem dX8_bits_10 : decode cX8_bits 10 = .ok (.iload_n 1, 1) := by decide +kernel
theorem dX8_bits_11 : decode cX8_bits 11 = .ok (.iload_n 0, 1) := by decide +kernel
theorem dX8_bits_12 : decode cX8_bits 12 = .ok (.iload_n 2, 1) := by decide +kernel
theorem dX8_bits_13 : decode cX8_bits 13 = .ok (.ishr, 1) := by decide +kernel
theorem dX8_bits_14 : decode cX8_bits 14 = .ok (.iconst 1, 1) := by decide +kernel
theorem dX8_bits_15 : decode cX8_bits 15 = .ok (.iand, 1) := by decide +kernel
theorem dX8_bits_16 : decode cX8_bits 16 = .ok (.iadd, 1) := by decide +kernel
theorem dX8_bits_17 : decode cX8_bits 17 = .ok (.istore_n 1, 1) := by decide +kernel
theorem dX8_bits_18 : decode cX8_bits 18 = .ok (.iinc 2 1, 3) := by decide +kernel
theorem dX8_bits_21 : decode cX8_bits 21 = .ok (.goto (-17), 3) := by decide +kernel
theorem dX8_bits_24 : decode cX8_bits 24 = .ok (.iload_n 1, 1) := by decide +kernel
theorem dX8_bits_25 : decode cX8_bits 25 = .ok (.ireturn, 1) := by decide +kernel
theorem dX8_isSaying_0 : decode cX8_isSaying 0 = .ok (.iload_n 1, 1) := by decide +kernel
theorem dX8_isSaying_1 : decode cX8_isSaying 1 = .ok (.i2l, 1) := by decide +kernel
theorem dX8_isSaying_2 : decode cX8_isSaying 2 = .ok (.lconst 0, 1) := by decide +kernel
theorem dX8_isSaying_3 : decode cX8_isSaying 3 = .ok (.iconst 2, 1) := by decide +kernel
theorem dX8_isSaying_4 : decode cX8_isSaying 4 = .ok (.aload_n 0, 1) := by decide +kernel
theorem dX8_isSaying_5 : decode cX8_isSaying 5 = .ok (.getfield 70, 3) := by decide +kernel
theorem dX8_isSaying_8 : decode cX8_isSaying 8 = .ok (.imul, 1) := by decide +kernel
theorem dX8_isSaying_9 : decode cX8_isSaying 9 = .ok (.iconst 1, 1) := by decide +kernel
theorem dX8_isSaying_10 : decode cX8_isSaying 10 = .ok (.isub, 1) := by decide +kernel
theorem dX8_isSaying_11 : decode cX8_isSaying 11 = .ok (.i2l, 1) := by decide +kernel
theorem dX8_isSaying_12 : decode cX8_isSaying 12 = .ok (.invokestatic 73, 3) := by decide +kernel
theorem dX8_isSaying_15 : decode cX8_isSaying 15 = .ok (.ireturn, 1) := by decide +kernel
theorem dX8_isSet_0 : decode cX8_isSet 0 = .ok (.iload_n 1, 1) := by decide +kernel
theorem dX8_isSet_1 : decode cX8_isSet 1 = .ok (.i2l, 1) := by decide +kernel
theorem dX8_isSet_2 : decode cX8_isSet 2 = .ok (.lconst 0, 1) := by decide +kernel
theorem dX8_isSet_3 : decode cX8_isSet 3 = .ok (.iconst 1, 1) := by decide +kernel
theorem dX8_isSet_4 : decode cX8_isSet 4 = .ok (.iconst 2, 1) := by decide +kernel
theorem dX8_isSet_5 : decode cX8_isSet 5 = .ok (.aload_n 0, 1) := by decide +kernel
theorem dX8_isSet_6 : decode cX8_isSet 6 = .ok (.getfield 70, 3) := by decide +kernel
theorem dX8_isSet_9 : decode cX8_isSet 9 = .ok (.imul, 1) := by decide +kernel
theorem dX8_isSet_10 : decode cX8_isSet 10 = .ok (.ishl, 1) := by decide +kernel
theorem dX8_isSet_11 : decode cX8_isSet 11 = .ok (.iconst 1, 1) := by decide +kernel
theorem dX8_isSet_12 : decode cX8_isSet 12 = .ok (.isub, 1) := by decide +kernel
theorem dX8_isSet_13 : decode cX8_isSet 13 = .ok (.i2l, 1) := by decide +kernel
theorem dX8_isSet_14 : decode cX8_isSet 14 = .ok (.invokestatic 73, 3) := by decide +kernel
theorem dX8_isSet_17 : decode cX8_isSet 17 = .ok (.ireturn, 1) := by decide +kernel
theorem dX8_isRule_0 : decode cX8_isRule 0 = .ok (.iload_n 1, 1) := by decide +kernel
theorem dX8_isRule_1 : decode cX8_isRule 1 = .ok (.i2l, 1) := by decide +kernel
theorem dX8_isRule_2 : decode cX8_isRule 2 = .ok (.lconst 0, 1) := by decide +kernel
theorem dX8_isRule_3 : decode cX8_isRule 3 = .ok (.aload_n 0, 1) := by decide +kernel
theorem dX8_isRule_4 : decode cX8_isRule 4 = .ok (.getfield 77, 3) := by decide +kernel
theorem dX8_isRule_7 : decode cX8_isRule 7 = .ok (.iconst 1, 1) := by decide +kernel
theorem dX8_isRule_8 : decode cX8_isRule 8 = .ok (.isub, 1) := by decide +kernel
theorem dX8_isRule_9 : decode cX8_isRule 9 = .ok (.i2l, 1) := by decide +kernel
theorem dX8_isRule_10 : decode cX8_isRule 10 = .ok (.invokestatic 73, 3) := by decide +kernel
theorem dX8_isRule_13 : decode cX8_isRule 13 = .ok (.ireturn, 1) := by decide +kernel
theorem dX8_denial_0 : decode cX8_denial 0 = .ok (.iload_n 0, 1) := by decide +kernel
theorem dX8_denial_1 : decode cX8_denial 1 = .ok (.iconst 2, 1) := by decide +kernel
theorem dX8_denial_2 : decode cX8_denial 2 = .ok (.irem, 1) := by decide +kernel
theorem dX8_denial_3 : decode cX8_denial 3 = .ok (.ifCond .ne 9, 3) := by decide +kernel
theorem dX8_denial_6 : decode cX8_denial 6 = .ok (.iload_n 0, 1) := by decide +kernel
theorem dX8_denial_7 : decode cX8_denial 7 = .ok (.iconst 1, 1) := by decide +kernel
theorem dX8_denial_8 : decode cX8_denial 8 = .ok (.iadd, 1) := by decide +kernel
theorem dX8_denial_9 : decode cX8_denial 9 = .ok (.goto 6, 3) := by decide +kernel
theorem dX8_denial_12 : decode cX8_denial 12 = .ok (.iload_n 0, 1) := by decide +kernel
theorem dX8_denial_13 : decode cX8_denial 13 = .ok (.iconst 1, 1) := by decide +kernel
theorem dX8_denial_14 : decode cX8_denial 14 = .ok (.isub, 1) := by decide +kernel
theorem dX8_denial_15 : decode cX8_denial 15 = .ok (.ireturn, 1) := by decide +kernel
theorem dX8_feed_0 : decode cX8_feed 0 = .ok (.iload_n 1, 1) := by decide +kernel
theorem dX8_feed_1 : decode cX8_feed 1 = .ok (.i2l, 1) := by decide +kernel
theorem dX8_feed_2 : decode cX8_feed 2 = .ok (.lconst 0, 1) := by decide +kernel
theorem dX8_feed_3 : decode cX8_feed 3 = .ok (.ldc2_w 80, 3) := by decide +kernel
theorem dX8_feed_6 : decode cX8_feed 6 = .ok (.invokestatic 73, 3) := by decide +kernel
theorem dX8_feed_9 : decode cX8_feed 9 = .ok (.ifCond .ne 6, 3) := by decide +kernel
theorem dX8_feed_12 : decode cX8_feed 12 = .ok (.ldc 82, 2) := by decide +kernel
theorem dX8_feed_14 : decode cX8_feed 14 = .ok (.ireturn, 1) := by decide +kernel
theorem dX8_feed_15 : decode cX8_feed 15 = .ok (.aload_n 0, 1) := by decide +kernel
theorem dX8_feed_16 : decode cX8_feed 16 = .ok (.getfield 83, 3) := by decide +kernel
theorem dX8_feed_19 : decode cX8_feed 19 = .ok (.sipush 240, 3) := by decide +kernel
theorem dX8_feed_22 : decode cX8_feed 22 = .ok (.if_icmp .ne 6, 3) := by decide +kernel
theorem dX8_feed_25 : decode cX8_feed 25 = .ok (.ldc 86, 2) := by decide +kernel
theorem dX8_feed_27 : decode cX8_feed 27 = .ok (.ireturn, 1) := by decide +kernel
theorem dX8_feed_28 : decode cX8_feed 28 = .ok (.aload_n 0, 1) := by decide +kernel
theorem dX8_feed_29 : decode cX8_feed 29 = .ok (.getfield 22, 3) := by decide +kernel
theorem dX8_feed_32 : decode cX8_feed 32 = .ok (.aload_n 0, 1) := by decide +kernel
theorem dX8_feed_33 : decode cX8_feed 33 = .ok (.getfield 83, 3) := by decide +kernel
theorem dX8_feed_36 : decode cX8_feed 36 = .ok (.iload_n 1, 1) := by decide +kernel
theorem dX8_feed_37 : decode cX8_feed 37 = .ok (.iastore, 1) := by decide +kernel
theorem dX8_feed_38 : decode cX8_feed 38 = .ok (.aload_n 0, 1) := by decide +kernel
theorem dX8_feed_39 : decode cX8_feed 39 = .ok (.dup, 1) := by decide +kernel
theorem dX8_feed_40 : decode cX8_feed 40 = .ok (.getfield 83, 3) := by decide +kernel
theorem dX8_feed_43 : decode cX8_feed 43 = .ok (.iconst 1, 1) := by decide +kernel
theorem dX8_feed_44 : decode cX8_feed 44 = .ok (.iadd, 1) := by decide +kernel
theorem dX8_feed_45 : decode cX8_feed 45 = .ok (.putfield 83, 3) := by decide +kernel
theorem dX8_feed_48 : decode cX8_feed 48 = .ok (.aload_n 0, 1) := by decide +kernel
theorem dX8_feed_49 : decode cX8_feed 49 = .ok (.getfield 83, 3) := by decide +kernel
theorem dX8_feed_52 : decode cX8_feed 52 = .ok (.ireturn, 1) := by decide +kernel
theorem dX8_here_0 : decode cX8_here 0 = .ok (.aload_n 0, 1) := by decide +kernel
theorem dX8_here_1 : decode cX8_here 1 = .ok (.getfield 87, 3) := by decide +kernel
theorem dX8_here_4 : decode cX8_here 4 = .ok (.aload_n 0, 1) := by decide +kernel
theorem dX8_here_5 : decode cX8_here 5 = .ok (.getfield 83, 3) := by decide +kernel
theorem dX8_here_8 : decode cX8_here 8 = .ok (.if_icmp .ge 30, 3) := by decide +kernel
theorem dX8_here_11 : decode cX8_here 11 = .ok (.aload_n 0, 1) := by decide +kernel
theorem dX8_here_12 : decode cX8_here 12 = .ok (.getfield 22, 3) := by decide +kernel
theorem dX8_here_15 : decode cX8_here 15 = .ok (.aload_n 0, 1) := by decide +kernel
theorem dX8_here_16 : decode cX8_here 16 = .ok (.getfield 87, 3) := by decide +kernel
theorem dX8_here_19 : decode cX8_here 19 = .ok (.iaload, 1) := by decide +kernel
theorem dX8_here_20 : decode cX8_here 20 = .ok (.bipush 32, 2) := by decide +kernel
theorem dX8_here_22 : decode cX8_here 22 = .ok (.if_icmp .ne 16, 3) := by decide +kernel
theorem dX8_here_25 : decode cX8_here 25 = .ok (.aload_n 0, 1) := by decide +kernel
theorem dX8_here_26 : decode cX8_here 26 = .ok (.dup, 1) := by decide +kernel
theorem dX8_here_27 : decode cX8_here 27 = .ok (.getfield 87, 3) := by decide +kernel
theorem dX8_here_30 : decode cX8_here 30 = .ok (.iconst 1, 1) := by decide +kernel
theorem dX8_here_31 : decode cX8_here 31 = .ok (.iadd, 1) := by decide +kernel
theorem dX8_here_32 : decode cX8_here 32 = .ok (.putfield 87, 3) := by decide +kernel
theorem dX8_here_35 : decode cX8_here 35 = .ok (.goto (-35), 3) := by decide +kernel
theorem dX8_here_38 : decode cX8_here 38 = .ok (.aload_n 0, 1) := by decide +kernel
theorem dX8_here_39 : decode cX8_here 39 = .ok (.getfield 87, 3) := by decide +kernel
theorem dX8_here_42 : decode cX8_here 42 = .ok (.aload_n 0, 1) := by decide +kernel
theorem dX8_here_43 : decode cX8_here 43 = .ok (.getfield 83, 3) := by decide +kernel
theorem dX8_here_46 : decode cX8_here 46 = .ok (.if_icmp .ge 15, 3) := by decide +kernel
theorem dX8_here_49 : decode cX8_here 49 = .ok (.aload_n 0, 1) := by decide +kernel
theorem dX8_here_50 : decode cX8_here 50 = .ok (.getfield 22, 3) := by decide +kernel
theorem dX8_here_53 : decode cX8_here 53 = .ok (.aload_n 0, 1) := by decide +kernel
theorem dX8_here_54 : decode cX8_here 54 = .ok (.getfield 87, 3) := by decide +kernel
theorem dX8_here_57 : decode cX8_here 57 = .ok (.iaload, 1) := by decide +kernel
theorem dX8_here_58 : decode cX8_here 58 = .ok (.goto 4, 3) := by decide +kernel
theorem dX8_here_61 : decode cX8_here 61 = .ok (.iconst (-1), 1) := by decide +kernel
theorem dX8_here_62 : decode cX8_here 62 = .ok (.ireturn, 1) := by decide +kernel
theorem dX8_fails_0 : decode cX8_fails 0 = .ok (.aload_n 0, 1) := by decide +kernel
theorem dX8_fails_1 : decode cX8_fails 1 = .ok (.iload_n 2, 1) := by decide +kernel
theorem dX8_fails_2 : decode cX8_fails 2 = .ok (.putfield 25, 3) := by decide +kernel
theorem dX8_fails_5 : decode cX8_fails 5 = .ok (.iload_n 1, 1) := by decide +kernel
theorem dX8_fails_6 : decode cX8_fails 6 = .ok (.ireturn, 1) := by decide +kernel
theorem dX8_takeNumber_0 : decode cX8_takeNumber 0 = .ok (.aload_n 0, 1) := by decide +kernel
theorem dX8_takeNumber_1 : decode cX8_takeNumber 1 = .ok (.invokevirtual 90, 3) := by decide +kernel
theorem dX8_takeNumber_4 : decode cX8_takeNumber 4 = .ok (.istore_n 3, 1) := by decide +kernel
theorem dX8_takeNumber_5 : decode cX8_takeNumber 5 = .ok (.iload_n 3, 1) := by decide +kernel
theorem dX8_takeNumber_6 : decode cX8_takeNumber 6 = .ok (.i2l, 1) := by decide +kernel
theorem dX8_takeNumber_7 : decode cX8_takeNumber 7 = .ok (.ldc2_w 94, 3) := by decide +kernel
theorem dX8_takeNumber_10 : decode cX8_takeNumber 10 = .ok (.ldc2_w 96, 3) := by decide +kernel
theorem dX8_takeNumber_13 : decode cX8_takeNumber 13 = .ok (.invokestatic 73, 3) := by decide +kernel
theorem dX8_takeNumber_16 : decode cX8_takeNumber 16 = .ok (.ifCond .ne 13, 3) := by decide +kernel
theorem dX8_takeNumber_19 : decode cX8_takeNumber 19 = .ok (.aload_n 0, 1) := by decide +kernel
theorem dX8_takeNumber_20 : decode cX8_takeNumber 20 = .ok (.iconst 1, 1) := by decide +kernel
theorem dX8_takeNumber_21 : decode cX8_takeNumber 21 = .ok (.aload_n 0, 1) := by decide +kernel
theorem dX8_takeNumber_22 : decode cX8_takeNumber 22 = .ok (.getfield 87, 3) := by decide +kernel
theorem dX8_takeNumber_25 : decode cX8_takeNumber 25 = .ok (.invokevirtual 98, 3) := by decide +kernel
theorem dX8_takeNumber_28 : decode cX8_takeNumber 28 = .ok (.ireturn, 1) := by decide +kernel
theorem dX8_takeNumber_29 : decode cX8_takeNumber 29 = .ok (.aload_n 0, 1) := by decide +kernel
theorem dX8_takeNumber_30 : decode cX8_takeNumber 30 = .ok (.aload_n 0, 1) := by decide +kernel
theorem dX8_takeNumber_31 : decode cX8_takeNumber 31 = .ok (.getfield 87, 3) := by decide +kernel
theorem dX8_takeNumber_34 : decode cX8_takeNumber 34 = .ok (.putfield 102, 3) := by decide +kernel
theorem dX8_takeNumber_37 : decode cX8_takeNumber 37 = .ok (.aload_n 0, 1) := by decide +kernel
theorem dX8_takeNumber_38 : decode cX8_takeNumber 38 = .ok (.iconst 0, 1) := by decide +kernel
theorem dX8_takeNumber_39 : decode cX8_takeNumber 39 = .ok (.putfield 105, 3) := by decide +kernel
theorem dX8_takeNumber_42 : decode cX8_takeNumber 42 = .ok (.aload_n 0, 1) := by decide +kernel
theorem dX8_takeNumber_43 : decode cX8_takeNumber 43 = .ok (.getfield 87, 3) := by decide +kernel
theorem dX8_takeNumber_46 : decode cX8_takeNumber 46 = .ok (.aload_n 0, 1) := by decide +kernel
theorem dX8_takeNumber_47 : decode cX8_takeNumber 47 = .ok (.getfield 83, 3) := by decide +kernel
theorem dX8_takeNumber_50 : decode cX8_takeNumber 50 = .ok (.if_icmp .ge 79, 3) := by decide +kernel
theorem dX8_takeNumber_53 : decode cX8_takeNumber 53 = .ok (.aload_n 0, 1) := by decide +kernel
theorem dX8_takeNumber_54 : decode cX8_takeNumber 54 = .ok (.getfield 22, 3) := by decide +kernel
theorem dX8_takeNumber_57 : decode cX8_takeNumber 57 = .ok (.aload_n 0, 1) := by decide +kernel
theorem dX8_takeNumber_58 : decode cX8_takeNumber 58 = .ok (.getfield 87, 3) := by decide +kernel
theorem dX8_takeNumber_61 : decode cX8_takeNumber 61 = .ok (.iaload, 1) := by decide +kernel
theorem dX8_takeNumber_62 : decode cX8_takeNumber 62 = .ok (.i2l, 1) := by decide +kernel
theorem dX8_takeNumber_63 : decode cX8_takeNumber 63 = .ok (.ldc2_w 94, 3) := by decide +kernel
theorem dX8_takeNumber_66 : decode cX8_takeNumber 66 = .ok (.ldc2_w 96, 3) := by decide +kernel
theorem dX8_takeNumber_69 : decode cX8_takeNumber 69 = .ok (.invokestatic 73, 3) := by decide +kernel
theorem dX8_takeNumber_72 : decode cX8_takeNumber 72 = .ok (.ifCond .eq 57, 3) := by decide +kernel
theorem dX8_takeNumber_75 : decode cX8_takeNumber 75 = .ok (.aload_n 0, 1) := by decide +kernel
theorem dX8_takeNumber_76 : decode cX8_takeNumber 76 = .ok (.aload_n 0, 1) := by decide +kernel
theorem dX8_takeNumber_77 : decode cX8_takeNumber 77 = .ok (.getfield 105, 3) := by decide +kernel
theorem dX8_takeNumber_80 : decode cX8_takeNumber 80 = .ok (.sipush 10000, 3) := by decide +kernel
theorem dX8_takeNumber_83 : decode cX8_takeNumber 83 = .ok (.if_icmp .le 10, 3) := by decide +kernel
theorem dX8_takeNumber_86 : decode cX8_takeNumber 86 = .ok (.aload_n 0, 1) := by decide +kernel
theorem dX8_takeNumber_87 : decode cX8_takeNumber 87 = .ok (.getfield 105, 3) := by decide +kernel
theorem dX8_takeNumber_90 : decode cX8_takeNumber 90 = .ok (.goto 23, 3) := by decide +kernel
theorem dX8_takeNumber_93 : decode cX8_takeNumber 93 = .ok (.bipush 10, 2) := by decide +kernel
theorem dX8_takeNumber_95 : decode cX8_takeNumber 95 = .ok (.aload_n 0, 1) := by decide +kernel
theorem dX8_takeNumber_96 : decode cX8_takeNumber 96 = .ok (.getfield 105, 3) := by decide +kernel
theorem dX8_takeNumber_99 : decode cX8_takeNumber 99 = .ok (.imul, 1) := by decide +kernel
theorem dX8_takeNumber_100 : decode cX8_takeNumber 100 = .ok (.aload_n 0, 1) := by decide +kernel
theorem dX8_takeNumber_101 : decode cX8_takeNumber 101 = .ok (.getfield 22, 3) := by decide +kernel
theorem dX8_takeNumber_104 : decode cX8_takeNumber 104 = .ok (.aload_n 0, 1) := by decide +kernel
theorem dX8_takeNumber_105 : decode cX8_takeNumber 105 = .ok (.getfield 87, 3) := by decide +kernel
theorem dX8_takeNumber_108 : decode cX8_takeNumber 108 = .ok (.iaload, 1) := by decide +kernel
theorem dX8_takeNumber_109 : decode cX8_takeNumber 109 = .ok (.iadd, 1) := by decide +kernel
theorem dX8_takeNumber_110 : decode cX8_takeNumber 110 = .ok (.bipush 48, 2) := by decide +kernel
theorem dX8_takeNumber_112 : decode cX8_takeNumber 112 = .ok (.isub, 1) := by decide +kernel
theorem dX8_takeNumber_113 : decode cX8_takeNumber 113 = .ok (.putfield 105, 3) := by decide +kernel
theorem dX8_takeNumber_116 : decode cX8_takeNumber 116 = .ok (.aload_n 0, 1) := by decide +kernel
theorem dX8_takeNumber_117 : decode cX8_takeNumber 117 = .ok (.dup, 1) := by decide +kernel
theorem dX8_takeNumber_118 : decode cX8_takeNumber 118 = .ok (.getfield 87, 3) := by decide +kernel
theorem dX8_takeNumber_121 : decode cX8_takeNumber 121 = .ok (.iconst 1, 1) := by decide +kernel
theorem dX8_takeNumber_122 : decode cX8_takeNumber 122 = .ok (.iadd, 1) := by decide +kernel
theorem dX8_takeNumber_123 : decode cX8_takeNumber 123 = .ok (.putfield 87, 3) := by decide +kernel
theorem dX8_takeNumber_126 : decode cX8_takeNumber 126 = .ok (.goto (-84), 3) := by decide +kernel
theorem dX8_takeNumber_129 : decode cX8_takeNumber 129 = .ok (.aload_n 0, 1) := by decide +kernel
theorem dX8_takeNumber_130 : decode cX8_takeNumber 130 = .ok (.getfield 87, 3) := by decide +kernel
theorem dX8_takeNumber_133 : decode cX8_takeNumber 133 = .ok (.aload_n 0, 1) := by decide +kernel
theorem dX8_takeNumber_134 : decode cX8_takeNumber 134 = .ok (.getfield 102, 3) := by decide +kernel
theorem dX8_takeNumber_137 : decode cX8_takeNumber 137 = .ok (.isub, 1) := by decide +kernel
theorem dX8_takeNumber_138 : decode cX8_takeNumber 138 = .ok (.iconst 3, 1) := by decide +kernel
theorem dX8_takeNumber_139 : decode cX8_takeNumber 139 = .ok (.if_icmp .gt 18, 3) := by decide +kernel
theorem dX8_takeNumber_142 : decode cX8_takeNumber 142 = .ok (.aload_n 0, 1) := by decide +kernel
theorem dX8_takeNumber_143 : decode cX8_takeNumber 143 = .ok (.getfield 105, 3) := by decide +kernel
theorem dX8_takeNumber_146 : decode cX8_takeNumber 146 = .ok (.i2l, 1) := by decide +kernel
theorem dX8_takeNumber_147 : decode cX8_takeNumber 147 = .ok (.iload_n 1, 1) := by decide +kernel
theorem dX8_takeNumber_148 : decode cX8_takeNumber 148 = .ok (.i2l, 1) := by decide +kernel
theorem dX8_takeNumber_149 : decode cX8_takeNumber 149 = .ok (.iload_n 2, 1) := by decide +kernel
theorem dX8_takeNumber_150 : decode cX8_takeNumber 150 = .ok (.i2l, 1) := by decide +kernel
theorem dX8_takeNumber_151 : decode cX8_takeNumber 151 = .ok (.invokestatic 73, 3) := by decide +kernel
theorem dX8_takeNumber_154 : decode cX8_takeNumber 154 = .ok (.ifCond .ne 15, 3) := by decide +kernel
theorem dX8_takeNumber_157 : decode cX8_takeNumber 157 = .ok (.aload_n 0, 1) := by decide +kernel
theorem dX8_takeNumber_158 : decode cX8_takeNumber 158 = .ok (.iconst 2, 1) := by decide +kernel
theorem dX8_takeNumber_159 : decode cX8_takeNumber 159 = .ok (.aload_n 0, 1) := by decide +kernel
theorem dX8_takeNumber_160 : decode cX8_takeNumber 160 = .ok (.getfield 102, 3) := by decide +kernel
theorem dX8_takeNumber_163 : decode cX8_takeNumber 163 = .ok (.invokevirtual 98, 3) := by decide +kernel
theorem dX8_takeNumber_166 : decode cX8_takeNumber 166 = .ok (.goto 4, 3) := by decide +kernel
theorem dX8_takeNumber_169 : decode cX8_takeNumber 169 = .ok (.iconst 0, 1) := by decide +kernel
theorem dX8_takeNumber_170 : decode cX8_takeNumber 170 = .ok (.ireturn, 1) := by decide +kernel
theorem dX8_takeThings_0 : decode cX8_takeThings 0 = .ok (.aload_n 0, 1) := by decide +kernel
theorem dX8_takeThings_1 : decode cX8_takeThings 1 = .ok (.iconst 1, 1) := by decide +kernel
theorem dX8_takeThings_2 : decode cX8_takeThings 2 = .ok (.bipush 8, 2) := by decide +kernel
theorem dX8_takeThings_4 : decode cX8_takeThings 4 = .ok (.invokevirtual 108, 3) := by decide +kernel
theorem dX8_takeThings_7 : decode cX8_takeThings 7 = .ok (.istore_n 1, 1) := by decide +kernel
theorem dX8_takeThings_8 : decode cX8_takeThings 8 = .ok (.aload_n 0, 1) := by decide +kernel
theorem dX8_takeThings_9 : decode cX8_takeThings 9 = .ok (.aload_n 0, 1) := by decide +kernel
theorem dX8_takeThings_10 : decode cX8_takeThings 10 = .ok (.getfield 105, 3) := by decide +kernel
theorem dX8_takeThings_13 : decode cX8_takeThings 13 = .ok (.putfield 111, 3) := by decide +kernel
theorem dX8_takeThings_16 : decode cX8_takeThings 16 = .ok (.iload_n 1, 1) := by decide +kernel
theorem dX8_takeThings_17 : decode cX8_takeThings 17 = .ok (.ireturn, 1) := by decide +kernel
theorem dX8_takeSaying_0 : decode cX8_takeSaying 0 = .ok (.aload_n 0, 1) := by decide +kernel
theorem dX8_takeSaying_1 : decode cX8_takeSaying 1 = .ok (.iconst 0, 1) := by decide +kernel
theorem dX8_takeSaying_2 : decode cX8_takeSaying 2 = .ok (.iconst 2, 1) := by decide +kernel
theorem dX8_takeSaying_3 : decode cX8_takeSaying 3 = .ok (.aload_n 0, 1) := by decide +kernel
theorem dX8_takeSaying_4 : decode cX8_takeSaying 4 = .ok (.getfield 111, 3) := by decide +kernel
theorem dX8_takeSaying_7 : decode cX8_takeSaying 7 = .ok (.imul, 1) := by decide +kernel
theorem dX8_takeSaying_8 : decode cX8_takeSaying 8 = .ok (.iconst 1, 1) := by decide +kernel
theorem dX8_takeSaying_9 : decode cX8_takeSaying 9 = .ok (.isub, 1) := by decide +kernel
theorem dX8_takeSaying_10 : decode cX8_takeSaying 10 = .ok (.invokevirtual 108, 3) := by decide +kernel
theorem dX8_takeSaying_13 : decode cX8_takeSaying 13 = .ok (.istore_n 2, 1) := by decide +kernel
theorem dX8_takeSaying_14 : decode cX8_takeSaying 14 = .ok (.iload_n 2, 1) := by decide +kernel
theorem dX8_takeSaying_15 : decode cX8_takeSaying 15 = .ok (.ifCond .ne 24, 3) := by decide +kernel
theorem dX8_takeSaying_18 : decode cX8_takeSaying 18 = .ok (.iload_n 1, 1) := by decide +kernel
theorem dX8_takeSaying_19 : decode cX8_takeSaying 19 = .ok (.aload_n 0, 1) := by decide +kernel
theorem dX8_takeSaying_20 : decode cX8_takeSaying 20 = .ok (.getfield 105, 3) := by decide +kernel
theorem dX8_takeSaying_23 : decode cX8_takeSaying 23 = .ok (.invokestatic 114, 3) := by decide +kernel
theorem dX8_takeSaying_26 : decode cX8_takeSaying 26 = .ok (.ifCond .eq 13, 3) := by decide +kernel
theorem dX8_takeSaying_29 : decode cX8_takeSaying 29 = .ok (.aload_n 0, 1) := by decide +kernel
theorem dX8_takeSaying_30 : decode cX8_takeSaying 30 = .ok (.iconst 4, 1) := by decide +kernel
theorem dX8_takeSaying_31 : decode cX8_takeSaying 31 = .ok (.aload_n 0, 1) := by decide +kernel
theorem dX8_takeSaying_32 : decode cX8_takeSaying 32 = .ok (.getfield 102, 3) := by decide +kernel
theorem dX8_takeSaying_35 : decode cX8_takeSaying 35 = .ok (.invokevirtual 98, 3) := by decide +kernel
theorem dX8_takeSaying_38 : decode cX8_takeSaying 38 = .ok (.ireturn, 1) := by decide +kernel
theorem dX8_takeSaying_39 : decode cX8_takeSaying 39 = .ok (.iload_n 2, 1) := by decide +kernel
theorem dX8_takeSaying_40 : decode cX8_takeSaying 40 = .ok (.ireturn, 1) := by decide +kernel
theorem dX8_takeRule_0 : decode cX8_takeRule 0 = .ok (.aload_n 0, 1) := by decide +kernel
theorem dX8_takeRule_1 : decode cX8_takeRule 1 = .ok (.getfield 118, 3) := by decide +kernel
theorem dX8_takeRule_4 : decode cX8_takeRule 4 = .ok (.istore_n 1, 1) := by decide +kernel
theorem dX8_takeRule_5 : decode cX8_takeRule 5 = .ok (.aload_n 0, 1) := by decide +kernel
theorem dX8_takeRule_6 : decode cX8_takeRule 6 = .ok (.dup, 1) := by decide +kernel
theorem dX8_takeRule_7 : decode cX8_takeRule 7 = .ok (.getfield 118, 3) := by decide +kernel
theorem dX8_takeRule_10 : decode cX8_takeRule 10 = .ok (.iconst 1, 1) := by decide +kernel
theorem dX8_takeRule_11 : decode cX8_takeRule 11 = .ok (.iadd, 1) := by decide +kernel
theorem dX8_takeRule_12 : decode cX8_takeRule 12 = .ok (.putfield 118, 3) := by decide +kernel
theorem dX8_takeRule_15 : decode cX8_takeRule 15 = .ok (.aload_n 0, 1) := by decide +kernel
theorem dX8_takeRule_16 : decode cX8_takeRule 16 = .ok (.iconst 0, 1) := by decide +kernel
theorem dX8_takeRule_17 : decode cX8_takeRule 17 = .ok (.bipush 99, 2) := by decide +kernel
theorem dX8_takeRule_19 : decode cX8_takeRule 19 = .ok (.invokevirtual 108, 3) := by decide +kernel
theorem dX8_takeRule_22 : decode cX8_takeRule 22 = .ok (.istore_n 2, 1) := by decide +kernel
theorem dX8_takeRule_23 : decode cX8_takeRule 23 = .ok (.aload_n 0, 1) := by decide +kernel
theorem dX8_takeRule_24 : decode cX8_takeRule 24 = .ok (.getfield 29, 3) := by decide +kernel
theorem dX8_takeRule_27 : decode cX8_takeRule 27 = .ok (.iload_n 1, 1) := by decide +kernel
theorem dX8_takeRule_28 : decode cX8_takeRule 28 = .ok (.aload_n 0, 1) := by decide +kernel
theorem dX8_takeRule_29 : decode cX8_takeRule 29 = .ok (.getfield 105, 3) := by decide +kernel
theorem dX8_takeRule_32 : decode cX8_takeRule 32 = .ok (.iastore, 1) := by decide +kernel
theorem dX8_takeRule_33 : decode cX8_takeRule 33 = .ok (.iload_n 2, 1) := by decide +kernel
theorem dX8_takeRule_34 : decode cX8_takeRule 34 = .ok (.ifCond .le 7, 3) := by decide +kernel
theorem dX8_takeRule_37 : decode cX8_takeRule 37 = .ok (.iload_n 2, 1) := by decide +kernel
theorem dX8_takeRule_38 : decode cX8_takeRule 38 = .ok (.goto 8, 3) := by decide +kernel
theorem dX8_takeRule_41 : decode cX8_takeRule 41 = .ok (.aload_n 0, 1) := by decide +kernel
theorem dX8_takeRule_42 : decode cX8_takeRule 42 = .ok (.iconst 0, 1) := by decide +kernel
theorem dX8_takeRule_43 : decode cX8_takeRule 43 = .ok (.invokevirtual 121, 3) := by decide +kernel
theorem dX8_takeRule_46 : decode cX8_takeRule 46 = .ok (.istore_n 2, 1) := by decide +kernel
theorem dX8_takeRule_47 : decode cX8_takeRule 47 = .ok (.aload_n 0, 1) := by decide +kernel
theorem dX8_takeRule_48 : decode cX8_takeRule 48 = .ok (.getfield 32, 3) := by decide +kernel
theorem dX8_takeRule_51 : decode cX8_takeRule 51 = .ok (.iload_n 1, 1) := by decide +kernel
theorem dX8_takeRule_52 : decode cX8_takeRule 52 = .ok (.aload_n 0, 1) := by decide +kernel
theorem dX8_takeRule_53 : decode cX8_takeRule 53 = .ok (.getfield 105, 3) := by decide +kernel
theorem dX8_takeRule_56 : decode cX8_takeRule 56 = .ok (.iastore, 1) := by decide +kernel
theorem dX8_takeRule_57 : decode cX8_takeRule 57 = .ok (.aload_n 0, 1) := by decide +kernel
theorem dX8_takeRule_58 : decode cX8_takeRule 58 = .ok (.getfield 35, 3) := by decide +kernel
theorem dX8_takeRule_61 : decode cX8_takeRule 61 = .ok (.iload_n 1, 1) := by decide +kernel
theorem dX8_takeRule_62 : decode cX8_takeRule 62 = .ok (.iconst 0, 1) := by decide +kernel
theorem dX8_takeRule_63 : decode cX8_takeRule 63 = .ok (.iastore, 1) := by decide +kernel
theorem dX8_takeRule_64 : decode cX8_takeRule 64 = .ok (.iconst 0, 1) := by decide +kernel
theorem dX8_takeRule_65 : decode cX8_takeRule 65 = .ok (.istore_n 3, 1) := by decide +kernel
theorem dX8_takeRule_66 : decode cX8_takeRule 66 = .ok (.iload_n 2, 1) := by decide +kernel
theorem dX8_takeRule_67 : decode cX8_takeRule 67 = .ok (.ifCond .ne 82, 3) := by decide +kernel
theorem dX8_takeRule_70 : decode cX8_takeRule 70 = .ok (.aload_n 0, 1) := by decide +kernel
theorem dX8_takeRule_71 : decode cX8_takeRule 71 = .ok (.invokevirtual 90, 3) := by decide +kernel
theorem dX8_takeRule_74 : decode cX8_takeRule 74 = .ok (.bipush 44, 2) := by decide +kernel
theorem dX8_takeRule_76 : decode cX8_takeRule 76 = .ok (.if_icmp .ne 73, 3) := by decide +kernel
theorem dX8_takeRule_79 : decode cX8_takeRule 79 = .ok (.iload_n 3, 1) := by decide +kernel
theorem dX8_takeRule_80 : decode cX8_takeRule 80 = .ok (.iconst 3, 1) := by decide +kernel
theorem dX8_takeRule_81 : decode cX8_takeRule 81 = .ok (.if_icmp .ne 13, 3) := by decide +kernel
theorem dX8_takeRule_84 : decode cX8_takeRule 84 = .ok (.aload_n 0, 1) := by decide +kernel
theorem dX8_takeRule_85 : decode cX8_takeRule 85 = .ok (.iconst 1, 1) := by decide +kernel
theorem dX8_takeRule_86 : decode cX8_takeRule 86 = .ok (.aload_n 0, 1) := by decide +kernel
theorem dX8_takeRule_87 : decode cX8_takeRule 87 = .ok (.getfield 87, 3) := by decide +kernel
theorem dX8_takeRule_90 : decode cX8_takeRule 90 = .ok (.invokevirtual 98, 3) := by decide +kernel
theorem dX8_takeRule_93 : decode cX8_takeRule 93 = .ok (.ireturn, 1) := by decide +kernel
theorem dX8_takeRule_94 : decode cX8_takeRule 94 = .ok (.aload_n 0, 1) := by decide +kernel
theorem dX8_takeRule_95 : decode cX8_takeRule 95 = .ok (.dup, 1) := by decide +kernel
theorem dX8_takeRule_96 : decode cX8_takeRule 96 = .ok (.getfield 87, 3) := by decide +kernel
theorem dX8_takeRule_99 : decode cX8_takeRule 99 = .ok (.iconst 1, 1) := by decide +kernel
theorem dX8_takeRule_100 : decode cX8_takeRule 100 = .ok (.iadd, 1) := by decide +kernel
theorem dX8_takeRule_101 : decode cX8_takeRule 101 = .ok (.putfield 87, 3) := by decide +kernel
theorem dX8_takeRule_104 : decode cX8_takeRule 104 = .ok (.aload_n 0, 1) := by decide +kernel
theorem dX8_takeRule_105 : decode cX8_takeRule 105 = .ok (.aload_n 0, 1) := by decide +kernel
theorem dX8_takeRule_106 : decode cX8_takeRule 106 = .ok (.getfield 35, 3) := by decide +kernel
theorem dX8_takeRule_109 : decode cX8_takeRule 109 = .ok (.iload_n 1, 1) := by decide +kernel
theorem dX8_takeRule_110 : decode cX8_takeRule 110 = .ok (.iaload, 1) := by decide +kernel
theorem dX8_takeRule_111 : decode cX8_takeRule 111 = .ok (.iconst 1, 1) := by decide +kernel
theorem dX8_takeRule_112 : decode cX8_takeRule 112 = .ok (.aload_n 0, 1) := by decide +kernel
theorem dX8_takeRule_113 : decode cX8_takeRule 113 = .ok (.getfield 32, 3) := by decide +kernel
theorem dX8_takeRule_116 : decode cX8_takeRule 116 = .ok (.iload_n 1, 1) := by decide +kernel
theorem dX8_takeRule_117 : decode cX8_takeRule 117 = .ok (.iaload, 1) := by decide +kernel
theorem dX8_takeRule_118 : decode cX8_takeRule 118 = .ok (.ishl, 1) := by decide +kernel
theorem dX8_takeRule_119 : decode cX8_takeRule 119 = .ok (.ior, 1) := by decide +kernel
theorem dX8_takeRule_120 : decode cX8_takeRule 120 = .ok (.invokevirtual 121, 3) := by decide +kernel
theorem dX8_takeRule_123 : decode cX8_takeRule 123 = .ok (.istore_n 2, 1) := by decide +kernel
theorem dX8_takeRule_124 : decode cX8_takeRule 124 = .ok (.iload_n 2, 1) := by decide +kernel
theorem dX8_takeRule_125 : decode cX8_takeRule 125 = .ok (.ifCond .ne (-59), 3) := by decide +kernel
theorem dX8_takeRule_128 : decode cX8_takeRule 128 = .ok (.aload_n 0, 1) := by decide +kernel
theorem dX8_takeRule_129 : decode cX8_takeRule 129 = .ok (.getfield 35, 3) := by decide +kernel
theorem dX8_takeRule_132 : decode cX8_takeRule 132 = .ok (.iload_n 1, 1) := by decide +kernel
theorem dX8_takeRule_133 : decode cX8_takeRule 133 = .ok (.dup2, 1) := by decide +kernel
theorem dX8_takeRule_134 : decode cX8_takeRule 134 = .ok (.iaload, 1) := by decide +kernel
theorem dX8_takeRule_135 : decode cX8_takeRule 135 = .ok (.iconst 1, 1) := by decide +kernel
theorem dX8_takeRule_136 : decode cX8_takeRule 136 = .ok (.aload_n 0, 1) := by decide +kernel
theorem dX8_takeRule_137 : decode cX8_takeRule 137 = .ok (.getfield 105, 3) := by decide +kernel
theorem dX8_takeRule_140 : decode cX8_takeRule 140 = .ok (.ishl, 1) := by decide +kernel
theorem dX8_takeRule_141 : decode cX8_takeRule 141 = .ok (.ior, 1) := by decide +kernel
theorem dX8_takeRule_142 : decode cX8_takeRule 142 = .ok (.iastore, 1) := by decide +kernel
theorem dX8_takeRule_143 : decode cX8_takeRule 143 = .ok (.iinc 3 1, 3) := by decide +kernel
theorem dX8_takeRule_146 : decode cX8_takeRule 146 = .ok (.goto (-80), 3) := by decide +kernel
theorem dX8_takeRule_149 : decode cX8_takeRule 149 = .ok (.iload_n 2, 1) := by decide +kernel
theorem dX8_takeRule_150 : decode cX8_takeRule 150 = .ok (.ireturn, 1) := by decide +kernel
theorem dX8_takeSeen_0 : decode cX8_takeSeen 0 = .ok (.aload_n 0, 1) := by decide +kernel
theorem dX8_takeSeen_1 : decode cX8_takeSeen 1 = .ok (.aload_n 0, 1) := by decide +kernel
theorem dX8_takeSeen_2 : decode cX8_takeSeen 2 = .ok (.getfield 125, 3) := by decide +kernel
theorem dX8_takeSeen_5 : decode cX8_takeSeen 5 = .ok (.invokevirtual 121, 3) := by decide +kernel
theorem dX8_takeSeen_8 : decode cX8_takeSeen 8 = .ok (.istore_n 1, 1) := by decide +kernel
theorem dX8_takeSeen_9 : decode cX8_takeSeen 9 = .ok (.iload_n 1, 1) := by decide +kernel
theorem dX8_takeSeen_10 : decode cX8_takeSeen 10 = .ok (.ifCond .ne 18, 3) := by decide +kernel
theorem dX8_takeSeen_13 : decode cX8_takeSeen 13 = .ok (.aload_n 0, 1) := by decide +kernel
theorem dX8_takeSeen_14 : decode cX8_takeSeen 14 = .ok (.dup, 1) := by decide +kernel
theorem dX8_takeSeen_15 : decode cX8_takeSeen 15 = .ok (.getfield 125, 3) := by decide +kernel
theorem dX8_takeSeen_18 : decode cX8_takeSeen 18 = .ok (.iconst 1, 1) := by decide +kernel
theorem dX8_takeSeen_19 : decode cX8_takeSeen 19 = .ok (.aload_n 0, 1) := by decide +kernel
theorem dX8_takeSeen_20 : decode cX8_takeSeen 20 = .ok (.getfield 105, 3) := by decide +kernel
theorem dX8_takeSeen_23 : decode cX8_takeSeen 23 = .ok (.ishl, 1) := by decide +kernel
theorem dX8_takeSeen_24 : decode cX8_takeSeen 24 = .ok (.ior, 1) := by decide +kernel
theorem dX8_takeSeen_25 : decode cX8_takeSeen 25 = .ok (.putfield 125, 3) := by decide +kernel
theorem dX8_takeSeen_28 : decode cX8_takeSeen 28 = .ok (.iload_n 1, 1) := by decide +kernel
theorem dX8_takeSeen_29 : decode cX8_takeSeen 29 = .ok (.ireturn, 1) := by decide +kernel
theorem dX8_takeClause_0 : decode cX8_takeClause 0 = .ok (.aload_n 0, 1) := by decide +kernel
theorem dX8_takeClause_1 : decode cX8_takeClause 1 = .ok (.invokevirtual 90, 3) := by decide +kernel
theorem dX8_takeClause_4 : decode cX8_takeClause 4 = .ok (.istore_n 1, 1) := by decide +kernel
theorem dX8_takeClause_5 : decode cX8_takeClause 5 = .ok (.iload_n 1, 1) := by decide +kernel
theorem dX8_takeClause_6 : decode cX8_takeClause 6 = .ok (.bipush 116, 2) := by decide +kernel
theorem dX8_takeClause_8 : decode cX8_takeClause 8 = .ok (.if_icmp .ne 7, 3) := by decide +kernel
theorem dX8_takeClause_11 : decode cX8_takeClause 11 = .ok (.iconst 0, 1) := by decide +kernel
theorem dX8_takeClause_12 : decode cX8_takeClause 12 = .ok (.goto 24, 3) := by decide +kernel
theorem dX8_takeClause_15 : decode cX8_takeClause 15 = .ok (.iload_n 1, 1) := by decide +kernel
theorem dX8_takeClause_16 : decode cX8_takeClause 16 = .ok (.bipush 114, 2) := by decide +kernel
theorem dX8_takeClause_18 : decode cX8_takeClause 18 = .ok (.if_icmp .ne 7, 3) := by decide +kernel
theorem dX8_takeClause_21 : decode cX8_takeClause 21 = .ok (.iconst 1, 1) := by decide +kernel
theorem dX8_takeClause_22 : decode cX8_takeClause 22 = .ok (.goto 14, 3) := by decide +kernel
theorem dX8_takeClause_25 : decode cX8_takeClause 25 = .ok (.iload_n 1, 1) := by decide +kernel
theorem dX8_takeClause_26 : decode cX8_takeClause 26 = .ok (.bipush 115, 2) := by decide +kernel
theorem dX8_takeClause_28 : decode cX8_takeClause 28 = .ok (.if_icmp .ne 7, 3) := by decide +kernel
theorem dX8_takeClause_31 : decode cX8_takeClause 31 = .ok (.iconst 2, 1) := by decide +kernel
theorem dX8_takeClause_32 : decode cX8_takeClause 32 = .ok (.goto 4, 3) := by decide +kernel
theorem dX8_takeClause_35 : decode cX8_takeClause 35 = .ok (.iconst (-1), 1) := by decide +kernel
theorem dX8_takeClause_36 : decode cX8_takeClause 36 = .ok (.istore_n 2, 1) := by decide +kernel
theorem dX8_takeClause_37 : decode cX8_takeClause 37 = .ok (.iload_n 2, 1) := by decide +kernel
theorem dX8_takeClause_38 : decode cX8_takeClause 38 = .ok (.ifCond .lt 14, 3) := by decide +kernel
theorem dX8_takeClause_41 : decode cX8_takeClause 41 = .ok (.iload_n 2, 1) := by decide +kernel
theorem dX8_takeClause_42 : decode cX8_takeClause 42 = .ok (.ifCond .le 20, 3) := by decide +kernel
theorem dX8_takeClause_45 : decode cX8_takeClause 45 = .ok (.aload_n 0, 1) := by decide +kernel
theorem dX8_takeClause_46 : decode cX8_takeClause 46 = .ok (.getfield 111, 3) := by decide +kernel
theorem dX8_takeClause_49 : decode cX8_takeClause 49 = .ok (.ifCond .ne 13, 3) := by decide +kernel
theorem dX8_takeClause_52 : decode cX8_takeClause 52 = .ok (.aload_n 0, 1) := by decide +kernel
theorem dX8_takeClause_53 : decode cX8_takeClause 53 = .ok (.iconst 1, 1) := by decide +kernel
theorem dX8_takeClause_54 : decode cX8_takeClause 54 = .ok (.aload_n 0, 1) := by decide +kernel
theorem dX8_takeClause_55 : decode cX8_takeClause 55 = .ok (.getfield 87, 3) := by decide +kernel
theorem dX8_takeClause_58 : decode cX8_takeClause 58 = .ok (.invokevirtual 98, 3) := by decide +kernel
theorem dX8_takeClause_61 : decode cX8_takeClause 61 = .ok (.ireturn, 1) := by decide +kernel
theorem dX8_takeClause_62 : decode cX8_takeClause 62 = .ok (.iload_n 2, 1) := by decide +kernel
theorem dX8_takeClause_63 : decode cX8_takeClause 63 = .ok (.ifCond .ne 10, 3) := by decide +kernel
theorem dX8_takeClause_66 : decode cX8_takeClause 66 = .ok (.aload_n 0, 1) := by decide +kernel
theorem dX8_takeClause_67 : decode cX8_takeClause 67 = .ok (.getfield 111, 3) := by decide +kernel
theorem dX8_takeClause_70 : decode cX8_takeClause 70 = .ok (.ifCond .gt 17, 3) := by decide +kernel
theorem dX8_takeClause_73 : decode cX8_takeClause 73 = .ok (.iload_n 2, 1) := by decide +kernel
theorem dX8_takeClause_74 : decode cX8_takeClause 74 = .ok (.iconst 1, 1) := by decide +kernel
theorem dX8_takeClause_75 : decode cX8_takeClause 75 = .ok (.if_icmp .ne 22, 3) := by decide +kernel
theorem dX8_takeClause_78 : decode cX8_takeClause 78 = .ok (.aload_n 0, 1) := by decide +kernel
theorem dX8_takeClause_79 : decode cX8_takeClause 79 = .ok (.getfield 118, 3) := by decide +kernel
theorem dX8_takeClause_82 : decode cX8_takeClause 82 = .ok (.bipush 10, 2) := by decide +kernel
theorem dX8_takeClause_84 : decode cX8_takeClause 84 = .ok (.if_icmp .ne 13, 3) := by decide +kernel
theorem dX8_takeClause_87 : decode cX8_takeClause 87 = .ok (.aload_n 0, 1) := by decide +kernel
theorem dX8_takeClause_88 : decode cX8_takeClause 88 = .ok (.iconst 3, 1) := by decide +kernel
theorem dX8_takeClause_89 : decode cX8_takeClause 89 = .ok (.aload_n 0, 1) := by decide +kernel
theorem dX8_takeClause_90 : decode cX8_takeClause 90 = .ok (.getfield 87, 3) := by decide +kernel
theorem dX8_takeClause_93 : decode cX8_takeClause 93 = .ok (.invokevirtual 98, 3) := by decide +kernel
theorem dX8_takeClause_96 : decode cX8_takeClause 96 = .ok (.ireturn, 1) := by decide +kernel
theorem dX8_takeClause_97 : decode cX8_takeClause 97 = .ok (.aload_n 0, 1) := by decide +kernel
theorem dX8_takeClause_98 : decode cX8_takeClause 98 = .ok (.dup, 1) := by decide +kernel
theorem dX8_takeClause_99 : decode cX8_takeClause 99 = .ok (.getfield 87, 3) := by decide +kernel
theorem dX8_takeClause_102 : decode cX8_takeClause 102 = .ok (.iconst 1, 1) := by decide +kernel
theorem dX8_takeClause_103 : decode cX8_takeClause 103 = .ok (.iadd, 1) := by decide +kernel
theorem dX8_takeClause_104 : decode cX8_takeClause 104 = .ok (.putfield 87, 3) := by decide +kernel
theorem dX8_takeClause_107 : decode cX8_takeClause 107 = .ok (.iload_n 2, 1) := by decide +kernel
theorem dX8_takeClause_108 : decode cX8_takeClause 108 = .ok (.ifCond .ne 10, 3) := by decide +kernel
theorem dX8_takeClause_111 : decode cX8_takeClause 111 = .ok (.aload_n 0, 1) := by decide +kernel
theorem dX8_takeClause_112 : decode cX8_takeClause 112 = .ok (.invokevirtual 128, 3) := by decide +kernel
theorem dX8_takeClause_115 : decode cX8_takeClause 115 = .ok (.goto 19, 3) := by decide +kernel
theorem dX8_takeClause_118 : decode cX8_takeClause 118 = .ok (.iload_n 2, 1) := by decide +kernel
theorem dX8_takeClause_119 : decode cX8_takeClause 119 = .ok (.iconst 1, 1) := by decide +kernel
theorem dX8_takeClause_120 : decode cX8_takeClause 120 = .ok (.if_icmp .ne 10, 3) := by decide +kernel
theorem dX8_takeClause_123 : decode cX8_takeClause 123 = .ok (.aload_n 0, 1) := by decide +kernel
theorem dX8_takeClause_124 : decode cX8_takeClause 124 = .ok (.invokevirtual 131, 3) := by decide +kernel
theorem dX8_takeClause_127 : decode cX8_takeClause 127 = .ok (.goto 7, 3) := by decide +kernel
theorem dX8_takeClause_130 : decode cX8_takeClause 130 = .ok (.aload_n 0, 1) := by decide +kernel
theorem dX8_takeClause_131 : decode cX8_takeClause 131 = .ok (.invokevirtual 134, 3) := by decide +kernel
theorem dX8_takeClause_134 : decode cX8_takeClause 134 = .ok (.istore_n 3, 1) := by decide +kernel
theorem dX8_takeClause_135 : decode cX8_takeClause 135 = .ok (.iload_n 3, 1) := by decide +kernel
theorem dX8_takeClause_136 : decode cX8_takeClause 136 = .ok (.ifCond .ne 22, 3) := by decide +kernel
theorem dX8_takeClause_139 : decode cX8_takeClause 139 = .ok (.aload_n 0, 1) := by decide +kernel
theorem dX8_takeClause_140 : decode cX8_takeClause 140 = .ok (.invokevirtual 90, 3) := by decide +kernel
theorem dX8_takeClause_143 : decode cX8_takeClause 143 = .ok (.bipush 59, 2) := by decide +kernel
theorem dX8_takeClause_145 : decode cX8_takeClause 145 = .ok (.if_icmp .eq 13, 3) := by decide +kernel
theorem dX8_takeClause_148 : decode cX8_takeClause 148 = .ok (.aload_n 0, 1) := by decide +kernel
theorem dX8_takeClause_149 : decode cX8_takeClause 149 = .ok (.iconst 1, 1) := by decide +kernel
theorem dX8_takeClause_150 : decode cX8_takeClause 150 = .ok (.aload_n 0, 1) := by decide +kernel
theorem dX8_takeClause_151 : decode cX8_takeClause 151 = .ok (.getfield 87, 3) := by decide +kernel
theorem dX8_takeClause_154 : decode cX8_takeClause 154 = .ok (.invokevirtual 98, 3) := by decide +kernel
theorem dX8_takeClause_157 : decode cX8_takeClause 157 = .ok (.ireturn, 1) := by decide +kernel
theorem dX8_takeClause_158 : decode cX8_takeClause 158 = .ok (.aload_n 0, 1) := by decide +kernel
theorem dX8_takeClause_159 : decode cX8_takeClause 159 = .ok (.dup, 1) := by decide +kernel
theorem dX8_takeClause_160 : decode cX8_takeClause 160 = .ok (.getfield 87, 3) := by decide +kernel
theorem dX8_takeClause_163 : decode cX8_takeClause 163 = .ok (.iconst 1, 1) := by decide +kernel
theorem dX8_takeClause_164 : decode cX8_takeClause 164 = .ok (.iadd, 1) := by decide +kernel
theorem dX8_takeClause_165 : decode cX8_takeClause 165 = .ok (.putfield 87, 3) := by decide +kernel
theorem dX8_takeClause_168 : decode cX8_takeClause 168 = .ok (.iload_n 3, 1) := by decide +kernel
theorem dX8_takeClause_169 : decode cX8_takeClause 169 = .ok (.ireturn, 1) := by decide +kernel
theorem dX8_town_0 : decode cX8_town 0 = .ok (.aload_n 0, 1) := by decide +kernel
theorem dX8_town_1 : decode cX8_town 1 = .ok (.iconst (-1), 1) := by decide +kernel
theorem dX8_town_2 : decode cX8_town 2 = .ok (.putfield 25, 3) := by decide +kernel
theorem dX8_town_5 : decode cX8_town 5 = .ok (.aload_n 0, 1) := by decide +kernel
theorem dX8_town_6 : decode cX8_town 6 = .ok (.iconst 0, 1) := by decide +kernel
theorem dX8_town_7 : decode cX8_town 7 = .ok (.putfield 87, 3) := by decide +kernel
theorem dX8_town_10 : decode cX8_town 10 = .ok (.aload_n 0, 1) := by decide +kernel
theorem dX8_town_11 : decode cX8_town 11 = .ok (.iconst 0, 1) := by decide +kernel
theorem dX8_town_12 : decode cX8_town 12 = .ok (.putfield 111, 3) := by decide +kernel
theorem dX8_town_15 : decode cX8_town 15 = .ok (.aload_n 0, 1) := by decide +kernel
theorem dX8_town_16 : decode cX8_town 16 = .ok (.iconst 0, 1) := by decide +kernel
theorem dX8_town_17 : decode cX8_town 17 = .ok (.putfield 118, 3) := by decide +kernel
theorem dX8_town_20 : decode cX8_town 20 = .ok (.aload_n 0, 1) := by decide +kernel
theorem dX8_town_21 : decode cX8_town 21 = .ok (.iconst 0, 1) := by decide +kernel
theorem dX8_town_22 : decode cX8_town 22 = .ok (.putfield 125, 3) := by decide +kernel
theorem dX8_town_25 : decode cX8_town 25 = .ok (.iconst 0, 1) := by decide +kernel
theorem dX8_town_26 : decode cX8_town 26 = .ok (.istore_n 1, 1) := by decide +kernel
theorem dX8_town_27 : decode cX8_town 27 = .ok (.iload_n 1, 1) := by decide +kernel
theorem dX8_town_28 : decode cX8_town 28 = .ok (.ifCond .ne 18, 3) := by decide +kernel
theorem dX8_town_31 : decode cX8_town 31 = .ok (.aload_n 0, 1) := by decide +kernel
theorem dX8_town_32 : decode cX8_town 32 = .ok (.invokevirtual 90, 3) := by decide +kernel
theorem dX8_town_35 : decode cX8_town 35 = .ok (.ifCond .lt 11, 3) := by decide +kernel
theorem dX8_town_38 : decode cX8_town 38 = .ok (.aload_n 0, 1) := by decide +kernel
theorem dX8_town_39 : decode cX8_town 39 = .ok (.invokevirtual 137, 3) := by decide +kernel
theorem dX8_town_42 : decode cX8_town 42 = .ok (.istore_n 1, 1) := by decide +kernel
theorem dX8_town_43 : decode cX8_town 43 = .ok (.goto (-16), 3) := by decide +kernel
theorem dX8_town_46 : decode cX8_town 46 = .ok (.aload_n 0, 1) := by decide +kernel
theorem dX8_town_47 : decode cX8_town 47 = .ok (.iconst 0, 1) := by decide +kernel
theorem dX8_town_48 : decode cX8_town 48 = .ok (.putfield 83, 3) := by decide +kernel
theorem dX8_town_51 : decode cX8_town 51 = .ok (.iload_n 1, 1) := by decide +kernel
theorem dX8_town_52 : decode cX8_town 52 = .ok (.ifCond .le 8, 3) := by decide +kernel
theorem dX8_town_55 : decode cX8_town 55 = .ok (.bipush (-10), 2) := by decide +kernel
theorem dX8_town_57 : decode cX8_town 57 = .ok (.iload_n 1, 1) := by decide +kernel
theorem dX8_town_58 : decode cX8_town 58 = .ok (.isub, 1) := by decide +kernel
theorem dX8_town_59 : decode cX8_town 59 = .ok (.ireturn, 1) := by decide +kernel
theorem dX8_town_60 : decode cX8_town 60 = .ok (.aload_n 0, 1) := by decide +kernel
theorem dX8_town_61 : decode cX8_town 61 = .ok (.aload_n 0, 1) := by decide +kernel
theorem dX8_town_62 : decode cX8_town 62 = .ok (.getfield 111, 3) := by decide +kernel
theorem dX8_town_65 : decode cX8_town 65 = .ok (.putfield 70, 3) := by decide +kernel
theorem dX8_town_68 : decode cX8_town 68 = .ok (.aload_n 0, 1) := by decide +kernel
theorem dX8_town_69 : decode cX8_town 69 = .ok (.aload_n 0, 1) := by decide +kernel
theorem dX8_town_70 : decode cX8_town 70 = .ok (.getfield 118, 3) := by decide +kernel
theorem dX8_town_73 : decode cX8_town 73 = .ok (.putfield 77, 3) := by decide +kernel
theorem dX8_town_76 : decode cX8_town 76 = .ok (.iconst 0, 1) := by decide +kernel
theorem dX8_town_77 : decode cX8_town 77 = .ok (.istore_n 2, 1) := by decide +kernel
theorem dX8_town_78 : decode cX8_town 78 = .ok (.iload_n 2, 1) := by decide +kernel
theorem dX8_town_79 : decode cX8_town 79 = .ok (.aload_n 0, 1) := by decide +kernel
theorem dX8_town_80 : decode cX8_town 80 = .ok (.getfield 77, 3) := by decide +kernel
theorem dX8_town_83 : decode cX8_town 83 = .ok (.if_icmp .ge 45, 3) := by decide +kernel
theorem dX8_town_86 : decode cX8_town 86 = .ok (.aload_n 0, 1) := by decide +kernel
theorem dX8_town_87 : decode cX8_town 87 = .ok (.getfield 7, 3) := by decide +kernel
theorem dX8_town_90 : decode cX8_town 90 = .ok (.iload_n 2, 1) := by decide +kernel
theorem dX8_town_91 : decode cX8_town 91 = .ok (.aload_n 0, 1) := by decide +kernel
theorem dX8_town_92 : decode cX8_town 92 = .ok (.getfield 29, 3) := by decide +kernel
theorem dX8_town_95 : decode cX8_town 95 = .ok (.iload_n 2, 1) := by decide +kernel
theorem dX8_town_96 : decode cX8_town 96 = .ok (.iaload, 1) := by decide +kernel
theorem dX8_town_97 : decode cX8_town 97 = .ok (.iastore, 1) := by decide +kernel
theorem dX8_town_98 : decode cX8_town 98 = .ok (.aload_n 0, 1) := by decide +kernel
theorem dX8_town_99 : decode cX8_town 99 = .ok (.getfield 13, 3) := by decide +kernel
theorem dX8_town_102 : decode cX8_town 102 = .ok (.iload_n 2, 1) := by decide +kernel
theorem dX8_town_103 : decode cX8_town 103 = .ok (.aload_n 0, 1) := by decide +kernel
theorem dX8_town_104 : decode cX8_town 104 = .ok (.getfield 32, 3) := by decide +kernel
theorem dX8_town_107 : decode cX8_town 107 = .ok (.iload_n 2, 1) := by decide +kernel
theorem dX8_town_108 : decode cX8_town 108 = .ok (.iaload, 1) := by decide +kernel
theorem dX8_town_109 : decode cX8_town 109 = .ok (.iastore, 1) := by decide +kernel
theorem dX8_town_110 : decode cX8_town 110 = .ok (.aload_n 0, 1) := by decide +kernel
theorem dX8_town_111 : decode cX8_town 111 = .ok (.getfield 16, 3) := by decide +kernel
theorem dX8_town_114 : decode cX8_town 114 = .ok (.iload_n 2, 1) := by decide +kernel
theorem dX8_town_115 : decode cX8_town 115 = .ok (.aload_n 0, 1) := by decide +kernel
theorem dX8_town_116 : decode cX8_town 116 = .ok (.getfield 35, 3) := by decide +kernel
theorem dX8_town_119 : decode cX8_town 119 = .ok (.iload_n 2, 1) := by decide +kernel
theorem dX8_town_120 : decode cX8_town 120 = .ok (.iaload, 1) := by decide +kernel
theorem dX8_town_121 : decode cX8_town 121 = .ok (.iastore, 1) := by decide +kernel
theorem dX8_town_122 : decode cX8_town 122 = .ok (.iinc 2 1, 3) := by decide +kernel
theorem dX8_town_125 : decode cX8_town 125 = .ok (.goto (-47), 3) := by decide +kernel
theorem dX8_town_128 : decode cX8_town 128 = .ok (.aload_n 0, 1) := by decide +kernel
theorem dX8_town_129 : decode cX8_town 129 = .ok (.getfield 19, 3) := by decide +kernel
theorem dX8_town_132 : decode cX8_town 132 = .ok (.iconst 0, 1) := by decide +kernel
theorem dX8_town_133 : decode cX8_town 133 = .ok (.aload_n 0, 1) := by decide +kernel
theorem dX8_town_134 : decode cX8_town 134 = .ok (.getfield 125, 3) := by decide +kernel
theorem dX8_town_137 : decode cX8_town 137 = .ok (.iastore, 1) := by decide +kernel
theorem dX8_town_138 : decode cX8_town 138 = .ok (.iconst 1, 1) := by decide +kernel
theorem dX8_town_139 : decode cX8_town 139 = .ok (.istore_n 2, 1) := by decide +kernel
theorem dX8_town_140 : decode cX8_town 140 = .ok (.iload_n 2, 1) := by decide +kernel
theorem dX8_town_141 : decode cX8_town 141 = .ok (.iconst 4, 1) := by decide +kernel
theorem dX8_town_142 : decode cX8_town 142 = .ok (.if_icmp .ge 16, 3) := by decide +kernel
theorem dX8_town_145 : decode cX8_town 145 = .ok (.aload_n 0, 1) := by decide +kernel
theorem dX8_town_146 : decode cX8_town 146 = .ok (.getfield 19, 3) := by decide +kernel
theorem dX8_town_149 : decode cX8_town 149 = .ok (.iload_n 2, 1) := by decide +kernel
theorem dX8_town_150 : decode cX8_town 150 = .ok (.iconst 0, 1) := by decide +kernel
theorem dX8_town_151 : decode cX8_town 151 = .ok (.iastore, 1) := by decide +kernel
theorem dX8_town_152 : decode cX8_town 152 = .ok (.iinc 2 1, 3) := by decide +kernel
theorem dX8_town_155 : decode cX8_town 155 = .ok (.goto (-15), 3) := by decide +kernel
theorem dX8_town_158 : decode cX8_town 158 = .ok (.aload_n 0, 1) := by decide +kernel
theorem dX8_town_159 : decode cX8_town 159 = .ok (.iconst 0, 1) := by decide +kernel
theorem dX8_town_160 : decode cX8_town 160 = .ok (.putfield 140, 3) := by decide +kernel
theorem dX8_town_163 : decode cX8_town 163 = .ok (.aload_n 0, 1) := by decide +kernel
theorem dX8_town_164 : decode cX8_town 164 = .ok (.iconst 0, 1) := by decide +kernel
theorem dX8_town_165 : decode cX8_town 165 = .ok (.putfield 143, 3) := by decide +kernel
theorem dX8_town_168 : decode cX8_town 168 = .ok (.aload_n 0, 1) := by decide +kernel
theorem dX8_town_169 : decode cX8_town 169 = .ok (.iconst 0, 1) := by decide +kernel
theorem dX8_town_170 : decode cX8_town 170 = .ok (.putfield 146, 3) := by decide +kernel
theorem dX8_town_173 : decode cX8_town 173 = .ok (.aload_n 0, 1) := by decide +kernel
theorem dX8_town_174 : decode cX8_town 174 = .ok (.getfield 67, 3) := by decide +kernel
theorem dX8_town_177 : decode cX8_town 177 = .ok (.iconst 0, 1) := by decide +kernel
theorem dX8_town_178 : decode cX8_town 178 = .ok (.iconst 0, 1) := by decide +kernel
theorem dX8_town_179 : decode cX8_town 179 = .ok (.bastore, 1) := by decide +kernel
theorem dX8_town_180 : decode cX8_town 180 = .ok (.aload_n 0, 1) := by decide +kernel
theorem dX8_town_181 : decode cX8_town 181 = .ok (.getfield 67, 3) := by decide +kernel
theorem dX8_town_184 : decode cX8_town 184 = .ok (.iconst 1, 1) := by decide +kernel
theorem dX8_town_185 : decode cX8_town 185 = .ok (.iconst 0, 1) := by decide +kernel
theorem dX8_town_186 : decode cX8_town 186 = .ok (.bastore, 1) := by decide +kernel
theorem dX8_town_187 : decode cX8_town 187 = .ok (.aload_n 0, 1) := by decide +kernel
theorem dX8_town_188 : decode cX8_town 188 = .ok (.getfield 77, 3) := by decide +kernel
theorem dX8_town_191 : decode cX8_town 191 = .ok (.ireturn, 1) := by decide +kernel
theorem dX8_fault_0 : decode cX8_fault 0 = .ok (.aload_n 0, 1) := by decide +kernel
theorem dX8_fault_1 : decode cX8_fault 1 = .ok (.getfield 25, 3) := by decide +kernel
theorem dX8_fault_4 : decode cX8_fault 4 = .ok (.ireturn, 1) := by decide +kernel
theorem dX8_close_0 : decode cX8_close 0 = .ok (.iload_n 1, 1) := by decide +kernel
theorem dX8_close_1 : decode cX8_close 1 = .ok (.istore_n 3, 1) := by decide +kernel
theorem dX8_close_2 : decode cX8_close 2 = .ok (.iconst 1, 1) := by decide +kernel
theorem dX8_close_3 : decode cX8_close 3 = .ok (.istore 4, 2) := by decide +kernel
theorem dX8_close_5 : decode cX8_close 5 = .ok (.iload 4, 2) := by decide +kernel
theorem dX8_close_7 : decode cX8_close 7 = .ok (.ifCond .eq 79, 3) := by decide +kernel
theorem dX8_close_10 : decode cX8_close 10 = .ok (.iconst 0, 1) := by decide +kernel
theorem dX8_close_11 : decode cX8_close 11 = .ok (.istore 4, 2) := by decide +kernel
theorem dX8_close_13 : decode cX8_close 13 = .ok (.iconst 0, 1) := by decide +kernel
theorem dX8_close_14 : decode cX8_close 14 = .ok (.istore 5, 2) := by decide +kernel
theorem dX8_close_16 : decode cX8_close 16 = .ok (.iload 5, 2) := by decide +kernel
theorem dX8_close_18 : decode cX8_close 18 = .ok (.aload_n 0, 1) := by decide +kernel
theorem dX8_close_19 : decode cX8_close 19 = .ok (.getfield 77, 3) := by decide +kernel
theorem dX8_close_22 : decode cX8_close 22 = .ok (.if_icmp .ge 61, 3) := by decide +kernel
theorem dX8_close_25 : decode cX8_close 25 = .ok (.iload_n 2, 1) := by decide +kernel
theorem dX8_close_26 : decode cX8_close 26 = .ok (.iload 5, 2) := by decide +kernel
theorem dX8_close_28 : decode cX8_close 28 = .ok (.invokestatic 114, 3) := by decide +kernel
theorem dX8_close_31 : decode cX8_close 31 = .ok (.ifCond .eq 46, 3) := by decide +kernel
theorem dX8_close_34 : decode cX8_close 34 = .ok (.iload_n 3, 1) := by decide +kernel
theorem dX8_close_35 : decode cX8_close 35 = .ok (.aload_n 0, 1) := by decide +kernel
theorem dX8_close_36 : decode cX8_close 36 = .ok (.getfield 13, 3) := by decide +kernel
theorem dX8_close_39 : decode cX8_close 39 = .ok (.iload 5, 2) := by decide +kernel
theorem dX8_close_41 : decode cX8_close 41 = .ok (.iaload, 1) := by decide +kernel
theorem dX8_close_42 : decode cX8_close 42 = .ok (.invokestatic 114, 3) := by decide +kernel
theorem dX8_close_45 : decode cX8_close 45 = .ok (.ifCond .ne 32, 3) := by decide +kernel
theorem dX8_close_48 : decode cX8_close 48 = .ok (.aload_n 0, 1) := by decide +kernel
theorem dX8_close_49 : decode cX8_close 49 = .ok (.getfield 16, 3) := by decide +kernel
theorem dX8_close_52 : decode cX8_close 52 = .ok (.iload 5, 2) := by decide +kernel
theorem dX8_close_54 : decode cX8_close 54 = .ok (.iaload, 1) := by decide +kernel
theorem dX8_close_55 : decode cX8_close 55 = .ok (.iload_n 3, 1) := by decide +kernel
theorem dX8_close_56 : decode cX8_close 56 = .ok (.iconst (-1), 1) := by decide +kernel
theorem dX8_close_57 : decode cX8_close 57 = .ok (.ixor, 1) := by decide +kernel
theorem dX8_close_58 : decode cX8_close 58 = .ok (.iand, 1) := by decide +kernel
theorem dX8_close_59 : decode cX8_close 59 = .ok (.ifCond .ne 18, 3) := by decide +kernel
theorem dX8_close_62 : decode cX8_close 62 = .ok (.iload_n 3, 1) := by decide +kernel
theorem dX8_close_63 : decode cX8_close 63 = .ok (.iconst 1, 1) := by decide +kernel
theorem dX8_close_64 : decode cX8_close 64 = .ok (.aload_n 0, 1) := by decide +kernel
theorem dX8_close_65 : decode cX8_close 65 = .ok (.getfield 13, 3) := by decide +kernel
theorem dX8_close_68 : decode cX8_close 68 = .ok (.iload 5, 2) := by decide +kernel
theorem dX8_close_70 : decode cX8_close 70 = .ok (.iaload, 1) := by decide +kernel
theorem dX8_close_71 : decode cX8_close 71 = .ok (.ishl, 1) := by decide +kernel
theorem dX8_close_72 : decode cX8_close 72 = .ok (.ior, 1) := by decide +kernel
theorem dX8_close_73 : decode cX8_close 73 = .ok (.istore_n 3, 1) := by decide +kernel
theorem dX8_close_74 : decode cX8_close 74 = .ok (.iconst 1, 1) := by decide +kernel
theorem dX8_close_75 : decode cX8_close 75 = .ok (.istore 4, 2) := by decide +kernel
theorem dX8_close_77 : decode cX8_close 77 = .ok (.iinc 5 1, 3) := by decide +kernel
theorem dX8_close_80 : decode cX8_close 80 = .ok (.goto (-64), 3) := by decide +kernel
theorem dX8_close_83 : decode cX8_close 83 = .ok (.goto (-78), 3) := by decide +kernel
theorem dX8_close_86 : decode cX8_close 86 = .ok (.iload_n 3, 1) := by decide +kernel
theorem dX8_close_87 : decode cX8_close 87 = .ok (.ireturn, 1) := by decide +kernel
theorem dX8_allowed_0 : decode cX8_allowed 0 = .ok (.iconst 1, 1) := by decide +kernel
theorem dX8_allowed_1 : decode cX8_allowed 1 = .ok (.aload_n 0, 1) := by decide +kernel
theorem dX8_allowed_2 : decode cX8_allowed 2 = .ok (.getfield 77, 3) := by decide +kernel
theorem dX8_allowed_5 : decode cX8_allowed 5 = .ok (.ishl, 1) := by decide +kernel
theorem dX8_allowed_6 : decode cX8_allowed 6 = .ok (.iconst 1, 1) := by decide +kernel
theorem dX8_allowed_7 : decode cX8_allowed 7 = .ok (.isub, 1) := by decide +kernel
theorem dX8_allowed_8 : decode cX8_allowed 8 = .ok (.aload_n 0, 1) := by decide +kernel
theorem dX8_allowed_9 : decode cX8_allowed 9 = .ok (.getfield 19, 3) := by decide +kernel
theorem dX8_allowed_12 : decode cX8_allowed 12 = .ok (.iconst 2, 1) := by decide +kernel
theorem dX8_allowed_13 : decode cX8_allowed 13 = .ok (.iaload, 1) := by decide +kernel
theorem dX8_allowed_14 : decode cX8_allowed 14 = .ok (.iconst (-1), 1) := by decide +kernel
theorem dX8_allowed_15 : decode cX8_allowed 15 = .ok (.ixor, 1) := by decide +kernel
theorem dX8_allowed_16 : decode cX8_allowed 16 = .ok (.iand, 1) := by decide +kernel
theorem dX8_allowed_17 : decode cX8_allowed 17 = .ok (.ireturn, 1) := by decide +kernel
theorem dX8_followsNow_0 : decode cX8_followsNow 0 = .ok (.aload_n 0, 1) := by decide +kernel
theorem dX8_followsNow_1 : decode cX8_followsNow 1 = .ok (.aload_n 0, 1) := by decide +kernel
theorem dX8_followsNow_2 : decode cX8_followsNow 2 = .ok (.getfield 19, 3) := by decide +kernel
theorem dX8_followsNow_5 : decode cX8_followsNow 5 = .ok (.iconst 0, 1) := by decide +kernel
theorem dX8_followsNow_6 : decode cX8_followsNow 6 = .ok (.iaload, 1) := by decide +kernel
theorem dX8_followsNow_7 : decode cX8_followsNow 7 = .ok (.aload_n 0, 1) := by decide +kernel
theorem dX8_followsNow_8 : decode cX8_followsNow 8 = .ok (.invokevirtual 149, 3) := by decide +kernel
theorem dX8_followsNow_11 : decode cX8_followsNow 11 = .ok (.invokevirtual 152, 3) := by decide +kernel
theorem dX8_followsNow_14 : decode cX8_followsNow 14 = .ok (.ireturn, 1) := by decide +kernel
theorem dX8_quarrels_0 : decode cX8_quarrels 0 = .ok (.iconst 0, 1) := by decide +kernel
theorem dX8_quarrels_1 : decode cX8_quarrels 1 = .ok (.istore_n 1, 1) := by decide +kernel
theorem dX8_quarrels_2 : decode cX8_quarrels 2 = .ok (.iconst 0, 1) := by decide +kernel
theorem dX8_quarrels_3 : decode cX8_quarrels 3 = .ok (.istore_n 2, 1) := by decide +kernel
theorem dX8_quarrels_4 : decode cX8_quarrels 4 = .ok (.iload_n 2, 1) := by decide +kernel
theorem dX8_quarrels_5 : decode cX8_quarrels 5 = .ok (.bipush 8, 2) := by decide +kernel
theorem dX8_quarrels_7 : decode cX8_quarrels 7 = .ok (.if_icmp .ge 30, 3) := by decide +kernel
theorem dX8_quarrels_10 : decode cX8_quarrels 10 = .ok (.iload_n 1, 1) := by decide +kernel
theorem dX8_quarrels_11 : decode cX8_quarrels 11 = .ok (.iload_n 0, 1) := by decide +kernel
theorem dX8_quarrels_12 : decode cX8_quarrels 12 = .ok (.iconst 2, 1) := by decide +kernel
theorem dX8_quarrels_13 : decode cX8_quarrels 13 = .ok (.iload_n 2, 1) := by decide +kernel
theorem dX8_quarrels_14 : decode cX8_quarrels 14 = .ok (.imul, 1) := by decide +kernel
theorem dX8_quarrels_15 : decode cX8_quarrels 15 = .ok (.ishr, 1) := by decide +kernel
theorem dX8_quarrels_16 : decode cX8_quarrels 16 = .ok (.iconst 3, 1) := by decide +kernel
theorem dX8_quarrels_17 : decode cX8_quarrels 17 = .ok (.iand, 1) := by decide +kernel
theorem dX8_quarrels_18 : decode cX8_quarrels 18 = .ok (.iconst 3, 1) := by decide +kernel
theorem dX8_quarrels_19 : decode cX8_quarrels 19 = .ok (.if_icmp .ne 9, 3) := by decide +kernel
theorem dX8_quarrels_22 : decode cX8_quarrels 22 = .ok (.iconst 1, 1) := by decide +kernel
theorem dX8_quarrels_23 : decode cX8_quarrels 23 = .ok (.iload_n 2, 1) := by decide +kernel
theorem dX8_quarrels_24 : decode cX8_quarrels 24 = .ok (.ishl, 1) := by decide +kernel
theorem dX8_quarrels_25 : decode cX8_quarrels 25 = .ok (.goto 4, 3) := by decide +kernel
theorem dX8_quarrels_28 : decode cX8_quarrels 28 = .ok (.iconst 0, 1) := by decide +kernel
theorem dX8_quarrels_29 : decode cX8_quarrels 29 = .ok (.ior, 1) := by decide +kernel
theorem dX8_quarrels_30 : decode cX8_quarrels 30 = .ok (.istore_n 1, 1) := by decide +kernel
theorem dX8_quarrels_31 : decode cX8_quarrels 31 = .ok (.iinc 2 1, 3) := by decide +kernel
theorem dX8_quarrels_34 : decode cX8_quarrels 34 = .ok (.goto (-30), 3) := by decide +kernel
theorem dX8_quarrels_37 : decode cX8_quarrels 37 = .ok (.iload_n 1, 1) := by decide +kernel
theorem dX8_quarrels_38 : decode cX8_quarrels 38 = .ok (.ireturn, 1) := by decide +kernel
theorem dX8_told_0 : decode cX8_told 0 = .ok (.iload_n 1, 1) := by decide +kernel
theorem dX8_told_1 : decode cX8_told 1 = .ok (.tableswitch 148 0 12 #[67, 72, 77, 82, 89, 96, 103, 110, 115, 123, 133, 138, 143], 67) := by decide +kernel
theorem dX8_told_68 : decode cX8_told 68 = .ok (.aload_n 0, 1) := by decide +kernel
theorem dX8_told_69 : decode cX8_told 69 = .ok (.getfield 70, 3) := by decide +kernel
theorem dX8_told_72 : decode cX8_told 72 = .ok (.ireturn, 1) := by decide +kernel
theorem dX8_told_73 : decode cX8_told 73 = .ok (.aload_n 0, 1) := by decide +kernel
theorem dX8_told_74 : decode cX8_told 74 = .ok (.getfield 77, 3) := by decide +kernel
theorem dX8_told_77 : decode cX8_told 77 = .ok (.ireturn, 1) := by decide +kernel
theorem dX8_told_78 : decode cX8_told 78 = .ok (.aload_n 0, 1) := by decide +kernel
theorem dX8_told_79 : decode cX8_told 79 = .ok (.getfield 83, 3) := by decide +kernel
theorem dX8_told_82 : decode cX8_told 82 = .ok (.ireturn, 1) := by decide +kernel
theorem dX8_told_83 : decode cX8_told 83 = .ok (.aload_n 0, 1) := by decide +kernel
theorem dX8_told_84 : decode cX8_told 84 = .ok (.getfield 19, 3) := by decide +kernel
theorem dX8_told_87 : decode cX8_told 87 = .ok (.iconst 0, 1) := by decide +kernel
theorem dX8_told_88 : decode cX8_told 88 = .ok (.iaload, 1) := by decide +kernel
theorem dX8_told_89 : decode cX8_told 89 = .ok (.ireturn, 1) := by decide +kernel
theorem dX8_told_90 : decode cX8_told 90 = .ok (.aload_n 0, 1) := by decide +kernel
theorem dX8_told_91 : decode cX8_told 91 = .ok (.getfield 19, 3) := by decide +kernel
theorem dX8_told_94 : decode cX8_told 94 = .ok (.iconst 1, 1) := by decide +kernel
theorem dX8_told_95 : decode cX8_told 95 = .ok (.iaload, 1) := by decide +kernel
theorem dX8_told_96 : decode cX8_told 96 = .ok (.ireturn, 1) := by decide +kernel
theorem dX8_told_97 : decode cX8_told 97 = .ok (.aload_n 0, 1) := by decide +kernel
theorem dX8_told_98 : decode cX8_told 98 = .ok (.getfield 19, 3) := by decide +kernel
theorem dX8_told_101 : decode cX8_told 101 = .ok (.iconst 2, 1) := by decide +kernel
theorem dX8_told_102 : decode cX8_told 102 = .ok (.iaload, 1) := by decide +kernel
theorem dX8_told_103 : decode cX8_told 103 = .ok (.ireturn, 1) := by decide +kernel
theorem dX8_told_104 : decode cX8_told 104 = .ok (.aload_n 0, 1) := by decide +kernel
theorem dX8_told_105 : decode cX8_told 105 = .ok (.getfield 19, 3) := by decide +kernel
theorem dX8_told_108 : decode cX8_told 108 = .ok (.iconst 3, 1) := by decide +kernel
theorem dX8_told_109 : decode cX8_told 109 = .ok (.iaload, 1) := by decide +kernel
theorem dX8_told_110 : decode cX8_told 110 = .ok (.ireturn, 1) := by decide +kernel
theorem dX8_told_111 : decode cX8_told 111 = .ok (.aload_n 0, 1) := by decide +kernel
theorem dX8_told_112 : decode cX8_told 112 = .ok (.invokevirtual 155, 3) := by decide +kernel
theorem dX8_told_115 : decode cX8_told 115 = .ok (.ireturn, 1) := by decide +kernel
theorem dX8_told_116 : decode cX8_told 116 = .ok (.aload_n 0, 1) := by decide +kernel
theorem dX8_told_117 : decode cX8_told 117 = .ok (.invokevirtual 155, 3) := by decide +kernel
theorem dX8_told_120 : decode cX8_told 120 = .ok (.invokestatic 158, 3) := by decide +kernel
theorem dX8_told_123 : decode cX8_told 123 = .ok (.ireturn, 1) := by decide +kernel
theorem dX8_told_124 : decode cX8_told 124 = .ok (.aload_n 0, 1) := by decide +kernel
theorem dX8_told_125 : decode cX8_told 125 = .ok (.getfield 19, 3) := by decide +kernel
theorem dX8_told_128 : decode cX8_told 128 = .ok (.iconst 1, 1) := by decide +kernel
theorem dX8_told_129 : decode cX8_told 129 = .ok (.iaload, 1) := by decide +kernel
theorem dX8_told_130 : decode cX8_told 130 = .ok (.invokestatic 158, 3) := by decide +kernel
theorem dX8_told_133 : decode cX8_told 133 = .ok (.ireturn, 1) := by decide +kernel
theorem dX8_told_134 : decode cX8_told 134 = .ok (.aload_n 0, 1) := by decide +kernel
theorem dX8_told_135 : decode cX8_told 135 = .ok (.getfield 140, 3) := by decide +kernel
theorem dX8_told_138 : decode cX8_told 138 = .ok (.ireturn, 1) := by decide +kernel
theorem dX8_told_139 : decode cX8_told 139 = .ok (.aload_n 0, 1) := by decide +kernel
theorem dX8_told_140 : decode cX8_told 140 = .ok (.getfield 143, 3) := by decide +kernel
theorem dX8_told_143 : decode cX8_told 143 = .ok (.ireturn, 1) := by decide +kernel
theorem dX8_told_144 : decode cX8_told 144 = .ok (.aload_n 0, 1) := by decide +kernel
theorem dX8_told_145 : decode cX8_told 145 = .ok (.getfield 146, 3) := by decide +kernel
theorem dX8_told_148 : decode cX8_told 148 = .ok (.ireturn, 1) := by decide +kernel
theorem dX8_told_149 : decode cX8_told 149 = .ok (.ldc 82, 2) := by decide +kernel
theorem dX8_told_151 : decode cX8_told 151 = .ok (.ireturn, 1) := by decide +kernel
theorem dX8_rule_0 : decode cX8_rule 0 = .ok (.aload_n 0, 1) := by decide +kernel
theorem dX8_rule_1 : decode cX8_rule 1 = .ok (.iload_n 1, 1) := by decide +kernel
theorem dX8_rule_2 : decode cX8_rule 2 = .ok (.invokevirtual 161, 3) := by decide +kernel
theorem dX8_rule_5 : decode cX8_rule 5 = .ok (.ifCond .ne 6, 3) := by decide +kernel
theorem dX8_rule_8 : decode cX8_rule 8 = .ok (.ldc 165, 2) := by decide +kernel
theorem dX8_rule_10 : decode cX8_rule 10 = .ok (.ireturn, 1) := by decide +kernel
theorem dX8_rule_11 : decode cX8_rule 11 = .ok (.iload_n 2, 1) := by decide +kernel
theorem dX8_rule_12 : decode cX8_rule 12 = .ok (.tableswitch 64 0 3 #[32, 39, 46, 53], 32) := by decide +kernel
theorem dX8_rule_44 : decode cX8_rule 44 = .ok (.aload_n 0, 1) := by decide +kernel
theorem dX8_rule_45 : decode cX8_rule 45 = .ok (.getfield 7, 3) := by decide +kernel
theorem dX8_rule_48 : decode cX8_rule 48 = .ok (.iload_n 1, 1) := by decide +kernel
theorem dX8_rule_49 : decode cX8_rule 49 = .ok (.iaload, 1) := by decide +kernel
theorem dX8_rule_50 : decode cX8_rule 50 = .ok (.ireturn, 1) := by decide +kernel
theorem dX8_rule_51 : decode cX8_rule 51 = .ok (.aload_n 0, 1) := by decide +kernel
theorem dX8_rule_52 : decode cX8_rule 52 = .ok (.getfield 13, 3) := by decide +kernel
theorem dX8_rule_55 : decode cX8_rule 55 = .ok (.iload_n 1, 1) := by decide +kernel
theorem dX8_rule_56 : decode cX8_rule 56 = .ok (.iaload, 1) := by decide +kernel
theorem dX8_rule_57 : decode cX8_rule 57 = .ok (.ireturn, 1) := by decide +kernel
theorem dX8_rule_58 : decode cX8_rule 58 = .ok (.aload_n 0, 1) := by decide +kernel
theorem dX8_rule_59 : decode cX8_rule 59 = .ok (.getfield 16, 3) := by decide +kernel
theorem dX8_rule_62 : decode cX8_rule 62 = .ok (.iload_n 1, 1) := by decide +kernel
theorem dX8_rule_63 : decode cX8_rule 63 = .ok (.iaload, 1) := by decide +kernel
theorem dX8_rule_64 : decode cX8_rule 64 = .ok (.ireturn, 1) := by decide +kernel
theorem dX8_rule_65 : decode cX8_rule 65 = .ok (.aload_n 0, 1) := by decide +kernel
theorem dX8_rule_66 : decode cX8_rule 66 = .ok (.getfield 19, 3) := by decide +kernel
theorem dX8_rule_69 : decode cX8_rule 69 = .ok (.iconst 2, 1) := by decide +kernel
theorem dX8_rule_70 : decode cX8_rule 70 = .ok (.iaload, 1) := by decide +kernel
theorem dX8_rule_71 : decode cX8_rule 71 = .ok (.iload_n 1, 1) := by decide +kernel
theorem dX8_rule_72 : decode cX8_rule 72 = .ok (.ishr, 1) := by decide +kernel
theorem dX8_rule_73 : decode cX8_rule 73 = .ok (.iconst 1, 1) := by decide +kernel
theorem dX8_rule_74 : decode cX8_rule 74 = .ok (.iand, 1) := by decide +kernel
theorem dX8_rule_75 : decode cX8_rule 75 = .ok (.ireturn, 1) := by decide +kernel
theorem dX8_rule_76 : decode cX8_rule 76 = .ok (.ldc 82, 2) := by decide +kernel
theorem dX8_rule_78 : decode cX8_rule 78 = .ok (.ireturn, 1) := by decide +kernel
theorem dX8_remember_0 : decode cX8_remember 0 = .ok (.aload_n 0, 1) := by decide +kernel
theorem dX8_remember_1 : decode cX8_remember 1 = .ok (.getfield 146, 3) := by decide +kernel
theorem dX8_remember_4 : decode cX8_remember 4 = .ok (.bipush 20, 2) := by decide +kernel
theorem dX8_remember_6 : decode cX8_remember 6 = .ok (.if_icmp .ne 41, 3) := by decide +kernel
theorem dX8_remember_9 : decode cX8_remember 9 = .ok (.iconst 4, 1) := by decide +kernel
theorem dX8_remember_10 : decode cX8_remember 10 = .ok (.istore_n 1, 1) := by decide +kernel
theorem dX8_remember_11 : decode cX8_remember 11 = .ok (.iload_n 1, 1) := by decide +kernel
theorem dX8_remember_12 : decode cX8_remember 12 = .ok (.bipush 80, 2) := by decide +kernel
theorem dX8_remember_14 : decode cX8_remember 14 = .ok (.if_icmp .ge 23, 3) := by decide +kernel
theorem dX8_remember_17 : decode cX8_remember 17 = .ok (.aload_n 0, 1) := by decide +kernel
theorem dX8_remember_18 : decode cX8_remember 18 = .ok (.getfield 38, 3) := by decide +kernel
theorem dX8_remember_21 : decode cX8_remember 21 = .ok (.iload_n 1, 1) := by decide +kernel
theorem dX8_remember_22 : decode cX8_remember 22 = .ok (.iconst 4, 1) := by decide +kernel
theorem dX8_remember_23 : decode cX8_remember 23 = .ok (.isub, 1) := by decide +kernel
theorem dX8_remember_24 : decode cX8_remember 24 = .ok (.aload_n 0, 1) := by decide +kernel
theorem dX8_remember_25 : decode cX8_remember 25 = .ok (.getfield 38, 3) := by decide +kernel
theorem dX8_remember_28 : decode cX8_remember 28 = .ok (.iload_n 1, 1) := by decide +kernel
theorem dX8_remember_29 : decode cX8_remember 29 = .ok (.iaload, 1) := by decide +kernel
theorem dX8_remember_30 : decode cX8_remember 30 = .ok (.iastore, 1) := by decide +kernel
theorem dX8_remember_31 : decode cX8_remember 31 = .ok (.iinc 1 1, 3) := by decide +kernel
theorem dX8_remember_34 : decode cX8_remember 34 = .ok (.goto (-23), 3) := by decide +kernel
theorem dX8_remember_37 : decode cX8_remember 37 = .ok (.aload_n 0, 1) := by decide +kernel
theorem dX8_remember_38 : decode cX8_remember 38 = .ok (.dup, 1) := by decide +kernel
theorem dX8_remember_39 : decode cX8_remember 39 = .ok (.getfield 146, 3) := by decide +kernel
theorem dX8_remember_42 : decode cX8_remember 42 = .ok (.iconst 1, 1) := by decide +kernel
theorem dX8_remember_43 : decode cX8_remember 43 = .ok (.isub, 1) := by decide +kernel
theorem dX8_remember_44 : decode cX8_remember 44 = .ok (.putfield 146, 3) := by decide +kernel
theorem dX8_remember_47 : decode cX8_remember 47 = .ok (.iconst 0, 1) := by decide +kernel
theorem dX8_remember_48 : decode cX8_remember 48 = .ok (.istore_n 1, 1) := by decide +kernel
theorem dX8_remember_49 : decode cX8_remember 49 = .ok (.iload_n 1, 1) := by decide +kernel
theorem dX8_remember_50 : decode cX8_remember 50 = .ok (.iconst 4, 1) := by decide +kernel
theorem dX8_remember_51 : decode cX8_remember 51 = .ok (.if_icmp .ge 28, 3) := by decide +kernel
theorem dX8_remember_54 : decode cX8_remember 54 = .ok (.aload_n 0, 1) := by decide +kernel
theorem dX8_remember_55 : decode cX8_remember 55 = .ok (.getfield 38, 3) := by decide +kernel
theorem dX8_remember_58 : decode cX8_remember 58 = .ok (.iconst 4, 1) := by decide +kernel
theorem dX8_remember_59 : decode cX8_remember 59 = .ok (.aload_n 0, 1) := by decide +kernel
theorem dX8_remember_60 : decode cX8_remember 60 = .ok (.getfield 146, 3) := by decide +kernel
theorem dX8_remember_63 : decode cX8_remember 63 = .ok (.imul, 1) := by decide +kernel
theorem dX8_remember_64 : decode cX8_remember 64 = .ok (.iload_n 1, 1) := by decide +kernel
theorem dX8_remember_65 : decode cX8_remember 65 = .ok (.iadd, 1) := by decide +kernel
theorem dX8_remember_66 : decode cX8_remember 66 = .ok (.aload_n 0, 1) := by decide +kernel
theorem dX8_remember_67 : decode cX8_remember 67 = .ok (.getfield 19, 3) := by decide +kernel
theorem dX8_remember_70 : decode cX8_remember 70 = .ok (.iload_n 1, 1) := by decide +kernel
theorem dX8_remember_71 : decode cX8_remember 71 = .ok (.iaload, 1) := by decide +kernel
theorem dX8_remember_72 : decode cX8_remember 72 = .ok (.iastore, 1) := by decide +kernel
theorem dX8_remember_73 : decode cX8_remember 73 = .ok (.iinc 1 1, 3) := by decide +kernel
theorem dX8_remember_76 : decode cX8_remember 76 = .ok (.goto (-27), 3) := by decide +kernel
theorem dX8_remember_79 : decode cX8_remember 79 = .ok (.aload_n 0, 1) := by decide +kernel
theorem dX8_remember_80 : decode cX8_remember 80 = .ok (.dup, 1) := by decide +kernel
theorem dX8_remember_81 : decode cX8_remember 81 = .ok (.getfield 146, 3) := by decide +kernel
theorem dX8_remember_84 : decode cX8_remember 84 = .ok (.iconst 1, 1) := by decide +kernel
theorem dX8_remember_85 : decode cX8_remember 85 = .ok (.iadd, 1) := by decide +kernel
theorem dX8_remember_86 : decode cX8_remember 86 = .ok (.putfield 146, 3) := by decide +kernel
theorem dX8_remember_89 : decode cX8_remember 89 = .ok (.return_, 1) := by decide +kernel
theorem dX8_with_0 : decode cX8_with 0 = .ok (.iload_n 2, 1) := by decide +kernel
theorem dX8_with_1 : decode cX8_with 1 = .ok (.ifCond .eq 11, 3) := by decide +kernel
theorem dX8_with_4 : decode cX8_with 4 = .ok (.iload_n 0, 1) := by decide +kernel
theorem dX8_with_5 : decode cX8_with 5 = .ok (.iconst 1, 1) := by decide +kernel
theorem dX8_with_6 : decode cX8_with 6 = .ok (.iload_n 1, 1) := by decide +kernel
theorem dX8_with_7 : decode cX8_with 7 = .ok (.ishl, 1) := by decide +kernel
theorem dX8_with_8 : decode cX8_with 8 = .ok (.ior, 1) := by decide +kernel
theorem dX8_with_9 : decode cX8_with 9 = .ok (.goto 10, 3) := by decide +kernel
theorem dX8_with_12 : decode cX8_with 12 = .ok (.iload_n 0, 1) := by decide +kernel
theorem dX8_with_13 : decode cX8_with 13 = .ok (.iconst 1, 1) := by decide +kernel
theorem dX8_with_14 : decode cX8_with 14 = .ok (.iload_n 1, 1) := by decide +kernel
theorem dX8_with_15 : decode cX8_with 15 = .ok (.ishl, 1) := by decide +kernel
theorem dX8_with_16 : decode cX8_with 16 = .ok (.iconst (-1), 1) := by decide +kernel
theorem dX8_with_17 : decode cX8_with 17 = .ok (.ixor, 1) := by decide +kernel
theorem dX8_with_18 : decode cX8_with 18 = .ok (.iand, 1) := by decide +kernel
theorem dX8_with_19 : decode cX8_with 19 = .ok (.ireturn, 1) := by decide +kernel
theorem dX8_see_0 : decode cX8_see 0 = .ok (.aload_n 0, 1) := by decide +kernel
theorem dX8_see_1 : decode cX8_see 1 = .ok (.iload_n 1, 1) := by decide +kernel
theorem dX8_see_2 : decode cX8_see 2 = .ok (.invokevirtual 166, 3) := by decide +kernel
theorem dX8_see_5 : decode cX8_see 5 = .ok (.ifCond .ne 6, 3) := by decide +kernel
theorem dX8_see_8 : decode cX8_see 8 = .ok (.ldc 165, 2) := by decide +kernel
theorem dX8_see_10 : decode cX8_see 10 = .ok (.ireturn, 1) := by decide +kernel
theorem dX8_see_11 : decode cX8_see 11 = .ok (.aload_n 0, 1) := by decide +kernel
theorem dX8_see_12 : decode cX8_see 12 = .ok (.invokevirtual 169, 3) := by decide +kernel
theorem dX8_see_15 : decode cX8_see 15 = .ok (.aload_n 0, 1) := by decide +kernel
theorem dX8_see_16 : decode cX8_see 16 = .ok (.getfield 19, 3) := by decide +kernel
theorem dX8_see_19 : decode cX8_see 19 = .ok (.iconst 0, 1) := by decide +kernel
theorem dX8_see_20 : decode cX8_see 20 = .ok (.iaload, 1) := by decide +kernel
theorem dX8_see_21 : decode cX8_see 21 = .ok (.iload_n 1, 1) := by decide +kernel
theorem dX8_see_22 : decode cX8_see 22 = .ok (.ishr, 1) := by decide +kernel
theorem dX8_see_23 : decode cX8_see 23 = .ok (.iconst 1, 1) := by decide +kernel
theorem dX8_see_24 : decode cX8_see 24 = .ok (.iand, 1) := by decide +kernel
theorem dX8_see_25 : decode cX8_see 25 = .ok (.istore_n 3, 1) := by decide +kernel
theorem dX8_see_26 : decode cX8_see 26 = .ok (.aload_n 0, 1) := by decide +kernel
theorem dX8_see_27 : decode cX8_see 27 = .ok (.getfield 19, 3) := by decide +kernel
theorem dX8_see_30 : decode cX8_see 30 = .ok (.iconst 0, 1) := by decide +kernel
theorem dX8_see_31 : decode cX8_see 31 = .ok (.aload_n 0, 1) := by decide +kernel
theorem dX8_see_32 : decode cX8_see 32 = .ok (.getfield 19, 3) := by decide +kernel
theorem dX8_see_35 : decode cX8_see 35 = .ok (.iconst 0, 1) := by decide +kernel
theorem dX8_see_36 : decode cX8_see 36 = .ok (.iaload, 1) := by decide +kernel
theorem dX8_see_37 : decode cX8_see 37 = .ok (.iload_n 1, 1) := by decide +kernel
theorem dX8_see_38 : decode cX8_see 38 = .ok (.iload_n 2, 1) := by decide +kernel
theorem dX8_see_39 : decode cX8_see 39 = .ok (.invokestatic 172, 3) := by decide +kernel
theorem dX8_see_42 : decode cX8_see 42 = .ok (.iastore, 1) := by decide +kernel
theorem dX8_see_43 : decode cX8_see 43 = .ok (.iload_n 3, 1) := by decide +kernel
theorem dX8_see_44 : decode cX8_see 44 = .ok (.ireturn, 1) := by decide +kernel
theorem dX8_forbid_0 : decode cX8_forbid 0 = .ok (.aload_n 0, 1) := by decide +kernel
theorem dX8_forbid_1 : decode cX8_forbid 1 = .ok (.iload_n 1, 1) := by decide +kernel
theorem dX8_forbid_2 : decode cX8_forbid 2 = .ok (.invokevirtual 161, 3) := by decide +kernel
theorem dX8_forbid_5 : decode cX8_forbid 5 = .ok (.ifCond .ne 6, 3) := by decide +kernel
theorem dX8_forbid_8 : decode cX8_forbid 8 = .ok (.ldc 165, 2) := by decide +kernel
theorem dX8_forbid_10 : decode cX8_forbid 10 = .ok (.ireturn, 1) := by decide +kernel
theorem dX8_forbid_11 : decode cX8_forbid 11 = .ok (.aload_n 0, 1) := by decide +kernel
theorem dX8_forbid_12 : decode cX8_forbid 12 = .ok (.invokevirtual 169, 3) := by decide +kernel
theorem dX8_forbid_15 : decode cX8_forbid 15 = .ok (.aload_n 0, 1) := by decide +kernel
theorem dX8_forbid_16 : decode cX8_forbid 16 = .ok (.getfield 19, 3) := by decide +kernel
theorem dX8_forbid_19 : decode cX8_forbid 19 = .ok (.iconst 2, 1) := by decide +kernel
theorem dX8_forbid_20 : decode cX8_forbid 20 = .ok (.iaload, 1) := by decide +kernel
theorem dX8_forbid_21 : decode cX8_forbid 21 = .ok (.iload_n 1, 1) := by decide +kernel
theorem dX8_forbid_22 : decode cX8_forbid 22 = .ok (.ishr, 1) := by decide +kernel
theorem dX8_forbid_23 : decode cX8_forbid 23 = .ok (.iconst 1, 1) := by decide +kernel
theorem dX8_forbid_24 : decode cX8_forbid 24 = .ok (.iand, 1) := by decide +kernel
theorem dX8_forbid_25 : decode cX8_forbid 25 = .ok (.istore_n 3, 1) := by decide +kernel
theorem dX8_forbid_26 : decode cX8_forbid 26 = .ok (.aload_n 0, 1) := by decide +kernel
theorem dX8_forbid_27 : decode cX8_forbid 27 = .ok (.getfield 19, 3) := by decide +kernel
theorem dX8_forbid_30 : decode cX8_forbid 30 = .ok (.iconst 2, 1) := by decide +kernel
theorem dX8_forbid_31 : decode cX8_forbid 31 = .ok (.aload_n 0, 1) := by decide +kernel
theorem dX8_forbid_32 : decode cX8_forbid 32 = .ok (.getfield 19, 3) := by decide +kernel
theorem dX8_forbid_35 : decode cX8_forbid 35 = .ok (.iconst 2, 1) := by decide +kernel
theorem dX8_forbid_36 : decode cX8_forbid 36 = .ok (.iaload, 1) := by decide +kernel
theorem dX8_forbid_37 : decode cX8_forbid 37 = .ok (.iload_n 1, 1) := by decide +kernel
theorem dX8_forbid_38 : decode cX8_forbid 38 = .ok (.iload_n 2, 1) := by decide +kernel
theorem dX8_forbid_39 : decode cX8_forbid 39 = .ok (.invokestatic 172, 3) := by decide +kernel
theorem dX8_forbid_42 : decode cX8_forbid 42 = .ok (.iastore, 1) := by decide +kernel
theorem dX8_forbid_43 : decode cX8_forbid 43 = .ok (.iload_n 3, 1) := by decide +kernel
theorem dX8_forbid_44 : decode cX8_forbid 44 = .ok (.ireturn, 1) := by decide +kernel
theorem dX8_debateNow_0 : decode cX8_debateNow 0 = .ok (.aload_n 0, 1) := by decide +kernel
theorem dX8_debateNow_1 : decode cX8_debateNow 1 = .ok (.getfield 19, 3) := by decide +kernel
theorem dX8_debateNow_4 : decode cX8_debateNow 4 = .ok (.iconst 1, 1) := by decide +kernel
theorem dX8_debateNow_5 : decode cX8_debateNow 5 = .ok (.aload_n 0, 1) := by decide +kernel
theorem dX8_debateNow_6 : decode cX8_debateNow 6 = .ok (.aload_n 0, 1) := by decide +kernel
theorem dX8_debateNow_7 : decode cX8_debateNow 7 = .ok (.getfield 19, 3) := by decide +kernel
theorem dX8_debateNow_10 : decode cX8_debateNow 10 = .ok (.iconst 0, 1) := by decide +kernel
theorem dX8_debateNow_11 : decode cX8_debateNow 11 = .ok (.iaload, 1) := by decide +kernel
theorem dX8_debateNow_12 : decode cX8_debateNow 12 = .ok (.aload_n 0, 1) := by decide +kernel
theorem dX8_debateNow_13 : decode cX8_debateNow 13 = .ok (.getfield 19, 3) := by decide +kernel
theorem dX8_debateNow_16 : decode cX8_debateNow 16 = .ok (.iconst 1, 1) := by decide +kernel
theorem dX8_debateNow_17 : decode cX8_debateNow 17 = .ok (.iaload, 1) := by decide +kernel
theorem dX8_debateNow_18 : decode cX8_debateNow 18 = .ok (.ior, 1) := by decide +kernel
theorem dX8_debateNow_19 : decode cX8_debateNow 19 = .ok (.aload_n 0, 1) := by decide +kernel
theorem dX8_debateNow_20 : decode cX8_debateNow 20 = .ok (.invokevirtual 149, 3) := by decide +kernel
theorem dX8_debateNow_23 : decode cX8_debateNow 23 = .ok (.invokevirtual 152, 3) := by decide +kernel
theorem dX8_debateNow_26 : decode cX8_debateNow 26 = .ok (.iastore, 1) := by decide +kernel
theorem dX8_debateNow_27 : decode cX8_debateNow 27 = .ok (.aload_n 0, 1) := by decide +kernel
theorem dX8_debateNow_28 : decode cX8_debateNow 28 = .ok (.getfield 19, 3) := by decide +kernel
theorem dX8_debateNow_31 : decode cX8_debateNow 31 = .ok (.iconst 3, 1) := by decide +kernel
theorem dX8_debateNow_32 : decode cX8_debateNow 32 = .ok (.dup2, 1) := by decide +kernel
theorem dX8_debateNow_33 : decode cX8_debateNow 33 = .ok (.iaload, 1) := by decide +kernel
theorem dX8_debateNow_34 : decode cX8_debateNow 34 = .ok (.iconst 1, 1) := by decide +kernel
theorem dX8_debateNow_35 : decode cX8_debateNow 35 = .ok (.iadd, 1) := by decide +kernel
theorem dX8_debateNow_36 : decode cX8_debateNow 36 = .ok (.iastore, 1) := by decide +kernel
theorem dX8_debateNow_37 : decode cX8_debateNow 37 = .ok (.return_, 1) := by decide +kernel
theorem dX8_debate_0 : decode cX8_debate 0 = .ok (.aload_n 0, 1) := by decide +kernel
theorem dX8_debate_1 : decode cX8_debate 1 = .ok (.getfield 70, 3) := by decide +kernel
theorem dX8_debate_4 : decode cX8_debate 4 = .ok (.ifCond .ne 6, 3) := by decide +kernel
theorem dX8_debate_7 : decode cX8_debate 7 = .ok (.ldc 176, 2) := by decide +kernel
theorem dX8_debate_9 : decode cX8_debate 9 = .ok (.ireturn, 1) := by decide +kernel
theorem dX8_debate_10 : decode cX8_debate 10 = .ok (.aload_n 0, 1) := by decide +kernel
theorem dX8_debate_11 : decode cX8_debate 11 = .ok (.getfield 19, 3) := by decide +kernel
theorem dX8_debate_14 : decode cX8_debate 14 = .ok (.iconst 3, 1) := by decide +kernel
theorem dX8_debate_15 : decode cX8_debate 15 = .ok (.iaload, 1) := by decide +kernel
theorem dX8_debate_16 : decode cX8_debate 16 = .ok (.sipush 9000, 3) := by decide +kernel
theorem dX8_debate_19 : decode cX8_debate 19 = .ok (.if_icmp .le 6, 3) := by decide +kernel
theorem dX8_debate_22 : decode cX8_debate 22 = .ok (.ldc 86, 2) := by decide +kernel
theorem dX8_debate_24 : decode cX8_debate 24 = .ok (.ireturn, 1) := by decide +kernel
theorem dX8_debate_25 : decode cX8_debate 25 = .ok (.aload_n 0, 1) := by decide +kernel
theorem dX8_debate_26 : decode cX8_debate 26 = .ok (.invokevirtual 169, 3) := by decide +kernel
theorem dX8_debate_29 : decode cX8_debate 29 = .ok (.aload_n 0, 1) := by decide +kernel
theorem dX8_debate_30 : decode cX8_debate 30 = .ok (.invokevirtual 177, 3) := by decide +kernel
theorem dX8_debate_33 : decode cX8_debate 33 = .ok (.aload_n 0, 1) := by decide +kernel
theorem dX8_debate_34 : decode cX8_debate 34 = .ok (.getfield 19, 3) := by decide +kernel
theorem dX8_debate_37 : decode cX8_debate 37 = .ok (.iconst 1, 1) := by decide +kernel
theorem dX8_debate_38 : decode cX8_debate 38 = .ok (.iaload, 1) := by decide +kernel
theorem dX8_debate_39 : decode cX8_debate 39 = .ok (.ireturn, 1) := by decide +kernel
theorem dX8_drop_0 : decode cX8_drop 0 = .ok (.aload_n 0, 1) := by decide +kernel
theorem dX8_drop_1 : decode cX8_drop 1 = .ok (.getfield 70, 3) := by decide +kernel
theorem dX8_drop_4 : decode cX8_drop 4 = .ok (.ifCond .ne 6, 3) := by decide +kernel
theorem dX8_drop_7 : decode cX8_drop 7 = .ok (.ldc 176, 2) := by decide +kernel
theorem dX8_drop_9 : decode cX8_drop 9 = .ok (.ireturn, 1) := by decide +kernel
theorem dX8_drop_10 : decode cX8_drop 10 = .ok (.aload_n 0, 1) := by decide +kernel
theorem dX8_drop_11 : decode cX8_drop 11 = .ok (.invokevirtual 169, 3) := by decide +kernel
theorem dX8_drop_14 : decode cX8_drop 14 = .ok (.aload_n 0, 1) := by decide +kernel
theorem dX8_drop_15 : decode cX8_drop 15 = .ok (.getfield 19, 3) := by decide +kernel
theorem dX8_drop_18 : decode cX8_drop 18 = .ok (.iconst 1, 1) := by decide +kernel
theorem dX8_drop_19 : decode cX8_drop 19 = .ok (.iaload, 1) := by decide +kernel
theorem dX8_drop_20 : decode cX8_drop 20 = .ok (.istore_n 1, 1) := by decide +kernel
theorem dX8_drop_21 : decode cX8_drop 21 = .ok (.aload_n 0, 1) := by decide +kernel
theorem dX8_drop_22 : decode cX8_drop 22 = .ok (.getfield 19, 3) := by decide +kernel
theorem dX8_drop_25 : decode cX8_drop 25 = .ok (.iconst 1, 1) := by decide +kernel
theorem dX8_drop_26 : decode cX8_drop 26 = .ok (.iconst 0, 1) := by decide +kernel
theorem dX8_drop_27 : decode cX8_drop 27 = .ok (.iastore, 1) := by decide +kernel
theorem dX8_drop_28 : decode cX8_drop 28 = .ok (.iload_n 1, 1) := by decide +kernel
theorem dX8_drop_29 : decode cX8_drop 29 = .ok (.ireturn, 1) := by decide +kernel
theorem dX8_draw_0 : decode cX8_draw 0 = .ok (.aload_n 0, 1) := by decide +kernel
theorem dX8_draw_1 : decode cX8_draw 1 = .ok (.aload_n 0, 1) := by decide +kernel
theorem dX8_draw_2 : decode cX8_draw 2 = .ok (.getfield 180, 3) := by decide +kernel
theorem dX8_draw_5 : decode cX8_draw 5 = .ok (.i2l, 1) := by decide +kernel
theorem dX8_draw_6 : decode cX8_draw 6 = .ok (.ldc2_w 183, 3) := by decide +kernel
theorem dX8_draw_9 : decode cX8_draw 9 = .ok (.lmul, 1) := by decide +kernel
theorem dX8_draw_10 : decode cX8_draw 10 = .ok (.ldc2_w 185, 3) := by decide +kernel
theorem dX8_draw_13 : decode cX8_draw 13 = .ok (.ladd, 1) := by decide +kernel
theorem dX8_draw_14 : decode cX8_draw 14 = .ok (.ldc2_w 187, 3) := by decide +kernel
theorem dX8_draw_17 : decode cX8_draw 17 = .ok (.lrem, 1) := by decide +kernel
theorem dX8_draw_18 : decode cX8_draw 18 = .ok (.l2i, 1) := by decide +kernel
theorem dX8_draw_19 : decode cX8_draw 19 = .ok (.putfield 180, 3) := by decide +kernel
theorem dX8_draw_22 : decode cX8_draw 22 = .ok (.aload_n 0, 1) := by decide +kernel
theorem dX8_draw_23 : decode cX8_draw 23 = .ok (.getfield 180, 3) := by decide +kernel
theorem dX8_draw_26 : decode cX8_draw 26 = .ok (.ldc 189, 2) := by decide +kernel
theorem dX8_draw_28 : decode cX8_draw 28 = .ok (.idiv, 1) := by decide +kernel
theorem dX8_draw_29 : decode cX8_draw 29 = .ok (.iload_n 1, 1) := by decide +kernel
theorem dX8_draw_30 : decode cX8_draw 30 = .ok (.irem, 1) := by decide +kernel
theorem dX8_draw_31 : decode cX8_draw 31 = .ok (.ireturn, 1) := by decide +kernel
theorem dX8_drift_0 : decode cX8_drift 0 = .ok (.iload_n 1, 1) := by decide +kernel
theorem dX8_drift_1 : decode cX8_drift 1 = .ok (.i2l, 1) := by decide +kernel
theorem dX8_drift_2 : decode cX8_drift 2 = .ok (.lconst 1, 1) := by decide +kernel
theorem dX8_drift_3 : decode cX8_drift 3 = .ok (.ldc2_w 190, 3) := by decide +kernel
theorem dX8_drift_6 : decode cX8_drift 6 = .ok (.invokestatic 73, 3) := by decide +kernel
theorem dX8_drift_9 : decode cX8_drift 9 = .ok (.ifCond .ne 6, 3) := by decide +kernel
theorem dX8_drift_12 : decode cX8_drift 12 = .ok (.ldc 82, 2) := by decide +kernel
theorem dX8_drift_14 : decode cX8_drift 14 = .ok (.ireturn, 1) := by decide +kernel
theorem dX8_drift_15 : decode cX8_drift 15 = .ok (.aload_n 0, 1) := by decide +kernel
theorem dX8_drift_16 : decode cX8_drift 16 = .ok (.getfield 70, 3) := by decide +kernel
theorem dX8_drift_19 : decode cX8_drift 19 = .ok (.ifCond .ne 6, 3) := by decide +kernel
theorem dX8_drift_22 : decode cX8_drift 22 = .ok (.ldc 176, 2) := by decide +kernel
theorem dX8_drift_24 : decode cX8_drift 24 = .ok (.ireturn, 1) := by decide +kernel
theorem dX8_drift_25 : decode cX8_drift 25 = .ok (.aload_n 0, 1) := by decide +kernel
theorem dX8_drift_26 : decode cX8_drift 26 = .ok (.getfield 19, 3) := by decide +kernel
theorem dX8_drift_29 : decode cX8_drift 29 = .ok (.iconst 3, 1) := by decide +kernel
theorem dX8_drift_30 : decode cX8_drift 30 = .ok (.iaload, 1) := by decide +kernel
theorem dX8_drift_31 : decode cX8_drift 31 = .ok (.sipush 9000, 3) := by decide +kernel
theorem dX8_drift_34 : decode cX8_drift 34 = .ok (.if_icmp .le 6, 3) := by decide +kernel
theorem dX8_drift_37 : decode cX8_drift 37 = .ok (.ldc 86, 2) := by decide +kernel
theorem dX8_drift_39 : decode cX8_drift 39 = .ok (.ireturn, 1) := by decide +kernel
theorem dX8_drift_40 : decode cX8_drift 40 = .ok (.aload_n 0, 1) := by decide +kernel
theorem dX8_drift_41 : decode cX8_drift 41 = .ok (.invokevirtual 169, 3) := by decide +kernel
theorem dX8_drift_44 : decode cX8_drift 44 = .ok (.iconst 0, 1) := by decide +kernel
theorem dX8_drift_45 : decode cX8_drift 45 = .ok (.istore_n 2, 1) := by decide +kernel
theorem dX8_drift_46 : decode cX8_drift 46 = .ok (.iload_n 2, 1) := by decide +kernel
theorem dX8_drift_47 : decode cX8_drift 47 = .ok (.iload_n 1, 1) := by decide +kernel
theorem dX8_drift_48 : decode cX8_drift 48 = .ok (.if_icmp .ge 57, 3) := by decide +kernel
theorem dX8_drift_51 : decode cX8_drift 51 = .ok (.aload_n 0, 1) := by decide +kernel
theorem dX8_drift_52 : decode cX8_drift 52 = .ok (.iconst 2, 1) := by decide +kernel
theorem dX8_drift_53 : decode cX8_drift 53 = .ok (.aload_n 0, 1) := by decide +kernel
theorem dX8_drift_54 : decode cX8_drift 54 = .ok (.getfield 70, 3) := by decide +kernel
theorem dX8_drift_57 : decode cX8_drift 57 = .ok (.imul, 1) := by decide +kernel
theorem dX8_drift_58 : decode cX8_drift 58 = .ok (.invokevirtual 192, 3) := by decide +kernel
theorem dX8_drift_61 : decode cX8_drift 61 = .ok (.istore_n 3, 1) := by decide +kernel
theorem dX8_drift_62 : decode cX8_drift 62 = .ok (.aload_n 0, 1) := by decide +kernel
theorem dX8_drift_63 : decode cX8_drift 63 = .ok (.getfield 19, 3) := by decide +kernel
theorem dX8_drift_66 : decode cX8_drift 66 = .ok (.iconst 0, 1) := by decide +kernel
theorem dX8_drift_67 : decode cX8_drift 67 = .ok (.aload_n 0, 1) := by decide +kernel
theorem dX8_drift_68 : decode cX8_drift 68 = .ok (.getfield 19, 3) := by decide +kernel
theorem dX8_drift_71 : decode cX8_drift 71 = .ok (.iconst 0, 1) := by decide +kernel
theorem dX8_drift_72 : decode cX8_drift 72 = .ok (.iaload, 1) := by decide +kernel
theorem dX8_drift_73 : decode cX8_drift 73 = .ok (.iload_n 3, 1) := by decide +kernel
theorem dX8_drift_74 : decode cX8_drift 74 = .ok (.iconst 1, 1) := by decide +kernel
theorem dX8_drift_75 : decode cX8_drift 75 = .ok (.invokestatic 172, 3) := by decide +kernel
theorem dX8_drift_78 : decode cX8_drift 78 = .ok (.iload_n 3, 1) := by decide +kernel
theorem dX8_drift_79 : decode cX8_drift 79 = .ok (.invokestatic 195, 3) := by decide +kernel
theorem dX8_drift_82 : decode cX8_drift 82 = .ok (.iconst 0, 1) := by decide +kernel
theorem dX8_drift_83 : decode cX8_drift 83 = .ok (.invokestatic 172, 3) := by decide +kernel
theorem dX8_drift_86 : decode cX8_drift 86 = .ok (.iastore, 1) := by decide +kernel
theorem dX8_drift_87 : decode cX8_drift 87 = .ok (.aload_n 0, 1) := by decide +kernel
theorem dX8_drift_88 : decode cX8_drift 88 = .ok (.iconst 4, 1) := by decide +kernel
theorem dX8_drift_89 : decode cX8_drift 89 = .ok (.invokevirtual 192, 3) := by decide +kernel
theorem dX8_drift_92 : decode cX8_drift 92 = .ok (.ifCond .ne 7, 3) := by decide +kernel
theorem dX8_drift_95 : decode cX8_drift 95 = .ok (.aload_n 0, 1) := by decide +kernel
theorem dX8_drift_96 : decode cX8_drift 96 = .ok (.invokevirtual 177, 3) := by decide +kernel
theorem dX8_drift_99 : decode cX8_drift 99 = .ok (.iinc 2 1, 3) := by decide +kernel
theorem dX8_drift_102 : decode cX8_drift 102 = .ok (.goto (-56), 3) := by decide +kernel
theorem dX8_drift_105 : decode cX8_drift 105 = .ok (.aload_n 0, 1) := by decide +kernel
theorem dX8_drift_106 : decode cX8_drift 106 = .ok (.getfield 19, 3) := by decide +kernel
theorem dX8_drift_109 : decode cX8_drift 109 = .ok (.iconst 0, 1) := by decide +kernel
theorem dX8_drift_110 : decode cX8_drift 110 = .ok (.iaload, 1) := by decide +kernel
theorem dX8_drift_111 : decode cX8_drift 111 = .ok (.ireturn, 1) := by decide +kernel
theorem dX8_undo_0 : decode cX8_undo 0 = .ok (.aload_n 0, 1) := by decide +kernel
theorem dX8_undo_1 : decode cX8_undo 1 = .ok (.getfield 146, 3) := by decide +kernel
theorem dX8_undo_4 : decode cX8_undo 4 = .ok (.ifCond .ne 6, 3) := by decide +kernel
theorem dX8_undo_7 : decode cX8_undo 7 = .ok (.ldc 176, 2) := by decide +kernel
theorem dX8_undo_9 : decode cX8_undo 9 = .ok (.ireturn, 1) := by decide +kernel
theorem dX8_undo_10 : decode cX8_undo 10 = .ok (.aload_n 0, 1) := by decide +kernel
theorem dX8_undo_11 : decode cX8_undo 11 = .ok (.dup, 1) := by decide +kernel
theorem dX8_undo_12 : decode cX8_undo 12 = .ok (.getfield 146, 3) := by decide +kernel
theorem dX8_undo_15 : decode cX8_undo 15 = .ok (.iconst 1, 1) := by decide +kernel
theorem dX8_undo_16 : decode cX8_undo 16 = .ok (.isub, 1) := by decide +kernel
theorem dX8_undo_17 : decode cX8_undo 17 = .ok (.putfield 146, 3) := by decide +kernel
theorem dX8_undo_20 : decode cX8_undo 20 = .ok (.iconst 0, 1) := by decide +kernel
theorem dX8_undo_21 : decode cX8_undo 21 = .ok (.istore_n 1, 1) := by decide +kernel
theorem dX8_undo_22 : decode cX8_undo 22 = .ok (.iload_n 1, 1) := by decide +kernel
theorem dX8_undo_23 : decode cX8_undo 23 = .ok (.iconst 4, 1) := by decide +kernel
theorem dX8_undo_24 : decode cX8_undo 24 = .ok (.if_icmp .ge 28, 3) := by decide +kernel
theorem dX8_undo_27 : decode cX8_undo 27 = .ok (.aload_n 0, 1) := by decide +kernel
theorem dX8_undo_28 : decode cX8_undo 28 = .ok (.getfield 19, 3) := by decide +kernel
theorem dX8_undo_31 : decode cX8_undo 31 = .ok (.iload_n 1, 1) := by decide +kernel
theorem dX8_undo_32 : decode cX8_undo 32 = .ok (.aload_n 0, 1) := by decide +kernel
theorem dX8_undo_33 : decode cX8_undo 33 = .ok (.getfield 38, 3) := by decide +kernel
theorem dX8_undo_36 : decode cX8_undo 36 = .ok (.iconst 4, 1) := by decide +kernel
theorem dX8_undo_37 : decode cX8_undo 37 = .ok (.aload_n 0, 1) := by decide +kernel
theorem dX8_undo_38 : decode cX8_undo 38 = .ok (.getfield 146, 3) := by decide +kernel
theorem dX8_undo_41 : decode cX8_undo 41 = .ok (.imul, 1) := by decide +kernel
theorem dX8_undo_42 : decode cX8_undo 42 = .ok (.iload_n 1, 1) := by decide +kernel
theorem dX8_undo_43 : decode cX8_undo 43 = .ok (.iadd, 1) := by decide +kernel
theorem dX8_undo_44 : decode cX8_undo 44 = .ok (.iaload, 1) := by decide +kernel
theorem dX8_undo_45 : decode cX8_undo 45 = .ok (.iastore, 1) := by decide +kernel
theorem dX8_undo_46 : decode cX8_undo 46 = .ok (.iinc 1 1, 3) := by decide +kernel
theorem dX8_undo_49 : decode cX8_undo 49 = .ok (.goto (-27), 3) := by decide +kernel
theorem dX8_undo_52 : decode cX8_undo 52 = .ok (.aload_n 0, 1) := by decide +kernel
theorem dX8_undo_53 : decode cX8_undo 53 = .ok (.getfield 146, 3) := by decide +kernel
theorem dX8_undo_56 : decode cX8_undo 56 = .ok (.ireturn, 1) := by decide +kernel
theorem dX8_follows_0 : decode cX8_follows 0 = .ok (.aload_n 0, 1) := by decide +kernel
theorem dX8_follows_1 : decode cX8_follows 1 = .ok (.iload_n 1, 1) := by decide +kernel
theorem dX8_follows_2 : decode cX8_follows 2 = .ok (.invokevirtual 198, 3) := by decide +kernel
theorem dX8_follows_5 : decode cX8_follows 5 = .ok (.ifCond .eq 15, 3) := by decide +kernel
theorem dX8_follows_8 : decode cX8_follows 8 = .ok (.aload_n 0, 1) := by decide +kernel
theorem dX8_follows_9 : decode cX8_follows 9 = .ok (.iload_n 1, 1) := by decide +kernel
theorem dX8_follows_10 : decode cX8_follows 10 = .ok (.aload_n 0, 1) := by decide +kernel
theorem dX8_follows_11 : decode cX8_follows 11 = .ok (.invokevirtual 149, 3) := by decide +kernel
theorem dX8_follows_14 : decode cX8_follows 14 = .ok (.invokevirtual 152, 3) := by decide +kernel
theorem dX8_follows_17 : decode cX8_follows 17 = .ok (.goto 5, 3) := by decide +kernel
theorem dX8_follows_20 : decode cX8_follows 20 = .ok (.ldc 165, 2) := by decide +kernel
theorem dX8_follows_22 : decode cX8_follows 22 = .ok (.ireturn, 1) := by decide +kernel
theorem dX8_proof_0 : decode cX8_proof 0 = .ok (.aload_n 0, 1) := by decide +kernel
theorem dX8_proof_1 : decode cX8_proof 1 = .ok (.iload_n 1, 1) := by decide +kernel
theorem dX8_proof_2 : decode cX8_proof 2 = .ok (.invokevirtual 166, 3) := by decide +kernel
theorem dX8_proof_5 : decode cX8_proof 5 = .ok (.ifCond .ne 6, 3) := by decide +kernel
theorem dX8_proof_8 : decode cX8_proof 8 = .ok (.ldc 165, 2) := by decide +kernel
theorem dX8_proof_10 : decode cX8_proof 10 = .ok (.ireturn, 1) := by decide +kernel
theorem dX8_proof_11 : decode cX8_proof 11 = .ok (.iload_n 2, 1) := by decide +kernel
theorem dX8_proof_12 : decode cX8_proof 12 = .ok (.i2l, 1) := by decide +kernel
theorem dX8_proof_13 : decode cX8_proof 13 = .ok (.lconst 0, 1) := by decide +kernel
theorem dX8_proof_14 : decode cX8_proof 14 = .ok (.lconst 1, 1) := by decide +kernel
theorem dX8_proof_15 : decode cX8_proof 15 = .ok (.invokestatic 73, 3) := by decide +kernel
theorem dX8_proof_18 : decode cX8_proof 18 = .ok (.ifCond .ne 6, 3) := by decide +kernel
theorem dX8_proof_21 : decode cX8_proof 21 = .ok (.ldc 82, 2) := by decide +kernel
theorem dX8_proof_23 : decode cX8_proof 23 = .ok (.ireturn, 1) := by decide +kernel
theorem dX8_proof_24 : decode cX8_proof 24 = .ok (.iconst (-1), 1) := by decide +kernel
theorem dX8_proof_25 : decode cX8_proof 25 = .ok (.istore_n 3, 1) := by decide +kernel
theorem dX8_proof_26 : decode cX8_proof 26 = .ok (.iconst 0, 1) := by decide +kernel
theorem dX8_proof_27 : decode cX8_proof 27 = .ok (.istore 4, 2) := by decide +kernel
theorem dX8_proof_29 : decode cX8_proof 29 = .ok (.iload 4, 2) := by decide +kernel
theorem dX8_proof_31 : decode cX8_proof 31 = .ok (.iconst 1, 1) := by decide +kernel
theorem dX8_proof_32 : decode cX8_proof 32 = .ok (.aload_n 0, 1) := by decide +kernel
theorem dX8_proof_33 : decode cX8_proof 33 = .ok (.getfield 77, 3) := by decide +kernel
theorem dX8_proof_36 : decode cX8_proof 36 = .ok (.ishl, 1) := by decide +kernel
theorem dX8_proof_37 : decode cX8_proof 37 = .ok (.if_icmp .ge 75, 3) := by decide +kernel
theorem dX8_proof_40 : decode cX8_proof 40 = .ok (.iload 4, 2) := by decide +kernel
theorem dX8_proof_42 : decode cX8_proof 42 = .ok (.aload_n 0, 1) := by decide +kernel
theorem dX8_proof_43 : decode cX8_proof 43 = .ok (.getfield 19, 3) := by decide +kernel
theorem dX8_proof_46 : decode cX8_proof 46 = .ok (.iconst 2, 1) := by decide +kernel
theorem dX8_proof_47 : decode cX8_proof 47 = .ok (.iaload, 1) := by decide +kernel
theorem dX8_proof_48 : decode cX8_proof 48 = .ok (.iand, 1) := by decide +kernel
theorem dX8_proof_49 : decode cX8_proof 49 = .ok (.ifCond .ne 23, 3) := by decide +kernel
theorem dX8_proof_52 : decode cX8_proof 52 = .ok (.iload_n 3, 1) := by decide +kernel
theorem dX8_proof_53 : decode cX8_proof 53 = .ok (.ifCond .lt 15, 3) := by decide +kernel
theorem dX8_proof_56 : decode cX8_proof 56 = .ok (.iload 4, 2) := by decide +kernel
theorem dX8_proof_58 : decode cX8_proof 58 = .ok (.invokestatic 201, 3) := by decide +kernel
theorem dX8_proof_61 : decode cX8_proof 61 = .ok (.iload_n 3, 1) := by decide +kernel
theorem dX8_proof_62 : decode cX8_proof 62 = .ok (.invokestatic 201, 3) := by decide +kernel
theorem dX8_proof_65 : decode cX8_proof 65 = .ok (.if_icmp .ge 7, 3) := by decide +kernel
theorem dX8_proof_68 : decode cX8_proof 68 = .ok (.iconst 1, 1) := by decide +kernel
theorem dX8_proof_69 : decode cX8_proof 69 = .ok (.goto 4, 3) := by decide +kernel
theorem dX8_proof_72 : decode cX8_proof 72 = .ok (.iconst 0, 1) := by decide +kernel
theorem dX8_proof_73 : decode cX8_proof 73 = .ok (.istore 5, 2) := by decide +kernel
theorem dX8_proof_75 : decode cX8_proof 75 = .ok (.iload 5, 2) := by decide +kernel
theorem dX8_proof_77 : decode cX8_proof 77 = .ok (.ifCond .eq 27, 3) := by decide +kernel
theorem dX8_proof_80 : decode cX8_proof 80 = .ok (.aload_n 0, 1) := by decide +kernel
theorem dX8_proof_81 : decode cX8_proof 81 = .ok (.aload_n 0, 1) := by decide +kernel
theorem dX8_proof_82 : decode cX8_proof 82 = .ok (.getfield 19, 3) := by decide +kernel
theorem dX8_proof_85 : decode cX8_proof 85 = .ok (.iconst 0, 1) := by decide +kernel
theorem dX8_proof_86 : decode cX8_proof 86 = .ok (.iaload, 1) := by decide +kernel
theorem dX8_proof_87 : decode cX8_proof 87 = .ok (.iload 4, 2) := by decide +kernel
theorem dX8_proof_89 : decode cX8_proof 89 = .ok (.invokevirtual 152, 3) := by decide +kernel
theorem dX8_proof_92 : decode cX8_proof 92 = .ok (.iload_n 1, 1) := by decide +kernel
theorem dX8_proof_93 : decode cX8_proof 93 = .ok (.invokestatic 114, 3) := by decide +kernel
theorem dX8_proof_96 : decode cX8_proof 96 = .ok (.ifCond .eq 8, 3) := by decide +kernel
theorem dX8_proof_99 : decode cX8_proof 99 = .ok (.iload 4, 2) := by decide +kernel
theorem dX8_proof_101 : decode cX8_proof 101 = .ok (.goto 4, 3) := by decide +kernel
theorem dX8_proof_104 : decode cX8_proof 104 = .ok (.iload_n 3, 1) := by decide +kernel
theorem dX8_proof_105 : decode cX8_proof 105 = .ok (.istore_n 3, 1) := by decide +kernel
theorem dX8_proof_106 : decode cX8_proof 106 = .ok (.iinc 4 1, 3) := by decide +kernel
theorem dX8_proof_109 : decode cX8_proof 109 = .ok (.goto (-80), 3) := by decide +kernel
theorem dX8_proof_112 : decode cX8_proof 112 = .ok (.iload_n 3, 1) := by decide +kernel
theorem dX8_proof_113 : decode cX8_proof 113 = .ok (.ifCond .lt 8, 3) := by decide +kernel
theorem dX8_proof_116 : decode cX8_proof 116 = .ok (.iload_n 2, 1) := by decide +kernel
theorem dX8_proof_117 : decode cX8_proof 117 = .ok (.iconst 1, 1) := by decide +kernel
theorem dX8_proof_118 : decode cX8_proof 118 = .ok (.if_icmp .ne 7, 3) := by decide +kernel
theorem dX8_proof_121 : decode cX8_proof 121 = .ok (.iload_n 3, 1) := by decide +kernel
theorem dX8_proof_122 : decode cX8_proof 122 = .ok (.goto 7, 3) := by decide +kernel
theorem dX8_proof_125 : decode cX8_proof 125 = .ok (.iload_n 3, 1) := by decide +kernel
theorem dX8_proof_126 : decode cX8_proof 126 = .ok (.invokestatic 201, 3) := by decide +kernel
theorem dX8_proof_129 : decode cX8_proof 129 = .ok (.ireturn, 1) := by decide +kernel
theorem dX8_costOf_0 : decode cX8_costOf 0 = .ok (.iconst 0, 1) := by decide +kernel
theorem dX8_costOf_1 : decode cX8_costOf 1 = .ok (.istore_n 2, 1) := by decide +kernel
theorem dX8_costOf_2 : decode cX8_costOf 2 = .ok (.iconst 0, 1) := by decide +kernel
theorem dX8_costOf_3 : decode cX8_costOf 3 = .ok (.istore_n 3, 1) := by decide +kernel
theorem dX8_costOf_4 : decode cX8_costOf 4 = .ok (.iload_n 3, 1) := by decide +kernel
theorem dX8_costOf_5 : decode cX8_costOf 5 = .ok (.aload_n 0, 1) := by decide +kernel
theorem dX8_costOf_6 : decode cX8_costOf 6 = .ok (.getfield 77, 3) := by decide +kernel
theorem dX8_costOf_9 : decode cX8_costOf 9 = .ok (.if_icmp .ge 30, 3) := by decide +kernel
theorem dX8_costOf_12 : decode cX8_costOf 12 = .ok (.iload_n 2, 1) := by decide +kernel
theorem dX8_costOf_13 : decode cX8_costOf 13 = .ok (.iload_n 1, 1) := by decide +kernel
theorem dX8_costOf_14 : decode cX8_costOf 14 = .ok (.iload_n 3, 1) := by decide +kernel
theorem dX8_costOf_15 : decode cX8_costOf 15 = .ok (.invokestatic 114, 3) := by decide +kernel
theorem dX8_costOf_18 : decode cX8_costOf 18 = .ok (.ifCond .eq 12, 3) := by decide +kernel
theorem dX8_costOf_21 : decode cX8_costOf 21 = .ok (.aload_n 0, 1) := by decide +kernel
theorem dX8_costOf_22 : decode cX8_costOf 22 = .ok (.getfield 7, 3) := by decide +kernel
theorem dX8_costOf_25 : decode cX8_costOf 25 = .ok (.iload_n 3, 1) := by decide +kernel
theorem dX8_costOf_26 : decode cX8_costOf 26 = .ok (.iaload, 1) := by decide +kernel
theorem dX8_costOf_27 : decode cX8_costOf 27 = .ok (.goto 4, 3) := by decide +kernel
theorem dX8_costOf_30 : decode cX8_costOf 30 = .ok (.iconst 0, 1) := by decide +kernel
theorem dX8_costOf_31 : decode cX8_costOf 31 = .ok (.iadd, 1) := by decide +kernel
theorem dX8_costOf_32 : decode cX8_costOf 32 = .ok (.istore_n 2, 1) := by decide +kernel
theorem dX8_costOf_33 : decode cX8_costOf 33 = .ok (.iinc 3 1, 3) := by decide +kernel
theorem dX8_costOf_36 : decode cX8_costOf 36 = .ok (.goto (-32), 3) := by decide +kernel
theorem dX8_costOf_39 : decode cX8_costOf 39 = .ok (.iload_n 2, 1) := by decide +kernel
theorem dX8_costOf_40 : decode cX8_costOf 40 = .ok (.ireturn, 1) := by decide +kernel
theorem dX8_giveUp_0 : decode cX8_giveUp 0 = .ok (.iload_n 1, 1) := by decide +kernel
theorem dX8_giveUp_1 : decode cX8_giveUp 1 = .ok (.i2l, 1) := by decide +kernel
theorem dX8_giveUp_2 : decode cX8_giveUp 2 = .ok (.lconst 0, 1) := by decide +kernel
theorem dX8_giveUp_3 : decode cX8_giveUp 3 = .ok (.lconst 1, 1) := by decide +kernel
theorem dX8_giveUp_4 : decode cX8_giveUp 4 = .ok (.invokestatic 73, 3) := by decide +kernel
theorem dX8_giveUp_7 : decode cX8_giveUp 7 = .ok (.ifCond .ne 6, 3) := by decide +kernel
theorem dX8_giveUp_10 : decode cX8_giveUp 10 = .ok (.ldc 82, 2) := by decide +kernel
theorem dX8_giveUp_12 : decode cX8_giveUp 12 = .ok (.ireturn, 1) := by decide +kernel
theorem dX8_giveUp_13 : decode cX8_giveUp 13 = .ok (.iconst (-1), 1) := by decide +kernel
theorem dX8_giveUp_14 : decode cX8_giveUp 14 = .ok (.istore_n 2, 1) := by decide +kernel
theorem dX8_giveUp_15 : decode cX8_giveUp 15 = .ok (.ldc 204, 2) := by decide +kernel
theorem dX8_giveUp_17 : decode cX8_giveUp 17 = .ok (.istore_n 3, 1) := by decide +kernel
theorem dX8_giveUp_18 : decode cX8_giveUp 18 = .ok (.iconst 0, 1) := by decide +kernel
theorem dX8_giveUp_19 : decode cX8_giveUp 19 = .ok (.istore 4, 2) := by decide +kernel
theorem dX8_giveUp_21 : decode cX8_giveUp 21 = .ok (.iload 4, 2) := by decide +kernel
theorem dX8_giveUp_23 : decode cX8_giveUp 23 = .ok (.iconst 1, 1) := by decide +kernel
theorem dX8_giveUp_24 : decode cX8_giveUp 24 = .ok (.aload_n 0, 1) := by decide +kernel
theorem dX8_giveUp_25 : decode cX8_giveUp 25 = .ok (.getfield 77, 3) := by decide +kernel
theorem dX8_giveUp_28 : decode cX8_giveUp 28 = .ok (.ishl, 1) := by decide +kernel
theorem dX8_giveUp_29 : decode cX8_giveUp 29 = .ok (.if_icmp .ge 78, 3) := by decide +kernel
theorem dX8_giveUp_32 : decode cX8_giveUp 32 = .ok (.iload 4, 2) := by decide +kernel
theorem dX8_giveUp_34 : decode cX8_giveUp 34 = .ok (.aload_n 0, 1) := by decide +kernel
theorem dX8_giveUp_35 : decode cX8_giveUp 35 = .ok (.getfield 19, 3) := by decide +kernel
theorem dX8_giveUp_38 : decode cX8_giveUp 38 = .ok (.iconst 2, 1) := by decide +kernel
theorem dX8_giveUp_39 : decode cX8_giveUp 39 = .ok (.iaload, 1) := by decide +kernel
theorem dX8_giveUp_40 : decode cX8_giveUp 40 = .ok (.iand, 1) := by decide +kernel
theorem dX8_giveUp_41 : decode cX8_giveUp 41 = .ok (.ifCond .ne 17, 3) := by decide +kernel
theorem dX8_giveUp_44 : decode cX8_giveUp 44 = .ok (.aload_n 0, 1) := by decide +kernel
theorem dX8_giveUp_45 : decode cX8_giveUp 45 = .ok (.iload 4, 2) := by decide +kernel
theorem dX8_giveUp_47 : decode cX8_giveUp 47 = .ok (.invokevirtual 205, 3) := by decide +kernel
theorem dX8_giveUp_50 : decode cX8_giveUp 50 = .ok (.iload_n 3, 1) := by decide +kernel
theorem dX8_giveUp_51 : decode cX8_giveUp 51 = .ok (.if_icmp .ge 7, 3) := by decide +kernel
theorem dX8_giveUp_54 : decode cX8_giveUp 54 = .ok (.iconst 1, 1) := by decide +kernel
theorem dX8_giveUp_55 : decode cX8_giveUp 55 = .ok (.goto 4, 3) := by decide +kernel
theorem dX8_giveUp_58 : decode cX8_giveUp 58 = .ok (.iconst 0, 1) := by decide +kernel
theorem dX8_giveUp_59 : decode cX8_giveUp 59 = .ok (.istore 5, 2) := by decide +kernel
theorem dX8_giveUp_61 : decode cX8_giveUp 61 = .ok (.iload 5, 2) := by decide +kernel
theorem dX8_giveUp_63 : decode cX8_giveUp 63 = .ok (.ifCond .eq 38, 3) := by decide +kernel
theorem dX8_giveUp_66 : decode cX8_giveUp 66 = .ok (.aload_n 0, 1) := by decide +kernel
theorem dX8_giveUp_67 : decode cX8_giveUp 67 = .ok (.aload_n 0, 1) := by decide +kernel
theorem dX8_giveUp_68 : decode cX8_giveUp 68 = .ok (.getfield 19, 3) := by decide +kernel
theorem dX8_giveUp_71 : decode cX8_giveUp 71 = .ok (.iconst 0, 1) := by decide +kernel
theorem dX8_giveUp_72 : decode cX8_giveUp 72 = .ok (.iaload, 1) := by decide +kernel
theorem dX8_giveUp_73 : decode cX8_giveUp 73 = .ok (.aload_n 0, 1) := by decide +kernel
theorem dX8_giveUp_74 : decode cX8_giveUp 74 = .ok (.invokevirtual 149, 3) := by decide +kernel
theorem dX8_giveUp_77 : decode cX8_giveUp 77 = .ok (.iload 4, 2) := by decide +kernel
theorem dX8_giveUp_79 : decode cX8_giveUp 79 = .ok (.iconst (-1), 1) := by decide +kernel
theorem dX8_giveUp_80 : decode cX8_giveUp 80 = .ok (.ixor, 1) := by decide +kernel
theorem dX8_giveUp_81 : decode cX8_giveUp 81 = .ok (.iand, 1) := by decide +kernel
theorem dX8_giveUp_82 : decode cX8_giveUp 82 = .ok (.invokevirtual 152, 3) := by decide +kernel
theorem dX8_giveUp_85 : decode cX8_giveUp 85 = .ok (.invokestatic 158, 3) := by decide +kernel
theorem dX8_giveUp_88 : decode cX8_giveUp 88 = .ok (.ifCond .ne 13, 3) := by decide +kernel
theorem dX8_giveUp_91 : decode cX8_giveUp 91 = .ok (.iload 4, 2) := by decide +kernel
theorem dX8_giveUp_93 : decode cX8_giveUp 93 = .ok (.istore_n 2, 1) := by decide +kernel
theorem dX8_giveUp_94 : decode cX8_giveUp 94 = .ok (.aload_n 0, 1) := by decide +kernel
theorem dX8_giveUp_95 : decode cX8_giveUp 95 = .ok (.iload 4, 2) := by decide +kernel
theorem dX8_giveUp_97 : decode cX8_giveUp 97 = .ok (.invokevirtual 205, 3) := by decide +kernel
theorem dX8_giveUp_100 : decode cX8_giveUp 100 = .ok (.istore_n 3, 1) := by decide +kernel
theorem dX8_giveUp_101 : decode cX8_giveUp 101 = .ok (.iinc 4 1, 3) := by decide +kernel
theorem dX8_giveUp_104 : decode cX8_giveUp 104 = .ok (.goto (-83), 3) := by decide +kernel
theorem dX8_giveUp_107 : decode cX8_giveUp 107 = .ok (.iload_n 2, 1) := by decide +kernel
theorem dX8_giveUp_108 : decode cX8_giveUp 108 = .ok (.ifCond .lt 7, 3) := by decide +kernel
theorem dX8_giveUp_111 : decode cX8_giveUp 111 = .ok (.iload_n 1, 1) := by decide +kernel
theorem dX8_giveUp_112 : decode cX8_giveUp 112 = .ok (.ifCond .ne 7, 3) := by decide +kernel
theorem dX8_giveUp_115 : decode cX8_giveUp 115 = .ok (.iload_n 2, 1) := by decide +kernel
theorem dX8_giveUp_116 : decode cX8_giveUp 116 = .ok (.goto 4, 3) := by decide +kernel
theorem dX8_giveUp_119 : decode cX8_giveUp 119 = .ok (.iload_n 3, 1) := by decide +kernel
theorem dX8_giveUp_120 : decode cX8_giveUp 120 = .ok (.ireturn, 1) := by decide +kernel
theorem dX8_doWords_0 : decode cX8_doWords 0 = .ok (.aload_n 0, 1) := by decide +kernel
theorem dX8_doWords_1 : decode cX8_doWords 1 = .ok (.aload_n 0, 1) := by decide +kernel
theorem dX8_doWords_2 : decode cX8_doWords 2 = .ok (.getfield 19, 3) := by decide +kernel
theorem dX8_doWords_5 : decode cX8_doWords 5 = .ok (.iconst 0, 1) := by decide +kernel
theorem dX8_doWords_6 : decode cX8_doWords 6 = .ok (.iaload, 1) := by decide +kernel
theorem dX8_doWords_7 : decode cX8_doWords 7 = .ok (.iload_n 1, 1) := by decide +kernel
theorem dX8_doWords_8 : decode cX8_doWords 8 = .ok (.ior, 1) := by decide +kernel
theorem dX8_doWords_9 : decode cX8_doWords 9 = .ok (.aload_n 0, 1) := by decide +kernel
theorem dX8_doWords_10 : decode cX8_doWords 10 = .ok (.invokevirtual 149, 3) := by decide +kernel
theorem dX8_doWords_13 : decode cX8_doWords 13 = .ok (.invokevirtual 152, 3) := by decide +kernel
theorem dX8_doWords_16 : decode cX8_doWords 16 = .ok (.istore_n 3, 1) := by decide +kernel
theorem dX8_doWords_17 : decode cX8_doWords 17 = .ok (.iload_n 3, 1) := by decide +kernel
theorem dX8_doWords_18 : decode cX8_doWords 18 = .ok (.iload_n 2, 1) := by decide +kernel
theorem dX8_doWords_19 : decode cX8_doWords 19 = .ok (.invokestatic 114, 3) := by decide +kernel
theorem dX8_doWords_22 : decode cX8_doWords 22 = .ok (.ifCond .eq 14, 3) := by decide +kernel
theorem dX8_doWords_25 : decode cX8_doWords 25 = .ok (.iload_n 3, 1) := by decide +kernel
theorem dX8_doWords_26 : decode cX8_doWords 26 = .ok (.invokestatic 158, 3) := by decide +kernel
theorem dX8_doWords_29 : decode cX8_doWords 29 = .ok (.ifCond .ne 7, 3) := by decide +kernel
theorem dX8_doWords_32 : decode cX8_doWords 32 = .ok (.iconst 1, 1) := by decide +kernel
theorem dX8_doWords_33 : decode cX8_doWords 33 = .ok (.goto 4, 3) := by decide +kernel
theorem dX8_doWords_36 : decode cX8_doWords 36 = .ok (.iconst 0, 1) := by decide +kernel
theorem dX8_doWords_37 : decode cX8_doWords 37 = .ok (.ireturn, 1) := by decide +kernel
theorem dX8_words_0 : decode cX8_words 0 = .ok (.aload_n 0, 1) := by decide +kernel
theorem dX8_words_1 : decode cX8_words 1 = .ok (.iload_n 1, 1) := by decide +kernel
theorem dX8_words_2 : decode cX8_words 2 = .ok (.invokevirtual 166, 3) := by decide +kernel
theorem dX8_words_5 : decode cX8_words 5 = .ok (.ifCond .ne 6, 3) := by decide +kernel
theorem dX8_words_8 : decode cX8_words 8 = .ok (.ldc 165, 2) := by decide +kernel
theorem dX8_words_10 : decode cX8_words 10 = .ok (.ireturn, 1) := by decide +kernel
theorem dX8_words_11 : decode cX8_words 11 = .ok (.iconst 1, 1) := by decide +kernel
theorem dX8_words_12 : decode cX8_words 12 = .ok (.iload_n 1, 1) := by decide +kernel
theorem dX8_words_13 : decode cX8_words 13 = .ok (.ishl, 1) := by decide +kernel
theorem dX8_words_14 : decode cX8_words 14 = .ok (.iconst 1, 1) := by decide +kernel
theorem dX8_words_15 : decode cX8_words 15 = .ok (.iload_n 1, 1) := by decide +kernel
theorem dX8_words_16 : decode cX8_words 16 = .ok (.invokestatic 195, 3) := by decide +kernel
theorem dX8_words_19 : decode cX8_words 19 = .ok (.ishl, 1) := by decide +kernel
theorem dX8_words_20 : decode cX8_words 20 = .ok (.ior, 1) := by decide +kernel
theorem dX8_words_21 : decode cX8_words 21 = .ok (.istore_n 2, 1) := by decide +kernel
theorem dX8_words_22 : decode cX8_words 22 = .ok (.iconst (-1), 1) := by decide +kernel
theorem dX8_words_23 : decode cX8_words 23 = .ok (.istore_n 3, 1) := by decide +kernel
theorem dX8_words_24 : decode cX8_words 24 = .ok (.iconst 0, 1) := by decide +kernel
theorem dX8_words_25 : decode cX8_words 25 = .ok (.istore 4, 2) := by decide +kernel
theorem dX8_words_27 : decode cX8_words 27 = .ok (.iload 4, 2) := by decide +kernel
theorem dX8_words_29 : decode cX8_words 29 = .ok (.iconst 1, 1) := by decide +kernel
theorem dX8_words_30 : decode cX8_words 30 = .ok (.iconst 2, 1) := by decide +kernel
theorem dX8_words_31 : decode cX8_words 31 = .ok (.aload_n 0, 1) := by decide +kernel
theorem dX8_words_32 : decode cX8_words 32 = .ok (.getfield 70, 3) := by decide +kernel
theorem dX8_words_35 : decode cX8_words 35 = .ok (.imul, 1) := by decide +kernel
theorem dX8_words_36 : decode cX8_words 36 = .ok (.ishl, 1) := by decide +kernel
theorem dX8_words_37 : decode cX8_words 37 = .ok (.if_icmp .ge 71, 3) := by decide +kernel
theorem dX8_words_40 : decode cX8_words 40 = .ok (.iload 4, 2) := by decide +kernel
theorem dX8_words_42 : decode cX8_words 42 = .ok (.invokestatic 201, 3) := by decide +kernel
theorem dX8_words_45 : decode cX8_words 45 = .ok (.istore 5, 2) := by decide +kernel
theorem dX8_words_47 : decode cX8_words 47 = .ok (.iload 4, 2) := by decide +kernel
theorem dX8_words_49 : decode cX8_words 49 = .ok (.iload_n 2, 1) := by decide +kernel
theorem dX8_words_50 : decode cX8_words 50 = .ok (.iand, 1) := by decide +kernel
theorem dX8_words_51 : decode cX8_words 51 = .ok (.ifCond .ne 26, 3) := by decide +kernel
theorem dX8_words_54 : decode cX8_words 54 = .ok (.iload 5, 2) := by decide +kernel
theorem dX8_words_56 : decode cX8_words 56 = .ok (.iconst 4, 1) := by decide +kernel
theorem dX8_words_57 : decode cX8_words 57 = .ok (.if_icmp .ge 20, 3) := by decide +kernel
theorem dX8_words_60 : decode cX8_words 60 = .ok (.iload_n 3, 1) := by decide +kernel
theorem dX8_words_61 : decode cX8_words 61 = .ok (.ifCond .lt 12, 3) := by decide +kernel
theorem dX8_words_64 : decode cX8_words 64 = .ok (.iload 5, 2) := by decide +kernel
theorem dX8_words_66 : decode cX8_words 66 = .ok (.iload_n 3, 1) := by decide +kernel
theorem dX8_words_67 : decode cX8_words 67 = .ok (.invokestatic 201, 3) := by decide +kernel
theorem dX8_words_70 : decode cX8_words 70 = .ok (.if_icmp .ge 7, 3) := by decide +kernel
theorem dX8_words_73 : decode cX8_words 73 = .ok (.iconst 1, 1) := by decide +kernel
theorem dX8_words_74 : decode cX8_words 74 = .ok (.goto 4, 3) := by decide +kernel
theorem dX8_words_77 : decode cX8_words 77 = .ok (.iconst 0, 1) := by decide +kernel
theorem dX8_words_78 : decode cX8_words 78 = .ok (.istore 6, 2) := by decide +kernel
theorem dX8_words_80 : decode cX8_words 80 = .ok (.iload 6, 2) := by decide +kernel
theorem dX8_words_82 : decode cX8_words 82 = .ok (.ifCond .eq 18, 3) := by decide +kernel
theorem dX8_words_85 : decode cX8_words 85 = .ok (.aload_n 0, 1) := by decide +kernel
theorem dX8_words_86 : decode cX8_words 86 = .ok (.iload 4, 2) := by decide +kernel
theorem dX8_words_88 : decode cX8_words 88 = .ok (.iload_n 1, 1) := by decide +kernel
theorem dX8_words_89 : decode cX8_words 89 = .ok (.invokevirtual 208, 3) := by decide +kernel
theorem dX8_words_92 : decode cX8_words 92 = .ok (.ifCond .eq 8, 3) := by decide +kernel
theorem dX8_words_95 : decode cX8_words 95 = .ok (.iload 4, 2) := by decide +kernel
theorem dX8_words_97 : decode cX8_words 97 = .ok (.goto 4, 3) := by decide +kernel
theorem dX8_words_100 : decode cX8_words 100 = .ok (.iload_n 3, 1) := by decide +kernel
theorem dX8_words_101 : decode cX8_words 101 = .ok (.istore_n 3, 1) := by decide +kernel
theorem dX8_words_102 : decode cX8_words 102 = .ok (.iinc 4 1, 3) := by decide +kernel
theorem dX8_words_105 : decode cX8_words 105 = .ok (.goto (-78), 3) := by decide +kernel
theorem dX8_words_108 : decode cX8_words 108 = .ok (.iload_n 3, 1) := by decide +kernel
theorem dX8_words_109 : decode cX8_words 109 = .ok (.ireturn, 1) := by decide +kernel
theorem dX8_step_0 : decode cX8_step 0 = .ok (.aload_n 0, 1) := by decide +kernel
theorem dX8_step_1 : decode cX8_step 1 = .ok (.iload_n 1, 1) := by decide +kernel
theorem dX8_step_2 : decode cX8_step 2 = .ok (.invokevirtual 166, 3) := by decide +kernel
theorem dX8_step_5 : decode cX8_step 5 = .ok (.ifCond .ne 6, 3) := by decide +kernel
theorem dX8_step_8 : decode cX8_step 8 = .ok (.ldc 165, 2) := by decide +kernel
theorem dX8_step_10 : decode cX8_step 10 = .ok (.ireturn, 1) := by decide +kernel
theorem dX8_step_11 : decode cX8_step 11 = .ok (.iconst 0, 1) := by decide +kernel
theorem dX8_step_12 : decode cX8_step 12 = .ok (.istore_n 2, 1) := by decide +kernel
theorem dX8_step_13 : decode cX8_step 13 = .ok (.iconst 0, 1) := by decide +kernel
theorem dX8_step_14 : decode cX8_step 14 = .ok (.istore_n 3, 1) := by decide +kernel
theorem dX8_step_15 : decode cX8_step 15 = .ok (.iload_n 3, 1) := by decide +kernel
theorem dX8_step_16 : decode cX8_step 16 = .ok (.aload_n 0, 1) := by decide +kernel
theorem dX8_step_17 : decode cX8_step 17 = .ok (.getfield 77, 3) := by decide +kernel
theorem dX8_step_20 : decode cX8_step 20 = .ok (.if_icmp .ge 80, 3) := by decide +kernel
theorem dX8_step_23 : decode cX8_step 23 = .ok (.aload_n 0, 1) := by decide +kernel
theorem dX8_step_24 : decode cX8_step 24 = .ok (.invokevirtual 155, 3) := by decide +kernel
theorem dX8_step_27 : decode cX8_step 27 = .ok (.iload_n 1, 1) := by decide +kernel
theorem dX8_step_28 : decode cX8_step 28 = .ok (.invokestatic 114, 3) := by decide +kernel
theorem dX8_step_31 : decode cX8_step 31 = .ok (.ifCond .eq 18, 3) := by decide +kernel
theorem dX8_step_34 : decode cX8_step 34 = .ok (.aload_n 0, 1) := by decide +kernel
theorem dX8_step_35 : decode cX8_step 35 = .ok (.invokevirtual 149, 3) := by decide +kernel
theorem dX8_step_38 : decode cX8_step 38 = .ok (.iload_n 3, 1) := by decide +kernel
theorem dX8_step_39 : decode cX8_step 39 = .ok (.invokestatic 114, 3) := by decide +kernel
theorem dX8_step_42 : decode cX8_step 42 = .ok (.ifCond .eq 7, 3) := by decide +kernel
theorem dX8_step_45 : decode cX8_step 45 = .ok (.iconst 1, 1) := by decide +kernel
theorem dX8_step_46 : decode cX8_step 46 = .ok (.goto 4, 3) := by decide +kernel
theorem dX8_step_49 : decode cX8_step 49 = .ok (.iconst 0, 1) := by decide +kernel
theorem dX8_step_50 : decode cX8_step 50 = .ok (.istore 4, 2) := by decide +kernel
theorem dX8_step_52 : decode cX8_step 52 = .ok (.iload_n 2, 1) := by decide +kernel
theorem dX8_step_53 : decode cX8_step 53 = .ok (.iload 4, 2) := by decide +kernel
theorem dX8_step_55 : decode cX8_step 55 = .ok (.ifCond .eq 36, 3) := by decide +kernel
theorem dX8_step_58 : decode cX8_step 58 = .ok (.aload_n 0, 1) := by decide +kernel
theorem dX8_step_59 : decode cX8_step 59 = .ok (.aload_n 0, 1) := by decide +kernel
theorem dX8_step_60 : decode cX8_step 60 = .ok (.getfield 19, 3) := by decide +kernel
theorem dX8_step_63 : decode cX8_step 63 = .ok (.iconst 0, 1) := by decide +kernel
theorem dX8_step_64 : decode cX8_step 64 = .ok (.iaload, 1) := by decide +kernel
theorem dX8_step_65 : decode cX8_step 65 = .ok (.aload_n 0, 1) := by decide +kernel
theorem dX8_step_66 : decode cX8_step 66 = .ok (.invokevirtual 149, 3) := by decide +kernel
theorem dX8_step_69 : decode cX8_step 69 = .ok (.iconst 1, 1) := by decide +kernel
theorem dX8_step_70 : decode cX8_step 70 = .ok (.iload_n 3, 1) := by decide +kernel
theorem dX8_step_71 : decode cX8_step 71 = .ok (.ishl, 1) := by decide +kernel
theorem dX8_step_72 : decode cX8_step 72 = .ok (.iconst (-1), 1) := by decide +kernel
theorem dX8_step_73 : decode cX8_step 73 = .ok (.ixor, 1) := by decide +kernel
theorem dX8_step_74 : decode cX8_step 74 = .ok (.iand, 1) := by decide +kernel
theorem dX8_step_75 : decode cX8_step 75 = .ok (.invokevirtual 152, 3) := by decide +kernel
theorem dX8_step_78 : decode cX8_step 78 = .ok (.iload_n 1, 1) := by decide +kernel
theorem dX8_step_79 : decode cX8_step 79 = .ok (.invokestatic 114, 3) := by decide +kernel
theorem dX8_step_82 : decode cX8_step 82 = .ok (.ifCond .ne 9, 3) := by decide +kernel
theorem dX8_step_85 : decode cX8_step 85 = .ok (.iconst 1, 1) := by decide +kernel
theorem dX8_step_86 : decode cX8_step 86 = .ok (.iload_n 3, 1) := by decide +kernel
theorem dX8_step_87 : decode cX8_step 87 = .ok (.ishl, 1) := by decide +kernel
theorem dX8_step_88 : decode cX8_step 88 = .ok (.goto 4, 3) := by decide +kernel
theorem dX8_step_91 : decode cX8_step 91 = .ok (.iconst 0, 1) := by decide +kernel
theorem dX8_step_92 : decode cX8_step 92 = .ok (.ior, 1) := by decide +kernel
theorem dX8_step_93 : decode cX8_step 93 = .ok (.istore_n 2, 1) := by decide +kernel
theorem dX8_step_94 : decode cX8_step 94 = .ok (.iinc 3 1, 3) := by decide +kernel
theorem dX8_step_97 : decode cX8_step 97 = .ok (.goto (-82), 3) := by decide +kernel
theorem dX8_step_100 : decode cX8_step 100 = .ok (.iload_n 2, 1) := by decide +kernel
theorem dX8_step_101 : decode cX8_step 101 = .ok (.ireturn, 1) := by decide +kernel
theorem dX8_barred_0 : decode cX8_barred 0 = .ok (.aload_n 0, 1) := by decide +kernel
theorem dX8_barred_1 : decode cX8_barred 1 = .ok (.iload_n 1, 1) := by decide +kernel
theorem dX8_barred_2 : decode cX8_barred 2 = .ok (.invokevirtual 166, 3) := by decide +kernel
theorem dX8_barred_5 : decode cX8_barred 5 = .ok (.ifCond .ne 6, 3) := by decide +kernel
theorem dX8_barred_8 : decode cX8_barred 8 = .ok (.ldc 165, 2) := by decide +kernel
theorem dX8_barred_10 : decode cX8_barred 10 = .ok (.ireturn, 1) := by decide +kernel
theorem dX8_barred_11 : decode cX8_barred 11 = .ok (.iconst (-1), 1) := by decide +kernel
theorem dX8_barred_12 : decode cX8_barred 12 = .ok (.istore_n 2, 1) := by decide +kernel
theorem dX8_barred_13 : decode cX8_barred 13 = .ok (.iconst 0, 1) := by decide +kernel
theorem dX8_barred_14 : decode cX8_barred 14 = .ok (.istore_n 3, 1) := by decide +kernel
theorem dX8_barred_15 : decode cX8_barred 15 = .ok (.iload_n 3, 1) := by decide +kernel
theorem dX8_barred_16 : decode cX8_barred 16 = .ok (.iconst 1, 1) := by decide +kernel
theorem dX8_barred_17 : decode cX8_barred 17 = .ok (.aload_n 0, 1) := by decide +kernel
theorem dX8_barred_18 : decode cX8_barred 18 = .ok (.getfield 77, 3) := by decide +kernel
theorem dX8_barred_21 : decode cX8_barred 21 = .ok (.ishl, 1) := by decide +kernel
theorem dX8_barred_22 : decode cX8_barred 22 = .ok (.if_icmp .ge 78, 3) := by decide +kernel
theorem dX8_barred_25 : decode cX8_barred 25 = .ok (.iload_n 3, 1) := by decide +kernel
theorem dX8_barred_26 : decode cX8_barred 26 = .ok (.aload_n 0, 1) := by decide +kernel
theorem dX8_barred_27 : decode cX8_barred 27 = .ok (.getfield 19, 3) := by decide +kernel
theorem dX8_barred_30 : decode cX8_barred 30 = .ok (.iconst 2, 1) := by decide +kernel
theorem dX8_barred_31 : decode cX8_barred 31 = .ok (.iaload, 1) := by decide +kernel
theorem dX8_barred_32 : decode cX8_barred 32 = .ok (.iand, 1) := by decide +kernel
theorem dX8_barred_33 : decode cX8_barred 33 = .ok (.ifCond .ne 22, 3) := by decide +kernel
theorem dX8_barred_36 : decode cX8_barred 36 = .ok (.iload_n 2, 1) := by decide +kernel
theorem dX8_barred_37 : decode cX8_barred 37 = .ok (.ifCond .lt 14, 3) := by decide +kernel
theorem dX8_barred_40 : decode cX8_barred 40 = .ok (.iload_n 3, 1) := by decide +kernel
theorem dX8_barred_41 : decode cX8_barred 41 = .ok (.invokestatic 201, 3) := by decide +kernel
theorem dX8_barred_44 : decode cX8_barred 44 = .ok (.iload_n 2, 1) := by decide +kernel
theorem dX8_barred_45 : decode cX8_barred 45 = .ok (.invokestatic 201, 3) := by decide +kernel
theorem dX8_barred_48 : decode cX8_barred 48 = .ok (.if_icmp .ge 7, 3) := by decide +kernel
theorem dX8_barred_51 : decode cX8_barred 51 = .ok (.iconst 1, 1) := by decide +kernel
theorem dX8_barred_52 : decode cX8_barred 52 = .ok (.goto 4, 3) := by decide +kernel
theorem dX8_barred_55 : decode cX8_barred 55 = .ok (.iconst 0, 1) := by decide +kernel
theorem dX8_barred_56 : decode cX8_barred 56 = .ok (.istore 4, 2) := by decide +kernel
theorem dX8_barred_58 : decode cX8_barred 58 = .ok (.iload 4, 2) := by decide +kernel
theorem dX8_barred_60 : decode cX8_barred 60 = .ok (.ifCond .eq 32, 3) := by decide +kernel
theorem dX8_barred_63 : decode cX8_barred 63 = .ok (.aload_n 0, 1) := by decide +kernel
theorem dX8_barred_64 : decode cX8_barred 64 = .ok (.aload_n 0, 1) := by decide +kernel
theorem dX8_barred_65 : decode cX8_barred 65 = .ok (.getfield 19, 3) := by decide +kernel
theorem dX8_barred_68 : decode cX8_barred 68 = .ok (.iconst 0, 1) := by decide +kernel
theorem dX8_barred_69 : decode cX8_barred 69 = .ok (.iaload, 1) := by decide +kernel
theorem dX8_barred_70 : decode cX8_barred 70 = .ok (.aload_n 0, 1) := by decide +kernel
theorem dX8_barred_71 : decode cX8_barred 71 = .ok (.invokevirtual 149, 3) := by decide +kernel
theorem dX8_barred_74 : decode cX8_barred 74 = .ok (.iload_n 3, 1) := by decide +kernel
theorem dX8_barred_75 : decode cX8_barred 75 = .ok (.iconst (-1), 1) := by decide +kernel
theorem dX8_barred_76 : decode cX8_barred 76 = .ok (.ixor, 1) := by decide +kernel
theorem dX8_barred_77 : decode cX8_barred 77 = .ok (.iand, 1) := by decide +kernel
theorem dX8_barred_78 : decode cX8_barred 78 = .ok (.invokevirtual 152, 3) := by decide +kernel
theorem dX8_barred_81 : decode cX8_barred 81 = .ok (.iload_n 1, 1) := by decide +kernel
theorem dX8_barred_82 : decode cX8_barred 82 = .ok (.invokestatic 114, 3) := by decide +kernel
theorem dX8_barred_85 : decode cX8_barred 85 = .ok (.ifCond .ne 7, 3) := by decide +kernel
theorem dX8_barred_88 : decode cX8_barred 88 = .ok (.iload_n 3, 1) := by decide +kernel
theorem dX8_barred_89 : decode cX8_barred 89 = .ok (.goto 4, 3) := by decide +kernel
theorem dX8_barred_92 : decode cX8_barred 92 = .ok (.iload_n 2, 1) := by decide +kernel
theorem dX8_barred_93 : decode cX8_barred 93 = .ok (.istore_n 2, 1) := by decide +kernel
theorem dX8_barred_94 : decode cX8_barred 94 = .ok (.iinc 3 1, 3) := by decide +kernel
theorem dX8_barred_97 : decode cX8_barred 97 = .ok (.goto (-82), 3) := by decide +kernel
theorem dX8_barred_100 : decode cX8_barred 100 = .ok (.iload_n 2, 1) := by decide +kernel
theorem dX8_barred_101 : decode cX8_barred 101 = .ok (.ireturn, 1) := by decide +kernel
theorem dX8_never_0 : decode cX8_never 0 = .ok (.iconst 1, 1) := by decide +kernel
theorem dX8_never_1 : decode cX8_never 1 = .ok (.iconst 2, 1) := by decide +kernel
theorem dX8_never_2 : decode cX8_never 2 = .ok (.aload_n 0, 1) := by decide +kernel
theorem dX8_never_3 : decode cX8_never 3 = .ok (.getfield 70, 3) := by decide +kernel
theorem dX8_never_6 : decode cX8_never 6 = .ok (.imul, 1) := by decide +kernel
theorem dX8_never_7 : decode cX8_never 7 = .ok (.ishl, 1) := by decide +kernel
theorem dX8_never_8 : decode cX8_never 8 = .ok (.iconst 1, 1) := by decide +kernel
theorem dX8_never_9 : decode cX8_never 9 = .ok (.isub, 1) := by decide +kernel
theorem dX8_never_10 : decode cX8_never 10 = .ok (.istore_n 1, 1) := by decide +kernel
theorem dX8_never_11 : decode cX8_never 11 = .ok (.iconst 0, 1) := by decide +kernel
theorem dX8_never_12 : decode cX8_never 12 = .ok (.istore_n 2, 1) := by decide +kernel
theorem dX8_never_13 : decode cX8_never 13 = .ok (.iload_n 2, 1) := by decide +kernel
theorem dX8_never_14 : decode cX8_never 14 = .ok (.aload_n 0, 1) := by decide +kernel
theorem dX8_never_15 : decode cX8_never 15 = .ok (.getfield 77, 3) := by decide +kernel
theorem dX8_never_18 : decode cX8_never 18 = .ok (.if_icmp .ge 37, 3) := by decide +kernel
theorem dX8_never_21 : decode cX8_never 21 = .ok (.iload_n 1, 1) := by decide +kernel
theorem dX8_never_22 : decode cX8_never 22 = .ok (.aload_n 0, 1) := by decide +kernel
theorem dX8_never_23 : decode cX8_never 23 = .ok (.invokevirtual 149, 3) := by decide +kernel
theorem dX8_never_26 : decode cX8_never 26 = .ok (.iload_n 2, 1) := by decide +kernel
theorem dX8_never_27 : decode cX8_never 27 = .ok (.invokestatic 114, 3) := by decide +kernel
theorem dX8_never_30 : decode cX8_never 30 = .ok (.ifCond .eq 16, 3) := by decide +kernel
theorem dX8_never_33 : decode cX8_never 33 = .ok (.iconst 1, 1) := by decide +kernel
theorem dX8_never_34 : decode cX8_never 34 = .ok (.aload_n 0, 1) := by decide +kernel
theorem dX8_never_35 : decode cX8_never 35 = .ok (.getfield 13, 3) := by decide +kernel
theorem dX8_never_38 : decode cX8_never 38 = .ok (.iload_n 2, 1) := by decide +kernel
theorem dX8_never_39 : decode cX8_never 39 = .ok (.iaload, 1) := by decide +kernel
theorem dX8_never_40 : decode cX8_never 40 = .ok (.ishl, 1) := by decide +kernel
theorem dX8_never_41 : decode cX8_never 41 = .ok (.iconst (-1), 1) := by decide +kernel
theorem dX8_never_42 : decode cX8_never 42 = .ok (.ixor, 1) := by decide +kernel
theorem dX8_never_43 : decode cX8_never 43 = .ok (.goto 4, 3) := by decide +kernel
theorem dX8_never_46 : decode cX8_never 46 = .ok (.iconst (-1), 1) := by decide +kernel
theorem dX8_never_47 : decode cX8_never 47 = .ok (.iand, 1) := by decide +kernel
theorem dX8_never_48 : decode cX8_never 48 = .ok (.istore_n 1, 1) := by decide +kernel
theorem dX8_never_49 : decode cX8_never 49 = .ok (.iinc 2 1, 3) := by decide +kernel
theorem dX8_never_52 : decode cX8_never 52 = .ok (.goto (-39), 3) := by decide +kernel
theorem dX8_never_55 : decode cX8_never 55 = .ok (.iload_n 1, 1) := by decide +kernel
theorem dX8_never_56 : decode cX8_never 56 = .ok (.ireturn, 1) := by decide +kernel
theorem dX8_round_0 : decode cX8_round 0 = .ok (.iconst 0, 1) := by decide +kernel
theorem dX8_round_1 : decode cX8_round 1 = .ok (.istore_n 1, 1) := by decide +kernel
theorem dX8_round_2 : decode cX8_round 2 = .ok (.iconst 0, 1) := by decide +kernel
theorem dX8_round_3 : decode cX8_round 3 = .ok (.istore_n 2, 1) := by decide +kernel
theorem dX8_round_4 : decode cX8_round 4 = .ok (.iload_n 2, 1) := by decide +kernel
theorem dX8_round_5 : decode cX8_round 5 = .ok (.aload_n 0, 1) := by decide +kernel
theorem dX8_round_6 : decode cX8_round 6 = .ok (.getfield 77, 3) := by decide +kernel
theorem dX8_round_9 : decode cX8_round 9 = .ok (.if_icmp .ge 65, 3) := by decide +kernel
theorem dX8_round_12 : decode cX8_round 12 = .ok (.aload_n 0, 1) := by decide +kernel
theorem dX8_round_13 : decode cX8_round 13 = .ok (.iconst 1, 1) := by decide +kernel
theorem dX8_round_14 : decode cX8_round 14 = .ok (.aload_n 0, 1) := by decide +kernel
theorem dX8_round_15 : decode cX8_round 15 = .ok (.getfield 13, 3) := by decide +kernel
theorem dX8_round_18 : decode cX8_round 18 = .ok (.iload_n 2, 1) := by decide +kernel
theorem dX8_round_19 : decode cX8_round 19 = .ok (.iaload, 1) := by decide +kernel
theorem dX8_round_20 : decode cX8_round 20 = .ok (.ishl, 1) := by decide +kernel
theorem dX8_round_21 : decode cX8_round 21 = .ok (.aload_n 0, 1) := by decide +kernel
theorem dX8_round_22 : decode cX8_round 22 = .ok (.invokevirtual 149, 3) := by decide +kernel
theorem dX8_round_25 : decode cX8_round 25 = .ok (.invokevirtual 152, 3) := by decide +kernel
theorem dX8_round_28 : decode cX8_round 28 = .ok (.istore_n 3, 1) := by decide +kernel
theorem dX8_round_29 : decode cX8_round 29 = .ok (.iload_n 1, 1) := by decide +kernel
theorem dX8_round_30 : decode cX8_round 30 = .ok (.aload_n 0, 1) := by decide +kernel
theorem dX8_round_31 : decode cX8_round 31 = .ok (.invokevirtual 149, 3) := by decide +kernel
theorem dX8_round_34 : decode cX8_round 34 = .ok (.iload_n 2, 1) := by decide +kernel
theorem dX8_round_35 : decode cX8_round 35 = .ok (.invokestatic 114, 3) := by decide +kernel
theorem dX8_round_38 : decode cX8_round 38 = .ok (.ifCond .eq 27, 3) := by decide +kernel
theorem dX8_round_41 : decode cX8_round 41 = .ok (.aload_n 0, 1) := by decide +kernel
theorem dX8_round_42 : decode cX8_round 42 = .ok (.getfield 16, 3) := by decide +kernel
theorem dX8_round_45 : decode cX8_round 45 = .ok (.iload_n 2, 1) := by decide +kernel
theorem dX8_round_46 : decode cX8_round 46 = .ok (.iaload, 1) := by decide +kernel
theorem dX8_round_47 : decode cX8_round 47 = .ok (.iload_n 3, 1) := by decide +kernel
theorem dX8_round_48 : decode cX8_round 48 = .ok (.iconst (-1), 1) := by decide +kernel
theorem dX8_round_49 : decode cX8_round 49 = .ok (.ixor, 1) := by decide +kernel
theorem dX8_round_50 : decode cX8_round 50 = .ok (.iand, 1) := by decide +kernel
theorem dX8_round_51 : decode cX8_round 51 = .ok (.ifCond .ne 14, 3) := by decide +kernel
theorem dX8_round_54 : decode cX8_round 54 = .ok (.iconst 1, 1) := by decide +kernel
theorem dX8_round_55 : decode cX8_round 55 = .ok (.aload_n 0, 1) := by decide +kernel
theorem dX8_round_56 : decode cX8_round 56 = .ok (.getfield 13, 3) := by decide +kernel
theorem dX8_round_59 : decode cX8_round 59 = .ok (.iload_n 2, 1) := by decide +kernel
theorem dX8_round_60 : decode cX8_round 60 = .ok (.iaload, 1) := by decide +kernel
theorem dX8_round_61 : decode cX8_round 61 = .ok (.ishl, 1) := by decide +kernel
theorem dX8_round_62 : decode cX8_round 62 = .ok (.goto 4, 3) := by decide +kernel
theorem dX8_round_65 : decode cX8_round 65 = .ok (.iconst 0, 1) := by decide +kernel
theorem dX8_round_66 : decode cX8_round 66 = .ok (.ior, 1) := by decide +kernel
theorem dX8_round_67 : decode cX8_round 67 = .ok (.istore_n 1, 1) := by decide +kernel
theorem dX8_round_68 : decode cX8_round 68 = .ok (.iinc 2 1, 3) := by decide +kernel
theorem dX8_round_71 : decode cX8_round 71 = .ok (.goto (-67), 3) := by decide +kernel
theorem dX8_round_74 : decode cX8_round 74 = .ok (.iload_n 1, 1) := by decide +kernel
theorem dX8_round_75 : decode cX8_round 75 = .ok (.ireturn, 1) := by decide +kernel
theorem dX8_vote_0 : decode cX8_vote 0 = .ok (.iload_n 1, 1) := by decide +kernel
theorem dX8_vote_1 : decode cX8_vote 1 = .ok (.i2l, 1) := by decide +kernel
theorem dX8_vote_2 : decode cX8_vote 2 = .ok (.lconst 1, 1) := by decide +kernel
theorem dX8_vote_3 : decode cX8_vote 3 = .ok (.ldc2_w 211, 3) := by decide +kernel
theorem dX8_vote_6 : decode cX8_vote 6 = .ok (.invokestatic 73, 3) := by decide +kernel
theorem dX8_vote_9 : decode cX8_vote 9 = .ok (.ifCond .eq 15, 3) := by decide +kernel
theorem dX8_vote_12 : decode cX8_vote 12 = .ok (.iload_n 2, 1) := by decide +kernel
theorem dX8_vote_13 : decode cX8_vote 13 = .ok (.i2l, 1) := by decide +kernel
theorem dX8_vote_14 : decode cX8_vote 14 = .ok (.lconst 0, 1) := by decide +kernel
theorem dX8_vote_15 : decode cX8_vote 15 = .ok (.ldc2_w 213, 3) := by decide +kernel
theorem dX8_vote_18 : decode cX8_vote 18 = .ok (.invokestatic 73, 3) := by decide +kernel
theorem dX8_vote_21 : decode cX8_vote 21 = .ok (.ifCond .ne 6, 3) := by decide +kernel
theorem dX8_vote_24 : decode cX8_vote 24 = .ok (.ldc 82, 2) := by decide +kernel
theorem dX8_vote_26 : decode cX8_vote 26 = .ok (.ireturn, 1) := by decide +kernel
theorem dX8_vote_27 : decode cX8_vote 27 = .ok (.iconst 0, 1) := by decide +kernel
theorem dX8_vote_28 : decode cX8_vote 28 = .ok (.istore_n 3, 1) := by decide +kernel
theorem dX8_vote_29 : decode cX8_vote 29 = .ok (.iload_n 3, 1) := by decide +kernel
theorem dX8_vote_30 : decode cX8_vote 30 = .ok (.bipush 10, 2) := by decide +kernel
theorem dX8_vote_32 : decode cX8_vote 32 = .ok (.if_icmp .ge 26, 3) := by decide +kernel
theorem dX8_vote_35 : decode cX8_vote 35 = .ok (.aload_n 0, 1) := by decide +kernel
theorem dX8_vote_36 : decode cX8_vote 36 = .ok (.getfield 41, 3) := by decide +kernel
theorem dX8_vote_39 : decode cX8_vote 39 = .ok (.iload_n 3, 1) := by decide +kernel
theorem dX8_vote_40 : decode cX8_vote 40 = .ok (.iload_n 3, 1) := by decide +kernel
theorem dX8_vote_41 : decode cX8_vote 41 = .ok (.ifCond .ne 9, 3) := by decide +kernel
theorem dX8_vote_44 : decode cX8_vote 44 = .ok (.ldc2_w 215, 3) := by decide +kernel
theorem dX8_vote_47 : decode cX8_vote 47 = .ok (.goto 4, 3) := by decide +kernel
theorem dX8_vote_50 : decode cX8_vote 50 = .ok (.lconst 0, 1) := by decide +kernel
theorem dX8_vote_51 : decode cX8_vote 51 = .ok (.lastore, 1) := by decide +kernel
theorem dX8_vote_52 : decode cX8_vote 52 = .ok (.iinc 3 1, 3) := by decide +kernel
theorem dX8_vote_55 : decode cX8_vote 55 = .ok (.goto (-26), 3) := by decide +kernel
theorem dX8_vote_58 : decode cX8_vote 58 = .ok (.iconst 0, 1) := by decide +kernel
theorem dX8_vote_59 : decode cX8_vote 59 = .ok (.istore_n 3, 1) := by decide +kernel
theorem dX8_vote_60 : decode cX8_vote 60 = .ok (.iload_n 3, 1) := by decide +kernel
theorem dX8_vote_61 : decode cX8_vote 61 = .ok (.iload_n 1, 1) := by decide +kernel
theorem dX8_vote_62 : decode cX8_vote 62 = .ok (.if_icmp .ge 65, 3) := by decide +kernel
theorem dX8_vote_65 : decode cX8_vote 65 = .ok (.iload_n 3, 1) := by decide +kernel
theorem dX8_vote_66 : decode cX8_vote 66 = .ok (.istore 4, 2) := by decide +kernel
theorem dX8_vote_68 : decode cX8_vote 68 = .ok (.iload 4, 2) := by decide +kernel
theorem dX8_vote_70 : decode cX8_vote 70 = .ok (.ifCond .lt 51, 3) := by decide +kernel
theorem dX8_vote_73 : decode cX8_vote 73 = .ok (.aload_n 0, 1) := by decide +kernel
theorem dX8_vote_74 : decode cX8_vote 74 = .ok (.getfield 41, 3) := by decide +kernel
theorem dX8_vote_77 : decode cX8_vote 77 = .ok (.iload 4, 2) := by decide +kernel
theorem dX8_vote_79 : decode cX8_vote 79 = .ok (.laload, 1) := by decide +kernel
theorem dX8_vote_80 : decode cX8_vote 80 = .ok (.iload_n 2, 1) := by decide +kernel
theorem dX8_vote_81 : decode cX8_vote 81 = .ok (.i2l, 1) := by decide +kernel
theorem dX8_vote_82 : decode cX8_vote 82 = .ok (.lmul, 1) := by decide +kernel
theorem dX8_vote_83 : decode cX8_vote 83 = .ok (.ldc2_w 213, 3) := by decide +kernel
theorem dX8_vote_86 : decode cX8_vote 86 = .ok (.ldiv, 1) := by decide +kernel
theorem dX8_vote_87 : decode cX8_vote 87 = .ok (.lstore 5, 2) := by decide +kernel
theorem dX8_vote_89 : decode cX8_vote 89 = .ok (.aload_n 0, 1) := by decide +kernel
theorem dX8_vote_90 : decode cX8_vote 90 = .ok (.getfield 41, 3) := by decide +kernel
theorem dX8_vote_93 : decode cX8_vote 93 = .ok (.iload 4, 2) := by decide +kernel
theorem dX8_vote_95 : decode cX8_vote 95 = .ok (.iconst 1, 1) := by decide +kernel
theorem dX8_vote_96 : decode cX8_vote 96 = .ok (.iadd, 1) := by decide +kernel
theorem dX8_vote_97 : decode cX8_vote 97 = .ok (.dup2, 1) := by decide +kernel
theorem dX8_vote_98 : decode cX8_vote 98 = .ok (.laload, 1) := by decide +kernel
theorem dX8_vote_99 : decode cX8_vote 99 = .ok (.lload 5, 2) := by decide +kernel
theorem dX8_vote_101 : decode cX8_vote 101 = .ok (.ladd, 1) := by decide +kernel
theorem dX8_vote_102 : decode cX8_vote 102 = .ok (.lastore, 1) := by decide +kernel
theorem dX8_vote_103 : decode cX8_vote 103 = .ok (.aload_n 0, 1) := by decide +kernel
theorem dX8_vote_104 : decode cX8_vote 104 = .ok (.getfield 41, 3) := by decide +kernel
theorem dX8_vote_107 : decode cX8_vote 107 = .ok (.iload 4, 2) := by decide +kernel
theorem dX8_vote_109 : decode cX8_vote 109 = .ok (.dup2, 1) := by decide +kernel
theorem dX8_vote_110 : decode cX8_vote 110 = .ok (.laload, 1) := by decide +kernel
theorem dX8_vote_111 : decode cX8_vote 111 = .ok (.lload 5, 2) := by decide +kernel
theorem dX8_vote_113 : decode cX8_vote 113 = .ok (.lsub, 1) := by decide +kernel
theorem dX8_vote_114 : decode cX8_vote 114 = .ok (.lastore, 1) := by decide +kernel
theorem dX8_vote_115 : decode cX8_vote 115 = .ok (.iinc 4 (-1), 3) := by decide +kernel
theorem dX8_vote_118 : decode cX8_vote 118 = .ok (.goto (-50), 3) := by decide +kernel
theorem dX8_vote_121 : decode cX8_vote 121 = .ok (.iinc 3 1, 3) := by decide +kernel
theorem dX8_vote_124 : decode cX8_vote 124 = .ok (.goto (-64), 3) := by decide +kernel
theorem dX8_vote_127 : decode cX8_vote 127 = .ok (.lconst 0, 1) := by decide +kernel
theorem dX8_vote_128 : decode cX8_vote 128 = .ok (.lstore_n 3, 1) := by decide +kernel
theorem dX8_vote_129 : decode cX8_vote 129 = .ok (.iload_n 1, 1) := by decide +kernel
theorem dX8_vote_130 : decode cX8_vote 130 = .ok (.iconst 2, 1) := by decide +kernel
theorem dX8_vote_131 : decode cX8_vote 131 = .ok (.idiv, 1) := by decide +kernel
theorem dX8_vote_132 : decode cX8_vote 132 = .ok (.iconst 1, 1) := by decide +kernel
theorem dX8_vote_133 : decode cX8_vote 133 = .ok (.iadd, 1) := by decide +kernel
theorem dX8_vote_134 : decode cX8_vote 134 = .ok (.istore 5, 2) := by decide +kernel
theorem dX8_vote_136 : decode cX8_vote 136 = .ok (.iload 5, 2) := by decide +kernel
theorem dX8_vote_138 : decode cX8_vote 138 = .ok (.iload_n 1, 1) := by decide +kernel
theorem dX8_vote_139 : decode cX8_vote 139 = .ok (.if_icmp .gt 19, 3) := by decide +kernel
theorem dX8_vote_142 : decode cX8_vote 142 = .ok (.lload_n 3, 1) := by decide +kernel
theorem dX8_vote_143 : decode cX8_vote 143 = .ok (.aload_n 0, 1) := by decide +kernel
theorem dX8_vote_144 : decode cX8_vote 144 = .ok (.getfield 41, 3) := by decide +kernel
theorem dX8_vote_147 : decode cX8_vote 147 = .ok (.iload 5, 2) := by decide +kernel
theorem dX8_vote_149 : decode cX8_vote 149 = .ok (.laload, 1) := by decide +kernel
theorem dX8_vote_150 : decode cX8_vote 150 = .ok (.ladd, 1) := by decide +kernel
theorem dX8_vote_151 : decode cX8_vote 151 = .ok (.lstore_n 3, 1) := by decide +kernel
theorem dX8_vote_152 : decode cX8_vote 152 = .ok (.iinc 5 1, 3) := by decide +kernel
theorem dX8_vote_155 : decode cX8_vote 155 = .ok (.goto (-19), 3) := by decide +kernel
theorem dX8_vote_158 : decode cX8_vote 158 = .ok (.lload_n 3, 1) := by decide +kernel
theorem dX8_vote_159 : decode cX8_vote 159 = .ok (.l2i, 1) := by decide +kernel
theorem dX8_vote_160 : decode cX8_vote 160 = .ok (.ireturn, 1) := by decide +kernel
theorem dX8_ask_0 : decode cX8_ask 0 = .ok (.aload_n 0, 1) := by decide +kernel
theorem dX8_ask_1 : decode cX8_ask 1 = .ok (.iload_n 1, 1) := by decide +kernel
theorem dX8_ask_2 : decode cX8_ask 2 = .ok (.invokevirtual 198, 3) := by decide +kernel
theorem dX8_ask_5 : decode cX8_ask 5 = .ok (.ifCond .eq 11, 3) := by decide +kernel
theorem dX8_ask_8 : decode cX8_ask 8 = .ok (.aload_n 0, 1) := by decide +kernel
theorem dX8_ask_9 : decode cX8_ask 9 = .ok (.iload_n 2, 1) := by decide +kernel
theorem dX8_ask_10 : decode cX8_ask 10 = .ok (.invokevirtual 166, 3) := by decide +kernel
theorem dX8_ask_13 : decode cX8_ask 13 = .ok (.ifCond .ne 6, 3) := by decide +kernel
theorem dX8_ask_16 : decode cX8_ask 16 = .ok (.ldc 165, 2) := by decide +kernel
theorem dX8_ask_18 : decode cX8_ask 18 = .ok (.ireturn, 1) := by decide +kernel
theorem dX8_ask_19 : decode cX8_ask 19 = .ok (.aload_n 0, 1) := by decide +kernel
theorem dX8_ask_20 : decode cX8_ask 20 = .ok (.getfield 140, 3) := by decide +kernel
theorem dX8_ask_23 : decode cX8_ask 23 = .ok (.bipush 6, 2) := by decide +kernel
theorem dX8_ask_25 : decode cX8_ask 25 = .ok (.if_icmp .ne 6, 3) := by decide +kernel
theorem dX8_ask_28 : decode cX8_ask 28 = .ok (.ldc 86, 2) := by decide +kernel
theorem dX8_ask_30 : decode cX8_ask 30 = .ok (.ireturn, 1) := by decide +kernel
theorem dX8_ask_31 : decode cX8_ask 31 = .ok (.aload_n 0, 1) := by decide +kernel
theorem dX8_ask_32 : decode cX8_ask 32 = .ok (.getfield 45, 3) := by decide +kernel
theorem dX8_ask_35 : decode cX8_ask 35 = .ok (.aload_n 0, 1) := by decide +kernel
theorem dX8_ask_36 : decode cX8_ask 36 = .ok (.getfield 140, 3) := by decide +kernel
theorem dX8_ask_39 : decode cX8_ask 39 = .ok (.iload_n 1, 1) := by decide +kernel
theorem dX8_ask_40 : decode cX8_ask 40 = .ok (.iastore, 1) := by decide +kernel
theorem dX8_ask_41 : decode cX8_ask 41 = .ok (.aload_n 0, 1) := by decide +kernel
theorem dX8_ask_42 : decode cX8_ask 42 = .ok (.getfield 48, 3) := by decide +kernel
theorem dX8_ask_45 : decode cX8_ask 45 = .ok (.aload_n 0, 1) := by decide +kernel
theorem dX8_ask_46 : decode cX8_ask 46 = .ok (.getfield 140, 3) := by decide +kernel
theorem dX8_ask_49 : decode cX8_ask 49 = .ok (.iload_n 2, 1) := by decide +kernel
theorem dX8_ask_50 : decode cX8_ask 50 = .ok (.iastore, 1) := by decide +kernel
theorem dX8_ask_51 : decode cX8_ask 51 = .ok (.aload_n 0, 1) := by decide +kernel
theorem dX8_ask_52 : decode cX8_ask 52 = .ok (.getfield 51, 3) := by decide +kernel
theorem dX8_ask_55 : decode cX8_ask 55 = .ok (.aload_n 0, 1) := by decide +kernel
theorem dX8_ask_56 : decode cX8_ask 56 = .ok (.getfield 140, 3) := by decide +kernel
theorem dX8_ask_59 : decode cX8_ask 59 = .ok (.iload_n 3, 1) := by decide +kernel
theorem dX8_ask_60 : decode cX8_ask 60 = .ok (.bastore, 1) := by decide +kernel
theorem dX8_ask_61 : decode cX8_ask 61 = .ok (.aload_n 0, 1) := by decide +kernel
theorem dX8_ask_62 : decode cX8_ask 62 = .ok (.dup, 1) := by decide +kernel
theorem dX8_ask_63 : decode cX8_ask 63 = .ok (.getfield 140, 3) := by decide +kernel
theorem dX8_ask_66 : decode cX8_ask 66 = .ok (.iconst 1, 1) := by decide +kernel
theorem dX8_ask_67 : decode cX8_ask 67 = .ok (.iadd, 1) := by decide +kernel
theorem dX8_ask_68 : decode cX8_ask 68 = .ok (.putfield 140, 3) := by decide +kernel
theorem dX8_ask_71 : decode cX8_ask 71 = .ok (.aload_n 0, 1) := by decide +kernel
theorem dX8_ask_72 : decode cX8_ask 72 = .ok (.getfield 140, 3) := by decide +kernel
theorem dX8_ask_75 : decode cX8_ask 75 = .ok (.ireturn, 1) := by decide +kernel
theorem dX8_isBelieved_0 : decode cX8_isBelieved 0 = .ok (.iconst 1, 1) := by decide +kernel
theorem dX8_isBelieved_1 : decode cX8_isBelieved 1 = .ok (.istore_n 2, 1) := by decide +kernel
theorem dX8_isBelieved_2 : decode cX8_isBelieved 2 = .ok (.iconst 0, 1) := by decide +kernel
theorem dX8_isBelieved_3 : decode cX8_isBelieved 3 = .ok (.istore_n 3, 1) := by decide +kernel
theorem dX8_isBelieved_4 : decode cX8_isBelieved 4 = .ok (.iload_n 3, 1) := by decide +kernel
theorem dX8_isBelieved_5 : decode cX8_isBelieved 5 = .ok (.aload_n 0, 1) := by decide +kernel
theorem dX8_isBelieved_6 : decode cX8_isBelieved 6 = .ok (.getfield 140, 3) := by decide +kernel
theorem dX8_isBelieved_9 : decode cX8_isBelieved 9 = .ok (.if_icmp .ge 48, 3) := by decide +kernel
theorem dX8_isBelieved_12 : decode cX8_isBelieved 12 = .ok (.iload_n 2, 1) := by decide +kernel
theorem dX8_isBelieved_13 : decode cX8_isBelieved 13 = .ok (.ifCond .eq 36, 3) := by decide +kernel
theorem dX8_isBelieved_16 : decode cX8_isBelieved 16 = .ok (.aload_n 0, 1) := by decide +kernel
theorem dX8_isBelieved_17 : decode cX8_isBelieved 17 = .ok (.aload_n 0, 1) := by decide +kernel
theorem dX8_isBelieved_18 : decode cX8_isBelieved 18 = .ok (.getfield 45, 3) := by decide +kernel
theorem dX8_isBelieved_21 : decode cX8_isBelieved 21 = .ok (.iload_n 3, 1) := by decide +kernel
theorem dX8_isBelieved_22 : decode cX8_isBelieved 22 = .ok (.iaload, 1) := by decide +kernel
theorem dX8_isBelieved_23 : decode cX8_isBelieved 23 = .ok (.iload_n 1, 1) := by decide +kernel
theorem dX8_isBelieved_24 : decode cX8_isBelieved 24 = .ok (.invokevirtual 152, 3) := by decide +kernel
theorem dX8_isBelieved_27 : decode cX8_isBelieved 27 = .ok (.aload_n 0, 1) := by decide +kernel
theorem dX8_isBelieved_28 : decode cX8_isBelieved 28 = .ok (.getfield 48, 3) := by decide +kernel
theorem dX8_isBelieved_31 : decode cX8_isBelieved 31 = .ok (.iload_n 3, 1) := by decide +kernel
theorem dX8_isBelieved_32 : decode cX8_isBelieved 32 = .ok (.iaload, 1) := by decide +kernel
theorem dX8_isBelieved_33 : decode cX8_isBelieved 33 = .ok (.invokestatic 114, 3) := by decide +kernel
theorem dX8_isBelieved_36 : decode cX8_isBelieved 36 = .ok (.aload_n 0, 1) := by decide +kernel
theorem dX8_isBelieved_37 : decode cX8_isBelieved 37 = .ok (.getfield 51, 3) := by decide +kernel
theorem dX8_isBelieved_40 : decode cX8_isBelieved 40 = .ok (.iload_n 3, 1) := by decide +kernel
theorem dX8_isBelieved_41 : decode cX8_isBelieved 41 = .ok (.baload, 1) := by decide +kernel
theorem dX8_isBelieved_42 : decode cX8_isBelieved 42 = .ok (.if_icmp .ne 7, 3) := by decide +kernel
theorem dX8_isBelieved_45 : decode cX8_isBelieved 45 = .ok (.iconst 1, 1) := by decide +kernel
theorem dX8_isBelieved_46 : decode cX8_isBelieved 46 = .ok (.goto 4, 3) := by decide +kernel
theorem dX8_isBelieved_49 : decode cX8_isBelieved 49 = .ok (.iconst 0, 1) := by decide +kernel
theorem dX8_isBelieved_50 : decode cX8_isBelieved 50 = .ok (.istore_n 2, 1) := by decide +kernel
theorem dX8_isBelieved_51 : decode cX8_isBelieved 51 = .ok (.iinc 3 1, 3) := by decide +kernel
theorem dX8_isBelieved_54 : decode cX8_isBelieved 54 = .ok (.goto (-50), 3) := by decide +kernel
theorem dX8_isBelieved_57 : decode cX8_isBelieved 57 = .ok (.iload_n 2, 1) := by decide +kernel
theorem dX8_isBelieved_58 : decode cX8_isBelieved 58 = .ok (.ireturn, 1) := by decide +kernel
theorem dX8_believed_0 : decode cX8_believed 0 = .ok (.iload_n 1, 1) := by decide +kernel
theorem dX8_believed_1 : decode cX8_believed 1 = .ok (.i2l, 1) := by decide +kernel
theorem dX8_believed_2 : decode cX8_believed 2 = .ok (.lconst 0, 1) := by decide +kernel
theorem dX8_believed_3 : decode cX8_believed 3 = .ok (.ldc2_w 217, 3) := by decide +kernel
theorem dX8_believed_6 : decode cX8_believed 6 = .ok (.invokestatic 73, 3) := by decide +kernel
theorem dX8_believed_9 : decode cX8_believed 9 = .ok (.ifCond .ne 6, 3) := by decide +kernel
theorem dX8_believed_12 : decode cX8_believed 12 = .ok (.ldc 82, 2) := by decide +kernel
theorem dX8_believed_14 : decode cX8_believed 14 = .ok (.ireturn, 1) := by decide +kernel
theorem dX8_believed_15 : decode cX8_believed 15 = .ok (.iconst 0, 1) := by decide +kernel
theorem dX8_believed_16 : decode cX8_believed 16 = .ok (.istore_n 2, 1) := by decide +kernel
theorem dX8_believed_17 : decode cX8_believed 17 = .ok (.iconst (-1), 1) := by decide +kernel
theorem dX8_believed_18 : decode cX8_believed 18 = .ok (.istore_n 3, 1) := by decide +kernel
theorem dX8_believed_19 : decode cX8_believed 19 = .ok (.iconst 1, 1) := by decide +kernel
theorem dX8_believed_20 : decode cX8_believed 20 = .ok (.aload_n 0, 1) := by decide +kernel
theorem dX8_believed_21 : decode cX8_believed 21 = .ok (.getfield 77, 3) := by decide +kernel
theorem dX8_believed_24 : decode cX8_believed 24 = .ok (.ishl, 1) := by decide +kernel
theorem dX8_believed_25 : decode cX8_believed 25 = .ok (.iconst 1, 1) := by decide +kernel
theorem dX8_believed_26 : decode cX8_believed 26 = .ok (.isub, 1) := by decide +kernel
theorem dX8_believed_27 : decode cX8_believed 27 = .ok (.istore 4, 2) := by decide +kernel
theorem dX8_believed_29 : decode cX8_believed 29 = .ok (.iconst 0, 1) := by decide +kernel
theorem dX8_believed_30 : decode cX8_believed 30 = .ok (.istore 5, 2) := by decide +kernel
theorem dX8_believed_32 : decode cX8_believed 32 = .ok (.iload 5, 2) := by decide +kernel
theorem dX8_believed_34 : decode cX8_believed 34 = .ok (.iconst 1, 1) := by decide +kernel
theorem dX8_believed_35 : decode cX8_believed 35 = .ok (.aload_n 0, 1) := by decide +kernel
theorem dX8_believed_36 : decode cX8_believed 36 = .ok (.getfield 77, 3) := by decide +kernel
theorem dX8_believed_39 : decode cX8_believed 39 = .ok (.ishl, 1) := by decide +kernel
theorem dX8_believed_40 : decode cX8_believed 40 = .ok (.if_icmp .ge 39, 3) := by decide +kernel
theorem dX8_believed_43 : decode cX8_believed 43 = .ok (.aload_n 0, 1) := by decide +kernel
theorem dX8_believed_44 : decode cX8_believed 44 = .ok (.iload 5, 2) := by decide +kernel
theorem dX8_believed_46 : decode cX8_believed 46 = .ok (.invokevirtual 219, 3) := by decide +kernel
theorem dX8_believed_49 : decode cX8_believed 49 = .ok (.ifCond .eq 24, 3) := by decide +kernel
theorem dX8_believed_52 : decode cX8_believed 52 = .ok (.iload_n 2, 1) := by decide +kernel
theorem dX8_believed_53 : decode cX8_believed 53 = .ok (.ifCond .ne 8, 3) := by decide +kernel
theorem dX8_believed_56 : decode cX8_believed 56 = .ok (.iload 5, 2) := by decide +kernel
theorem dX8_believed_58 : decode cX8_believed 58 = .ok (.goto 4, 3) := by decide +kernel
theorem dX8_believed_61 : decode cX8_believed 61 = .ok (.iload_n 3, 1) := by decide +kernel
theorem dX8_believed_62 : decode cX8_believed 62 = .ok (.istore_n 3, 1) := by decide +kernel
theorem dX8_believed_63 : decode cX8_believed 63 = .ok (.iload 4, 2) := by decide +kernel
theorem dX8_believed_65 : decode cX8_believed 65 = .ok (.iload 5, 2) := by decide +kernel
theorem dX8_believed_67 : decode cX8_believed 67 = .ok (.iand, 1) := by decide +kernel
theorem dX8_believed_68 : decode cX8_believed 68 = .ok (.istore 4, 2) := by decide +kernel
theorem dX8_believed_70 : decode cX8_believed 70 = .ok (.iinc 2 1, 3) := by decide +kernel
theorem dX8_believed_73 : decode cX8_believed 73 = .ok (.iinc 5 1, 3) := by decide +kernel
theorem dX8_believed_76 : decode cX8_believed 76 = .ok (.goto (-44), 3) := by decide +kernel
theorem dX8_believed_79 : decode cX8_believed 79 = .ok (.iload_n 1, 1) := by decide +kernel
theorem dX8_believed_80 : decode cX8_believed 80 = .ok (.ifCond .ne 7, 3) := by decide +kernel
theorem dX8_believed_83 : decode cX8_believed 83 = .ok (.iload_n 2, 1) := by decide +kernel
theorem dX8_believed_84 : decode cX8_believed 84 = .ok (.goto 22, 3) := by decide +kernel
theorem dX8_believed_87 : decode cX8_believed 87 = .ok (.iload_n 1, 1) := by decide +kernel
theorem dX8_believed_88 : decode cX8_believed 88 = .ok (.iconst 1, 1) := by decide +kernel
theorem dX8_believed_89 : decode cX8_believed 89 = .ok (.if_icmp .ne 7, 3) := by decide +kernel
theorem dX8_believed_92 : decode cX8_believed 92 = .ok (.iload_n 3, 1) := by decide +kernel
theorem dX8_believed_93 : decode cX8_believed 93 = .ok (.goto 13, 3) := by decide +kernel
theorem dX8_believed_96 : decode cX8_believed 96 = .ok (.iload_n 2, 1) := by decide +kernel
theorem dX8_believed_97 : decode cX8_believed 97 = .ok (.ifCond .ne 7, 3) := by decide +kernel
theorem dX8_believed_100 : decode cX8_believed 100 = .ok (.iconst 0, 1) := by decide +kernel
theorem dX8_believed_101 : decode cX8_believed 101 = .ok (.goto 5, 3) := by decide +kernel
theorem dX8_believed_104 : decode cX8_believed 104 = .ok (.iload 4, 2) := by decide +kernel
theorem dX8_believed_106 : decode cX8_believed 106 = .ok (.ireturn, 1) := by decide +kernel
theorem dX8_askNext_0 : decode cX8_askNext 0 = .ok (.iconst 0, 1) := by decide +kernel
theorem dX8_askNext_1 : decode cX8_askNext 1 = .ok (.istore_n 1, 1) := by decide +kernel
theorem dX8_askNext_2 : decode cX8_askNext 2 = .ok (.iconst 0, 1) := by decide +kernel
theorem dX8_askNext_3 : decode cX8_askNext 3 = .ok (.istore_n 2, 1) := by decide +kernel
theorem dX8_askNext_4 : decode cX8_askNext 4 = .ok (.iload_n 2, 1) := by decide +kernel
theorem dX8_askNext_5 : decode cX8_askNext 5 = .ok (.bipush 16, 2) := by decide +kernel
theorem dX8_askNext_7 : decode cX8_askNext 7 = .ok (.if_icmp .ge 16, 3) := by decide +kernel
theorem dX8_askNext_10 : decode cX8_askNext 10 = .ok (.aload_n 0, 1) := by decide +kernel
theorem dX8_askNext_11 : decode cX8_askNext 11 = .ok (.getfield 55, 3) := by decide +kernel
theorem dX8_askNext_14 : decode cX8_askNext 14 = .ok (.iload_n 2, 1) := by decide +kernel
theorem dX8_askNext_15 : decode cX8_askNext 15 = .ok (.iconst 0, 1) := by decide +kernel
theorem dX8_askNext_16 : decode cX8_askNext 16 = .ok (.iastore, 1) := by decide +kernel
theorem dX8_askNext_17 : decode cX8_askNext 17 = .ok (.iinc 2 1, 3) := by decide +kernel
theorem dX8_askNext_20 : decode cX8_askNext 20 = .ok (.goto (-16), 3) := by decide +kernel
theorem dX8_askNext_23 : decode cX8_askNext 23 = .ok (.iconst 0, 1) := by decide +kernel
theorem dX8_askNext_24 : decode cX8_askNext 24 = .ok (.istore_n 2, 1) := by decide +kernel
theorem dX8_askNext_25 : decode cX8_askNext 25 = .ok (.iload_n 2, 1) := by decide +kernel
theorem dX8_askNext_26 : decode cX8_askNext 26 = .ok (.iconst 1, 1) := by decide +kernel
theorem dX8_askNext_27 : decode cX8_askNext 27 = .ok (.aload_n 0, 1) := by decide +kernel
theorem dX8_askNext_28 : decode cX8_askNext 28 = .ok (.getfield 77, 3) := by decide +kernel
theorem dX8_askNext_31 : decode cX8_askNext 31 = .ok (.ishl, 1) := by decide +kernel
theorem dX8_askNext_32 : decode cX8_askNext 32 = .ok (.if_icmp .ge 64, 3) := by decide +kernel
theorem dX8_askNext_35 : decode cX8_askNext 35 = .ok (.aload_n 0, 1) := by decide +kernel
theorem dX8_askNext_36 : decode cX8_askNext 36 = .ok (.iload_n 2, 1) := by decide +kernel
theorem dX8_askNext_37 : decode cX8_askNext 37 = .ok (.invokevirtual 219, 3) := by decide +kernel
theorem dX8_askNext_40 : decode cX8_askNext 40 = .ok (.ifCond .eq 50, 3) := by decide +kernel
theorem dX8_askNext_43 : decode cX8_askNext 43 = .ok (.aload_n 0, 1) := by decide +kernel
theorem dX8_askNext_44 : decode cX8_askNext 44 = .ok (.aload_n 0, 1) := by decide +kernel
theorem dX8_askNext_45 : decode cX8_askNext 45 = .ok (.getfield 19, 3) := by decide +kernel
theorem dX8_askNext_48 : decode cX8_askNext 48 = .ok (.iconst 0, 1) := by decide +kernel
theorem dX8_askNext_49 : decode cX8_askNext 49 = .ok (.iaload, 1) := by decide +kernel
theorem dX8_askNext_50 : decode cX8_askNext 50 = .ok (.iload_n 2, 1) := by decide +kernel
theorem dX8_askNext_51 : decode cX8_askNext 51 = .ok (.invokevirtual 152, 3) := by decide +kernel
theorem dX8_askNext_54 : decode cX8_askNext 54 = .ok (.istore_n 3, 1) := by decide +kernel
theorem dX8_askNext_55 : decode cX8_askNext 55 = .ok (.iinc 1 1, 3) := by decide +kernel
theorem dX8_askNext_58 : decode cX8_askNext 58 = .ok (.iconst 0, 1) := by decide +kernel
theorem dX8_askNext_59 : decode cX8_askNext 59 = .ok (.istore 4, 2) := by decide +kernel
theorem dX8_askNext_61 : decode cX8_askNext 61 = .ok (.iload 4, 2) := by decide +kernel
theorem dX8_askNext_63 : decode cX8_askNext 63 = .ok (.bipush 16, 2) := by decide +kernel
theorem dX8_askNext_65 : decode cX8_askNext 65 = .ok (.if_icmp .ge 25, 3) := by decide +kernel
theorem dX8_askNext_68 : decode cX8_askNext 68 = .ok (.aload_n 0, 1) := by decide +kernel
theorem dX8_askNext_69 : decode cX8_askNext 69 = .ok (.getfield 55, 3) := by decide +kernel
theorem dX8_askNext_72 : decode cX8_askNext 72 = .ok (.iload 4, 2) := by decide +kernel
theorem dX8_askNext_74 : decode cX8_askNext 74 = .ok (.dup2, 1) := by decide +kernel
theorem dX8_askNext_75 : decode cX8_askNext 75 = .ok (.iaload, 1) := by decide +kernel
theorem dX8_askNext_76 : decode cX8_askNext 76 = .ok (.iload_n 3, 1) := by decide +kernel
theorem dX8_askNext_77 : decode cX8_askNext 77 = .ok (.iload 4, 2) := by decide +kernel
theorem dX8_askNext_79 : decode cX8_askNext 79 = .ok (.ishr, 1) := by decide +kernel
theorem dX8_askNext_80 : decode cX8_askNext 80 = .ok (.iconst 1, 1) := by decide +kernel
theorem dX8_askNext_81 : decode cX8_askNext 81 = .ok (.iand, 1) := by decide +kernel
theorem dX8_askNext_82 : decode cX8_askNext 82 = .ok (.iadd, 1) := by decide +kernel
theorem dX8_askNext_83 : decode cX8_askNext 83 = .ok (.iastore, 1) := by decide +kernel
theorem dX8_askNext_84 : decode cX8_askNext 84 = .ok (.iinc 4 1, 3) := by decide +kernel
theorem dX8_askNext_87 : decode cX8_askNext 87 = .ok (.goto (-26), 3) := by decide +kernel
theorem dX8_askNext_90 : decode cX8_askNext 90 = .ok (.iinc 2 1, 3) := by decide +kernel
theorem dX8_askNext_93 : decode cX8_askNext 93 = .ok (.goto (-68), 3) := by decide +kernel
theorem dX8_askNext_96 : decode cX8_askNext 96 = .ok (.iconst (-1), 1) := by decide +kernel
theorem dX8_askNext_97 : decode cX8_askNext 97 = .ok (.istore_n 2, 1) := by decide +kernel
theorem dX8_askNext_98 : decode cX8_askNext 98 = .ok (.iload_n 1, 1) := by decide +kernel
theorem dX8_askNext_99 : decode cX8_askNext 99 = .ok (.istore_n 3, 1) := by decide +kernel
theorem dX8_askNext_100 : decode cX8_askNext 100 = .ok (.iconst 0, 1) := by decide +kernel
theorem dX8_askNext_101 : decode cX8_askNext 101 = .ok (.istore 4, 2) := by decide +kernel
theorem dX8_askNext_103 : decode cX8_askNext 103 = .ok (.iload 4, 2) := by decide +kernel
theorem dX8_askNext_105 : decode cX8_askNext 105 = .ok (.iconst 2, 1) := by decide +kernel
theorem dX8_askNext_106 : decode cX8_askNext 106 = .ok (.aload_n 0, 1) := by decide +kernel
theorem dX8_askNext_107 : decode cX8_askNext 107 = .ok (.getfield 70, 3) := by decide +kernel
theorem dX8_askNext_110 : decode cX8_askNext 110 = .ok (.imul, 1) := by decide +kernel
theorem dX8_askNext_111 : decode cX8_askNext 111 = .ok (.if_icmp .ge 75, 3) := by decide +kernel
theorem dX8_askNext_114 : decode cX8_askNext 114 = .ok (.aload_n 0, 1) := by decide +kernel
theorem dX8_askNext_115 : decode cX8_askNext 115 = .ok (.getfield 55, 3) := by decide +kernel
theorem dX8_askNext_118 : decode cX8_askNext 118 = .ok (.iload 4, 2) := by decide +kernel
theorem dX8_askNext_120 : decode cX8_askNext 120 = .ok (.iaload, 1) := by decide +kernel
theorem dX8_askNext_121 : decode cX8_askNext 121 = .ok (.iload_n 1, 1) := by decide +kernel
theorem dX8_askNext_122 : decode cX8_askNext 122 = .ok (.aload_n 0, 1) := by decide +kernel
theorem dX8_askNext_123 : decode cX8_askNext 123 = .ok (.getfield 55, 3) := by decide +kernel
theorem dX8_askNext_126 : decode cX8_askNext 126 = .ok (.iload 4, 2) := by decide +kernel
theorem dX8_askNext_128 : decode cX8_askNext 128 = .ok (.iaload, 1) := by decide +kernel
theorem dX8_askNext_129 : decode cX8_askNext 129 = .ok (.isub, 1) := by decide +kernel
theorem dX8_askNext_130 : decode cX8_askNext 130 = .ok (.if_icmp .le 13, 3) := by decide +kernel
theorem dX8_askNext_133 : decode cX8_askNext 133 = .ok (.aload_n 0, 1) := by decide +kernel
theorem dX8_askNext_134 : decode cX8_askNext 134 = .ok (.getfield 55, 3) := by decide +kernel
theorem dX8_askNext_137 : decode cX8_askNext 137 = .ok (.iload 4, 2) := by decide +kernel
theorem dX8_askNext_139 : decode cX8_askNext 139 = .ok (.iaload, 1) := by decide +kernel
theorem dX8_askNext_140 : decode cX8_askNext 140 = .ok (.goto 12, 3) := by decide +kernel
theorem dX8_askNext_143 : decode cX8_askNext 143 = .ok (.iload_n 1, 1) := by decide +kernel
theorem dX8_askNext_144 : decode cX8_askNext 144 = .ok (.aload_n 0, 1) := by decide +kernel
theorem dX8_askNext_145 : decode cX8_askNext 145 = .ok (.getfield 55, 3) := by decide +kernel
theorem dX8_askNext_148 : decode cX8_askNext 148 = .ok (.iload 4, 2) := by decide +kernel
theorem dX8_askNext_150 : decode cX8_askNext 150 = .ok (.iaload, 1) := by decide +kernel
theorem dX8_askNext_151 : decode cX8_askNext 151 = .ok (.isub, 1) := by decide +kernel
theorem dX8_askNext_152 : decode cX8_askNext 152 = .ok (.istore 5, 2) := by decide +kernel
theorem dX8_askNext_154 : decode cX8_askNext 154 = .ok (.iload 5, 2) := by decide +kernel
theorem dX8_askNext_156 : decode cX8_askNext 156 = .ok (.iload_n 3, 1) := by decide +kernel
theorem dX8_askNext_157 : decode cX8_askNext 157 = .ok (.if_icmp .ge 8, 3) := by decide +kernel
theorem dX8_askNext_160 : decode cX8_askNext 160 = .ok (.iload 4, 2) := by decide +kernel
theorem dX8_askNext_162 : decode cX8_askNext 162 = .ok (.goto 4, 3) := by decide +kernel
theorem dX8_askNext_165 : decode cX8_askNext 165 = .ok (.iload_n 2, 1) := by decide +kernel
theorem dX8_askNext_166 : decode cX8_askNext 166 = .ok (.istore_n 2, 1) := by decide +kernel
theorem dX8_askNext_167 : decode cX8_askNext 167 = .ok (.iload 5, 2) := by decide +kernel
theorem dX8_askNext_169 : decode cX8_askNext 169 = .ok (.iload_n 3, 1) := by decide +kernel
theorem dX8_askNext_170 : decode cX8_askNext 170 = .ok (.if_icmp .ge 8, 3) := by decide +kernel
theorem dX8_askNext_173 : decode cX8_askNext 173 = .ok (.iload 5, 2) := by decide +kernel
theorem dX8_askNext_175 : decode cX8_askNext 175 = .ok (.goto 4, 3) := by decide +kernel
theorem dX8_askNext_178 : decode cX8_askNext 178 = .ok (.iload_n 3, 1) := by decide +kernel
theorem dX8_askNext_179 : decode cX8_askNext 179 = .ok (.istore_n 3, 1) := by decide +kernel
theorem dX8_askNext_180 : decode cX8_askNext 180 = .ok (.iinc 4 1, 3) := by decide +kernel
theorem dX8_askNext_183 : decode cX8_askNext 183 = .ok (.goto (-80), 3) := by decide +kernel
theorem dX8_askNext_186 : decode cX8_askNext 186 = .ok (.iload_n 2, 1) := by decide +kernel
theorem dX8_askNext_187 : decode cX8_askNext 187 = .ok (.ireturn, 1) := by decide +kernel
theorem dX8_write_0 : decode cX8_write 0 = .ok (.aload_n 0, 1) := by decide +kernel
theorem dX8_write_1 : decode cX8_write 1 = .ok (.iload_n 1, 1) := by decide +kernel
theorem dX8_write_2 : decode cX8_write 2 = .ok (.invokevirtual 166, 3) := by decide +kernel
theorem dX8_write_5 : decode cX8_write 5 = .ok (.ifCond .ne 6, 3) := by decide +kernel
theorem dX8_write_8 : decode cX8_write 8 = .ok (.ldc 165, 2) := by decide +kernel
theorem dX8_write_10 : decode cX8_write 10 = .ok (.ireturn, 1) := by decide +kernel
theorem dX8_write_11 : decode cX8_write 11 = .ok (.iload_n 2, 1) := by decide +kernel
theorem dX8_write_12 : decode cX8_write 12 = .ok (.i2l, 1) := by decide +kernel
theorem dX8_write_13 : decode cX8_write 13 = .ok (.lconst 0, 1) := by decide +kernel
theorem dX8_write_14 : decode cX8_write 14 = .ok (.lconst 1, 1) := by decide +kernel
theorem dX8_write_15 : decode cX8_write 15 = .ok (.invokestatic 73, 3) := by decide +kernel
theorem dX8_write_18 : decode cX8_write 18 = .ok (.ifCond .ne 6, 3) := by decide +kernel
theorem dX8_write_21 : decode cX8_write 21 = .ok (.ldc 82, 2) := by decide +kernel
theorem dX8_write_23 : decode cX8_write 23 = .ok (.ireturn, 1) := by decide +kernel
theorem dX8_write_24 : decode cX8_write 24 = .ok (.aload_n 0, 1) := by decide +kernel
theorem dX8_write_25 : decode cX8_write 25 = .ok (.getfield 143, 3) := by decide +kernel
theorem dX8_write_28 : decode cX8_write 28 = .ok (.bipush 15, 2) := by decide +kernel
theorem dX8_write_30 : decode cX8_write 30 = .ok (.if_icmp .ne 6, 3) := by decide +kernel
theorem dX8_write_33 : decode cX8_write 33 = .ok (.ldc 86, 2) := by decide +kernel
theorem dX8_write_35 : decode cX8_write 35 = .ok (.ireturn, 1) := by decide +kernel
theorem dX8_write_36 : decode cX8_write 36 = .ok (.aload_n 0, 1) := by decide +kernel
theorem dX8_write_37 : decode cX8_write 37 = .ok (.getfield 58, 3) := by decide +kernel
theorem dX8_write_40 : decode cX8_write 40 = .ok (.aload_n 0, 1) := by decide +kernel
theorem dX8_write_41 : decode cX8_write 41 = .ok (.getfield 143, 3) := by decide +kernel
theorem dX8_write_44 : decode cX8_write 44 = .ok (.iload_n 1, 1) := by decide +kernel
theorem dX8_write_45 : decode cX8_write 45 = .ok (.iastore, 1) := by decide +kernel
theorem dX8_write_46 : decode cX8_write 46 = .ok (.aload_n 0, 1) := by decide +kernel
theorem dX8_write_47 : decode cX8_write 47 = .ok (.getfield 61, 3) := by decide +kernel
theorem dX8_write_50 : decode cX8_write 50 = .ok (.aload_n 0, 1) := by decide +kernel
theorem dX8_write_51 : decode cX8_write 51 = .ok (.getfield 143, 3) := by decide +kernel
theorem dX8_write_54 : decode cX8_write 54 = .ok (.iload_n 2, 1) := by decide +kernel
theorem dX8_write_55 : decode cX8_write 55 = .ok (.iastore, 1) := by decide +kernel
theorem dX8_write_56 : decode cX8_write 56 = .ok (.aload_n 0, 1) := by decide +kernel
theorem dX8_write_57 : decode cX8_write 57 = .ok (.dup, 1) := by decide +kernel
theorem dX8_write_58 : decode cX8_write 58 = .ok (.getfield 143, 3) := by decide +kernel
theorem dX8_write_61 : decode cX8_write 61 = .ok (.iconst 1, 1) := by decide +kernel
theorem dX8_write_62 : decode cX8_write 62 = .ok (.iadd, 1) := by decide +kernel
theorem dX8_write_63 : decode cX8_write 63 = .ok (.putfield 143, 3) := by decide +kernel
theorem dX8_write_66 : decode cX8_write 66 = .ok (.aload_n 0, 1) := by decide +kernel
theorem dX8_write_67 : decode cX8_write 67 = .ok (.getfield 143, 3) := by decide +kernel
theorem dX8_write_70 : decode cX8_write 70 = .ok (.ireturn, 1) := by decide +kernel
theorem dX8_tear_0 : decode cX8_tear 0 = .ok (.aload_n 0, 1) := by decide +kernel
theorem dX8_tear_1 : decode cX8_tear 1 = .ok (.getfield 140, 3) := by decide +kernel
theorem dX8_tear_4 : decode cX8_tear 4 = .ok (.aload_n 0, 1) := by decide +kernel
theorem dX8_tear_5 : decode cX8_tear 5 = .ok (.getfield 143, 3) := by decide +kernel
theorem dX8_tear_8 : decode cX8_tear 8 = .ok (.iadd, 1) := by decide +kernel
theorem dX8_tear_9 : decode cX8_tear 9 = .ok (.istore_n 1, 1) := by decide +kernel
theorem dX8_tear_10 : decode cX8_tear 10 = .ok (.aload_n 0, 1) := by decide +kernel
theorem dX8_tear_11 : decode cX8_tear 11 = .ok (.iconst 0, 1) := by decide +kernel
theorem dX8_tear_12 : decode cX8_tear 12 = .ok (.putfield 140, 3) := by decide +kernel
theorem dX8_tear_15 : decode cX8_tear 15 = .ok (.aload_n 0, 1) := by decide +kernel
theorem dX8_tear_16 : decode cX8_tear 16 = .ok (.iconst 0, 1) := by decide +kernel
theorem dX8_tear_17 : decode cX8_tear 17 = .ok (.putfield 143, 3) := by decide +kernel
theorem dX8_tear_20 : decode cX8_tear 20 = .ok (.iload_n 1, 1) := by decide +kernel
theorem dX8_tear_21 : decode cX8_tear 21 = .ok (.ireturn, 1) := by decide +kernel
theorem dX8_judge_0 : decode cX8_judge 0 = .ok (.aload_n 0, 1) := by decide +kernel
theorem dX8_judge_1 : decode cX8_judge 1 = .ok (.invokevirtual 155, 3) := by decide +kernel
theorem dX8_judge_4 : decode cX8_judge 4 = .ok (.istore_n 1, 1) := by decide +kernel
theorem dX8_judge_5 : decode cX8_judge 5 = .ok (.iconst 0, 1) := by decide +kernel
theorem dX8_judge_6 : decode cX8_judge 6 = .ok (.istore_n 2, 1) := by decide +kernel
theorem dX8_judge_7 : decode cX8_judge 7 = .ok (.iload_n 2, 1) := by decide +kernel
theorem dX8_judge_8 : decode cX8_judge 8 = .ok (.aload_n 0, 1) := by decide +kernel
theorem dX8_judge_9 : decode cX8_judge 9 = .ok (.getfield 143, 3) := by decide +kernel
theorem dX8_judge_12 : decode cX8_judge 12 = .ok (.if_icmp .ge 30, 3) := by decide +kernel
theorem dX8_judge_15 : decode cX8_judge 15 = .ok (.iload_n 1, 1) := by decide +kernel
theorem dX8_judge_16 : decode cX8_judge 16 = .ok (.aload_n 0, 1) := by decide +kernel
theorem dX8_judge_17 : decode cX8_judge 17 = .ok (.getfield 58, 3) := by decide +kernel
theorem dX8_judge_20 : decode cX8_judge 20 = .ok (.iload_n 2, 1) := by decide +kernel
theorem dX8_judge_21 : decode cX8_judge 21 = .ok (.iaload, 1) := by decide +kernel
theorem dX8_judge_22 : decode cX8_judge 22 = .ok (.ishr, 1) := by decide +kernel
theorem dX8_judge_23 : decode cX8_judge 23 = .ok (.iconst 1, 1) := by decide +kernel
theorem dX8_judge_24 : decode cX8_judge 24 = .ok (.iand, 1) := by decide +kernel
theorem dX8_judge_25 : decode cX8_judge 25 = .ok (.aload_n 0, 1) := by decide +kernel
theorem dX8_judge_26 : decode cX8_judge 26 = .ok (.getfield 61, 3) := by decide +kernel
theorem dX8_judge_29 : decode cX8_judge 29 = .ok (.iload_n 2, 1) := by decide +kernel
theorem dX8_judge_30 : decode cX8_judge 30 = .ok (.iaload, 1) := by decide +kernel
theorem dX8_judge_31 : decode cX8_judge 31 = .ok (.if_icmp .eq 5, 3) := by decide +kernel
theorem dX8_judge_34 : decode cX8_judge 34 = .ok (.iload_n 2, 1) := by decide +kernel
theorem dX8_judge_35 : decode cX8_judge 35 = .ok (.ireturn, 1) := by decide +kernel
theorem dX8_judge_36 : decode cX8_judge 36 = .ok (.iinc 2 1, 3) := by decide +kernel
theorem dX8_judge_39 : decode cX8_judge 39 = .ok (.goto (-32), 3) := by decide +kernel
theorem dX8_judge_42 : decode cX8_judge 42 = .ok (.iconst (-1), 1) := by decide +kernel
theorem dX8_judge_43 : decode cX8_judge 43 = .ok (.ireturn, 1) := by decide +kernel
theorem dX8_seed_0 : decode cX8_seed 0 = .ok (.iload_n 1, 1) := by decide +kernel
theorem dX8_seed_1 : decode cX8_seed 1 = .ok (.ifCond .ge 6, 3) := by decide +kernel
theorem dX8_seed_4 : decode cX8_seed 4 = .ok (.ldc 82, 2) := by decide +kernel
theorem dX8_seed_6 : decode cX8_seed 6 = .ok (.ireturn, 1) := by decide +kernel
theorem dX8_seed_7 : decode cX8_seed 7 = .ok (.aload_n 0, 1) := by decide +kernel
theorem dX8_seed_8 : decode cX8_seed 8 = .ok (.getfield 180, 3) := by decide +kernel
theorem dX8_seed_11 : decode cX8_seed 11 = .ok (.istore_n 2, 1) := by decide +kernel
theorem dX8_seed_12 : decode cX8_seed 12 = .ok (.aload_n 0, 1) := by decide +kernel
theorem dX8_seed_13 : decode cX8_seed 13 = .ok (.iload_n 1, 1) := by decide +kernel
theorem dX8_seed_14 : decode cX8_seed 14 = .ok (.putfield 180, 3) := by decide +kernel
theorem dX8_seed_17 : decode cX8_seed 17 = .ok (.iload_n 2, 1) := by decide +kernel
theorem dX8_seed_18 : decode cX8_seed 18 = .ok (.ireturn, 1) := by decide +kernel
theorem dX8_keep_0 : decode cX8_keep 0 = .ok (.iload_n 1, 1) := by decide +kernel
theorem dX8_keep_1 : decode cX8_keep 1 = .ok (.i2l, 1) := by decide +kernel
theorem dX8_keep_2 : decode cX8_keep 2 = .ok (.lconst 0, 1) := by decide +kernel
theorem dX8_keep_3 : decode cX8_keep 3 = .ok (.lconst 1, 1) := by decide +kernel
theorem dX8_keep_4 : decode cX8_keep 4 = .ok (.invokestatic 73, 3) := by decide +kernel
theorem dX8_keep_7 : decode cX8_keep 7 = .ok (.ifCond .ne 6, 3) := by decide +kernel
theorem dX8_keep_10 : decode cX8_keep 10 = .ok (.ldc 165, 2) := by decide +kernel
theorem dX8_keep_12 : decode cX8_keep 12 = .ok (.ireturn, 1) := by decide +kernel
theorem dX8_keep_13 : decode cX8_keep 13 = .ok (.iconst 0, 1) := by decide +kernel
theorem dX8_keep_14 : decode cX8_keep 14 = .ok (.istore_n 2, 1) := by decide +kernel
theorem dX8_keep_15 : decode cX8_keep 15 = .ok (.iload_n 2, 1) := by decide +kernel
theorem dX8_keep_16 : decode cX8_keep 16 = .ok (.iconst 4, 1) := by decide +kernel
theorem dX8_keep_17 : decode cX8_keep 17 = .ok (.if_icmp .ge 25, 3) := by decide +kernel
theorem dX8_keep_20 : decode cX8_keep 20 = .ok (.aload_n 0, 1) := by decide +kernel
theorem dX8_keep_21 : decode cX8_keep 21 = .ok (.getfield 64, 3) := by decide +kernel
theorem dX8_keep_24 : decode cX8_keep 24 = .ok (.iconst 5, 1) := by decide +kernel
theorem dX8_keep_25 : decode cX8_keep 25 = .ok (.iload_n 1, 1) := by decide +kernel
theorem dX8_keep_26 : decode cX8_keep 26 = .ok (.imul, 1) := by decide +kernel
theorem dX8_keep_27 : decode cX8_keep 27 = .ok (.iload_n 2, 1) := by decide +kernel
theorem dX8_keep_28 : decode cX8_keep 28 = .ok (.iadd, 1) := by decide +kernel
theorem dX8_keep_29 : decode cX8_keep 29 = .ok (.aload_n 0, 1) := by decide +kernel
theorem dX8_keep_30 : decode cX8_keep 30 = .ok (.getfield 19, 3) := by decide +kernel
theorem dX8_keep_33 : decode cX8_keep 33 = .ok (.iload_n 2, 1) := by decide +kernel
theorem dX8_keep_34 : decode cX8_keep 34 = .ok (.iaload, 1) := by decide +kernel
theorem dX8_keep_35 : decode cX8_keep 35 = .ok (.iastore, 1) := by decide +kernel
theorem dX8_keep_36 : decode cX8_keep 36 = .ok (.iinc 2 1, 3) := by decide +kernel
theorem dX8_keep_39 : decode cX8_keep 39 = .ok (.goto (-24), 3) := by decide +kernel
theorem dX8_keep_42 : decode cX8_keep 42 = .ok (.aload_n 0, 1) := by decide +kernel
theorem dX8_keep_43 : decode cX8_keep 43 = .ok (.getfield 64, 3) := by decide +kernel
theorem dX8_keep_46 : decode cX8_keep 46 = .ok (.iconst 5, 1) := by decide +kernel
theorem dX8_keep_47 : decode cX8_keep 47 = .ok (.iload_n 1, 1) := by decide +kernel
theorem dX8_keep_48 : decode cX8_keep 48 = .ok (.imul, 1) := by decide +kernel
theorem dX8_keep_49 : decode cX8_keep 49 = .ok (.iconst 4, 1) := by decide +kernel
theorem dX8_keep_50 : decode cX8_keep 50 = .ok (.iadd, 1) := by decide +kernel
theorem dX8_keep_51 : decode cX8_keep 51 = .ok (.aload_n 0, 1) := by decide +kernel
theorem dX8_keep_52 : decode cX8_keep 52 = .ok (.getfield 180, 3) := by decide +kernel
theorem dX8_keep_55 : decode cX8_keep 55 = .ok (.iastore, 1) := by decide +kernel
theorem dX8_keep_56 : decode cX8_keep 56 = .ok (.aload_n 0, 1) := by decide +kernel
theorem dX8_keep_57 : decode cX8_keep 57 = .ok (.getfield 67, 3) := by decide +kernel
theorem dX8_keep_60 : decode cX8_keep 60 = .ok (.iload_n 1, 1) := by decide +kernel
theorem dX8_keep_61 : decode cX8_keep 61 = .ok (.iconst 1, 1) := by decide +kernel
theorem dX8_keep_62 : decode cX8_keep 62 = .ok (.bastore, 1) := by decide +kernel
theorem dX8_keep_63 : decode cX8_keep 63 = .ok (.aload_n 0, 1) := by decide +kernel
theorem dX8_keep_64 : decode cX8_keep 64 = .ok (.iconst 0, 1) := by decide +kernel
theorem dX8_keep_65 : decode cX8_keep 65 = .ok (.putfield 146, 3) := by decide +kernel
theorem dX8_keep_68 : decode cX8_keep 68 = .ok (.iconst 1, 1) := by decide +kernel
theorem dX8_keep_69 : decode cX8_keep 69 = .ok (.ireturn, 1) := by decide +kernel
theorem dX8_goBack_0 : decode cX8_goBack 0 = .ok (.iload_n 1, 1) := by decide +kernel
theorem dX8_goBack_1 : decode cX8_goBack 1 = .ok (.i2l, 1) := by decide +kernel
theorem dX8_goBack_2 : decode cX8_goBack 2 = .ok (.lconst 0, 1) := by decide +kernel
theorem dX8_goBack_3 : decode cX8_goBack 3 = .ok (.lconst 1, 1) := by decide +kernel
theorem dX8_goBack_4 : decode cX8_goBack 4 = .ok (.invokestatic 73, 3) := by decide +kernel
theorem dX8_goBack_7 : decode cX8_goBack 7 = .ok (.ifCond .ne 6, 3) := by decide +kernel
theorem dX8_goBack_10 : decode cX8_goBack 10 = .ok (.ldc 165, 2) := by decide +kernel
theorem dX8_goBack_12 : decode cX8_goBack 12 = .ok (.ireturn, 1) := by decide +kernel
theorem dX8_goBack_13 : decode cX8_goBack 13 = .ok (.aload_n 0, 1) := by decide +kernel
theorem dX8_goBack_14 : decode cX8_goBack 14 = .ok (.getfield 67, 3) := by decide +kernel
theorem dX8_goBack_17 : decode cX8_goBack 17 = .ok (.iload_n 1, 1) := by decide +kernel
theorem dX8_goBack_18 : decode cX8_goBack 18 = .ok (.baload, 1) := by decide +kernel
theorem dX8_goBack_19 : decode cX8_goBack 19 = .ok (.ifCond .ne 6, 3) := by decide +kernel
theorem dX8_goBack_22 : decode cX8_goBack 22 = .ok (.ldc 176, 2) := by decide +kernel
theorem dX8_goBack_24 : decode cX8_goBack 24 = .ok (.ireturn, 1) := by decide +kernel
theorem dX8_goBack_25 : decode cX8_goBack 25 = .ok (.iconst 0, 1) := by decide +kernel
theorem dX8_goBack_26 : decode cX8_goBack 26 = .ok (.istore_n 2, 1) := by decide +kernel
theorem dX8_goBack_27 : decode cX8_goBack 27 = .ok (.iload_n 2, 1) := by decide +kernel
theorem dX8_goBack_28 : decode cX8_goBack 28 = .ok (.iconst 4, 1) := by decide +kernel
theorem dX8_goBack_29 : decode cX8_goBack 29 = .ok (.if_icmp .ge 25, 3) := by decide +kernel
theorem dX8_goBack_32 : decode cX8_goBack 32 = .ok (.aload_n 0, 1) := by decide +kernel
theorem dX8_goBack_33 : decode cX8_goBack 33 = .ok (.getfield 19, 3) := by decide +kernel
theorem dX8_goBack_36 : decode cX8_goBack 36 = .ok (.iload_n 2, 1) := by decide +kernel
theorem dX8_goBack_37 : decode cX8_goBack 37 = .ok (.aload_n 0, 1) := by decide +kernel
theorem dX8_goBack_38 : decode cX8_goBack 38 = .ok (.getfield 64, 3) := by decide +kernel
theorem dX8_goBack_41 : decode cX8_goBack 41 = .ok (.iconst 5, 1) := by decide +kernel
theorem dX8_goBack_42 : decode cX8_goBack 42 = .ok (.iload_n 1, 1) := by decide +kernel
theorem dX8_goBack_43 : decode cX8_goBack 43 = .ok (.imul, 1) := by decide +kernel
theorem dX8_goBack_44 : decode cX8_goBack 44 = .ok (.iload_n 2, 1) := by decide +kernel
theorem dX8_goBack_45 : decode cX8_goBack 45 = .ok (.iadd, 1) := by decide +kernel
theorem dX8_goBack_46 : decode cX8_goBack 46 = .ok (.iaload, 1) := by decide +kernel
theorem dX8_goBack_47 : decode cX8_goBack 47 = .ok (.iastore, 1) := by decide +kernel
theorem dX8_goBack_48 : decode cX8_goBack 48 = .ok (.iinc 2 1, 3) := by decide +kernel
theorem dX8_goBack_51 : decode cX8_goBack 51 = .ok (.goto (-24), 3) := by decide +kernel
theorem dX8_goBack_54 : decode cX8_goBack 54 = .ok (.aload_n 0, 1) := by decide +kernel
theorem dX8_goBack_55 : decode cX8_goBack 55 = .ok (.aload_n 0, 1) := by decide +kernel
theorem dX8_goBack_56 : decode cX8_goBack 56 = .ok (.getfield 64, 3) := by decide +kernel
theorem dX8_goBack_59 : decode cX8_goBack 59 = .ok (.iconst 5, 1) := by decide +kernel
theorem dX8_goBack_60 : decode cX8_goBack 60 = .ok (.iload_n 1, 1) := by decide +kernel
theorem dX8_goBack_61 : decode cX8_goBack 61 = .ok (.imul, 1) := by decide +kernel
theorem dX8_goBack_62 : decode cX8_goBack 62 = .ok (.iconst 4, 1) := by decide +kernel
theorem dX8_goBack_63 : decode cX8_goBack 63 = .ok (.iadd, 1) := by decide +kernel
theorem dX8_goBack_64 : decode cX8_goBack 64 = .ok (.iaload, 1) := by decide +kernel
theorem dX8_goBack_65 : decode cX8_goBack 65 = .ok (.putfield 180, 3) := by decide +kernel
theorem dX8_goBack_68 : decode cX8_goBack 68 = .ok (.aload_n 0, 1) := by decide +kernel
theorem dX8_goBack_69 : decode cX8_goBack 69 = .ok (.iconst 0, 1) := by decide +kernel
theorem dX8_goBack_70 : decode cX8_goBack 70 = .ok (.putfield 146, 3) := by decide +kernel
theorem dX8_goBack_73 : decode cX8_goBack 73 = .ok (.iconst 1, 1) := by decide +kernel
theorem dX8_goBack_74 : decode cX8_goBack 74 = .ok (.ireturn, 1) := by decide +kernel
theorem dJ6_bitCount_0f7a4_0 : decode cJ6_bitCount_0f7a4 0 = .ok (.iload_n 0, 1) := by decide +kernel
theorem dJ6_bitCount_0f7a4_1 : decode cJ6_bitCount_0f7a4 1 = .ok (.iload_n 0, 1) := by decide +kernel
theorem dJ6_bitCount_0f7a4_2 : decode cJ6_bitCount_0f7a4 2 = .ok (.iconst 1, 1) := by decide +kernel
theorem dJ6_bitCount_0f7a4_3 : decode cJ6_bitCount_0f7a4 3 = .ok (.iushr, 1) := by decide +kernel
theorem dJ6_bitCount_0f7a4_4 : decode cJ6_bitCount_0f7a4 4 = .ok (.ldc_w 265, 3) := by decide +kernel
theorem dJ6_bitCount_0f7a4_7 : decode cJ6_bitCount_0f7a4 7 = .ok (.iand, 1) := by decide +kernel
theorem dJ6_bitCount_0f7a4_8 : decode cJ6_bitCount_0f7a4 8 = .ok (.isub, 1) := by decide +kernel
theorem dJ6_bitCount_0f7a4_9 : decode cJ6_bitCount_0f7a4 9 = .ok (.istore_n 0, 1) := by decide +kernel
theorem dJ6_bitCount_0f7a4_10 : decode cJ6_bitCount_0f7a4 10 = .ok (.iload_n 0, 1) := by decide +kernel
theorem dJ6_bitCount_0f7a4_11 : decode cJ6_bitCount_0f7a4 11 = .ok (.ldc_w 266, 3) := by decide +kernel
theorem dJ6_bitCount_0f7a4_14 : decode cJ6_bitCount_0f7a4 14 = .ok (.iand, 1) := by decide +kernel
theorem dJ6_bitCount_0f7a4_15 : decode cJ6_bitCount_0f7a4 15 = .ok (.iload_n 0, 1) := by decide +kernel
theorem dJ6_bitCount_0f7a4_16 : decode cJ6_bitCount_0f7a4 16 = .ok (.iconst 2, 1) := by decide +kernel
theorem dJ6_bitCount_0f7a4_17 : decode cJ6_bitCount_0f7a4 17 = .ok (.iushr, 1) := by decide +kernel
theorem dJ6_bitCount_0f7a4_18 : decode cJ6_bitCount_0f7a4 18 = .ok (.ldc_w 266, 3) := by decide +kernel
theorem dJ6_bitCount_0f7a4_21 : decode cJ6_bitCount_0f7a4 21 = .ok (.iand, 1) := by decide +kernel
theorem dJ6_bitCount_0f7a4_22 : decode cJ6_bitCount_0f7a4 22 = .ok (.iadd, 1) := by decide +kernel
theorem dJ6_bitCount_0f7a4_23 : decode cJ6_bitCount_0f7a4 23 = .ok (.istore_n 0, 1) := by decide +kernel
theorem dJ6_bitCount_0f7a4_24 : decode cJ6_bitCount_0f7a4 24 = .ok (.iload_n 0, 1) := by decide +kernel
theorem dJ6_bitCount_0f7a4_25 : decode cJ6_bitCount_0f7a4 25 = .ok (.iload_n 0, 1) := by decide +kernel
theorem dJ6_bitCount_0f7a4_26 : decode cJ6_bitCount_0f7a4 26 = .ok (.iconst 4, 1) := by decide +kernel
theorem dJ6_bitCount_0f7a4_27 : decode cJ6_bitCount_0f7a4 27 = .ok (.iushr, 1) := by decide +kernel
theorem dJ6_bitCount_0f7a4_28 : decode cJ6_bitCount_0f7a4 28 = .ok (.iadd, 1) := by decide +kernel
theorem dJ6_bitCount_0f7a4_29 : decode cJ6_bitCount_0f7a4 29 = .ok (.ldc_w 267, 3) := by decide +kernel
theorem dJ6_bitCount_0f7a4_32 : decode cJ6_bitCount_0f7a4 32 = .ok (.iand, 1) := by decide +kernel
theorem dJ6_bitCount_0f7a4_33 : decode cJ6_bitCount_0f7a4 33 = .ok (.istore_n 0, 1) := by decide +kernel
theorem dJ6_bitCount_0f7a4_34 : decode cJ6_bitCount_0f7a4 34 = .ok (.iload_n 0, 1) := by decide +kernel
theorem dJ6_bitCount_0f7a4_35 : decode cJ6_bitCount_0f7a4 35 = .ok (.iload_n 0, 1) := by decide +kernel
theorem dJ6_bitCount_0f7a4_36 : decode cJ6_bitCount_0f7a4 36 = .ok (.bipush 8, 2) := by decide +kernel
theorem dJ6_bitCount_0f7a4_38 : decode cJ6_bitCount_0f7a4 38 = .ok (.iushr, 1) := by decide +kernel
theorem dJ6_bitCount_0f7a4_39 : decode cJ6_bitCount_0f7a4 39 = .ok (.iadd, 1) := by decide +kernel
theorem dJ6_bitCount_0f7a4_40 : decode cJ6_bitCount_0f7a4 40 = .ok (.istore_n 0, 1) := by decide +kernel
theorem dJ6_bitCount_0f7a4_41 : decode cJ6_bitCount_0f7a4 41 = .ok (.iload_n 0, 1) := by decide +kernel
theorem dJ6_bitCount_0f7a4_42 : decode cJ6_bitCount_0f7a4 42 = .ok (.iload_n 0, 1) := by decide +kernel
theorem dJ6_bitCount_0f7a4_43 : decode cJ6_bitCount_0f7a4 43 = .ok (.bipush 16, 2) := by decide +kernel
theorem dJ6_bitCount_0f7a4_45 : decode cJ6_bitCount_0f7a4 45 = .ok (.iushr, 1) := by decide +kernel
theorem dJ6_bitCount_0f7a4_46 : decode cJ6_bitCount_0f7a4 46 = .ok (.iadd, 1) := by decide +kernel
theorem dJ6_bitCount_0f7a4_47 : decode cJ6_bitCount_0f7a4 47 = .ok (.istore_n 0, 1) := by decide +kernel
theorem dJ6_bitCount_0f7a4_48 : decode cJ6_bitCount_0f7a4 48 = .ok (.iload_n 0, 1) := by decide +kernel
theorem dJ6_bitCount_0f7a4_49 : decode cJ6_bitCount_0f7a4 49 = .ok (.bipush 63, 2) := by decide +kernel
theorem dJ6_bitCount_0f7a4_51 : decode cJ6_bitCount_0f7a4 51 = .ok (.iand, 1) := by decide +kernel
theorem dJ6_bitCount_0f7a4_52 : decode cJ6_bitCount_0f7a4 52 = .ok (.ireturn, 1) := by decide +kernel
theorem dJ9_max_7cf53_0 : decode cJ9_max_7cf53 0 = .ok (.iload_n 0, 1) := by decide +kernel
theorem dJ9_max_7cf53_1 : decode cJ9_max_7cf53 1 = .ok (.iload_n 1, 1) := by decide +kernel
theorem dJ9_max_7cf53_2 : decode cJ9_max_7cf53 2 = .ok (.if_icmp .lt 7, 3) := by decide +kernel
theorem dJ9_max_7cf53_5 : decode cJ9_max_7cf53 5 = .ok (.iload_n 0, 1) := by decide +kernel
theorem dJ9_max_7cf53_6 : decode cJ9_max_7cf53 6 = .ok (.goto 4, 3) := by decide +kernel
theorem dJ9_max_7cf53_9 : decode cJ9_max_7cf53 9 = .ok (.iload_n 1, 1) := by decide +kernel
theorem dJ9_max_7cf53_10 : decode cJ9_max_7cf53 10 = .ok (.ireturn, 1) := by decide +kernel
theorem dJ9_min_7cf53_0 : decode cJ9_min_7cf53 0 = .ok (.iload_n 0, 1) := by decide +kernel
theorem dJ9_min_7cf53_1 : decode cJ9_min_7cf53 1 = .ok (.iload_n 1, 1) := by decide +kernel
theorem dJ9_min_7cf53_2 : decode cJ9_min_7cf53 2 = .ok (.if_icmp .gt 7, 3) := by decide +kernel
theorem dJ9_min_7cf53_5 : decode cJ9_min_7cf53 5 = .ok (.iload_n 0, 1) := by decide +kernel
theorem dJ9_min_7cf53_6 : decode cJ9_min_7cf53 6 = .ok (.goto 4, 3) := by decide +kernel
theorem dJ9_min_7cf53_9 : decode cJ9_min_7cf53 9 = .ok (.iload_n 1, 1) := by decide +kernel
theorem dJ9_min_7cf53_10 : decode cJ9_min_7cf53 10 = .ok (.ireturn, 1) := by decide +kernel
theorem dL_law_0 : decode cL_law 0 = .ok (.new 7, 3) := by decide +kernel
theorem dL_law_3 : decode cL_law 3 = .ok (.dup, 1) := by decide +kernel
theorem dL_law_4 : decode cL_law 4 = .ok (.invokespecial 9, 3) := by decide +kernel
theorem dL_law_7 : decode cL_law 7 = .ok (.astore_n 1, 1) := by decide +kernel
theorem dL_law_8 : decode cL_law 8 = .ok (.new 10, 3) := by decide +kernel
theorem dL_law_11 : decode cL_law 11 = .ok (.dup, 1) := by decide +kernel
theorem dL_law_12 : decode cL_law 12 = .ok (.invokespecial 12, 3) := by decide +kernel
theorem dL_law_15 : decode cL_law 15 = .ok (.astore_n 2, 1) := by decide +kernel
theorem dL_law_16 : decode cL_law 16 = .ok (.iconst 0, 1) := by decide +kernel
theorem dL_law_17 : decode cL_law 17 = .ok (.istore_n 3, 1) := by decide +kernel
theorem dL_law_18 : decode cL_law 18 = .ok (.iload_n 3, 1) := by decide +kernel
theorem dL_law_19 : decode cL_law 19 = .ok (.aload_n 0, 1) := by decide +kernel
theorem dL_law_20 : decode cL_law 20 = .ok (.arraylength, 1) := by decide +kernel
theorem dL_law_21 : decode cL_law 21 = .ok (.iconst 4, 1) := by decide +kernel
theorem dL_law_22 : decode cL_law 22 = .ok (.isub, 1) := by decide +kernel
theorem dL_law_23 : decode cL_law 23 = .ok (.if_icmp .gt 842, 3) := by decide +kernel
theorem dL_law_26 : decode cL_law 26 = .ok (.aload_n 0, 1) := by decide +kernel
theorem dL_law_27 : decode cL_law 27 = .ok (.iload_n 3, 1) := by decide +kernel
theorem dL_law_28 : decode cL_law 28 = .ok (.iaload, 1) := by decide +kernel
theorem dL_law_29 : decode cL_law 29 = .ok (.bipush 31, 2) := by decide +kernel
theorem dL_law_31 : decode cL_law 31 = .ok (.iand, 1) := by decide +kernel
theorem dL_law_32 : decode cL_law 32 = .ok (.tableswitch 827 0 28 #[132, 155, 168, 181, 204, 237, 286, 335, 348, 361, 384, 397, 420, 453, 476, 499, 522, 545, 558, 571, 604, 663, 686, 699, 732, 745, 758, 781, 804], 132) := by decide +kernel
theorem dL_law_164 : decode cL_law 164 = .ok (.aload_n 1, 1) := by decide +kernel
theorem dL_law_165 : decode cL_law 165 = .ok (.aload_n 0, 1) := by decide +kernel
theorem dL_law_166 : decode cL_law 166 = .ok (.iload_n 3, 1) := by decide +kernel
theorem dL_law_167 : decode cL_law 167 = .ok (.iconst 1, 1) := by decide +kernel
theorem dL_law_168 : decode cL_law 168 = .ok (.iadd, 1) := by decide +kernel
theorem dL_law_169 : decode cL_law 169 = .ok (.iaload, 1) := by decide +kernel
theorem dL_law_170 : decode cL_law 170 = .ok (.invokevirtual 13, 3) := by decide +kernel
theorem dL_law_173 : decode cL_law 173 = .ok (.aload_n 2, 1) := by decide +kernel
theorem dL_law_174 : decode cL_law 174 = .ok (.aload_n 0, 1) := by decide +kernel
theorem dL_law_175 : decode cL_law 175 = .ok (.iload_n 3, 1) := by decide +kernel
theorem dL_law_176 : decode cL_law 176 = .ok (.iconst 1, 1) := by decide +kernel
theorem dL_law_177 : decode cL_law 177 = .ok (.iadd, 1) := by decide +kernel
theorem dL_law_178 : decode cL_law 178 = .ok (.iaload, 1) := by decide +kernel
theorem dL_law_179 : decode cL_law 179 = .ok (.invokevirtual 17, 3) := by decide +kernel
theorem dL_law_182 : decode cL_law 182 = .ok (.if_icmp .eq 677, 3) := by decide +kernel
theorem dL_law_185 : decode cL_law 185 = .ok (.iconst 0, 1) := by decide +kernel
theorem dL_law_186 : decode cL_law 186 = .ok (.ireturn, 1) := by decide +kernel
theorem dL_law_187 : decode cL_law 187 = .ok (.aload_n 1, 1) := by decide +kernel
theorem dL_law_188 : decode cL_law 188 = .ok (.invokevirtual 18, 3) := by decide +kernel
theorem dL_law_191 : decode cL_law 191 = .ok (.aload_n 2, 1) := by decide +kernel
theorem dL_law_192 : decode cL_law 192 = .ok (.invokevirtual 22, 3) := by decide +kernel
theorem dL_law_195 : decode cL_law 195 = .ok (.if_icmp .eq 664, 3) := by decide +kernel
theorem dL_law_198 : decode cL_law 198 = .ok (.iconst 0, 1) := by decide +kernel
theorem dL_law_199 : decode cL_law 199 = .ok (.ireturn, 1) := by decide +kernel
theorem dL_law_200 : decode cL_law 200 = .ok (.aload_n 1, 1) := by decide +kernel
theorem dL_law_201 : decode cL_law 201 = .ok (.invokevirtual 23, 3) := by decide +kernel
theorem dL_law_204 : decode cL_law 204 = .ok (.aload_n 2, 1) := by decide +kernel
theorem dL_law_205 : decode cL_law 205 = .ok (.invokevirtual 26, 3) := by decide +kernel
theorem dL_law_208 : decode cL_law 208 = .ok (.if_icmp .eq 651, 3) := by decide +kernel
theorem dL_law_211 : decode cL_law 211 = .ok (.iconst 0, 1) := by decide +kernel
theorem dL_law_212 : decode cL_law 212 = .ok (.ireturn, 1) := by decide +kernel
theorem dL_law_213 : decode cL_law 213 = .ok (.aload_n 1, 1) := by decide +kernel
theorem dL_law_214 : decode cL_law 214 = .ok (.aload_n 0, 1) := by decide +kernel
theorem dL_law_215 : decode cL_law 215 = .ok (.iload_n 3, 1) := by decide +kernel
theorem dL_law_216 : decode cL_law 216 = .ok (.iconst 1, 1) := by decide +kernel
theorem dL_law_217 : decode cL_law 217 = .ok (.iadd, 1) := by decide +kernel
theorem dL_law_218 : decode cL_law 218 = .ok (.iaload, 1) := by decide +kernel
theorem dL_law_219 : decode cL_law 219 = .ok (.invokevirtual 27, 3) := by decide +kernel
theorem dL_law_222 : decode cL_law 222 = .ok (.aload_n 2, 1) := by decide +kernel
theorem dL_law_223 : decode cL_law 223 = .ok (.aload_n 0, 1) := by decide +kernel
theorem dL_law_224 : decode cL_law 224 = .ok (.iload_n 3, 1) := by decide +kernel
theorem dL_law_225 : decode cL_law 225 = .ok (.iconst 1, 1) := by decide +kernel
theorem dL_law_226 : decode cL_law 226 = .ok (.iadd, 1) := by decide +kernel
theorem dL_law_227 : decode cL_law 227 = .ok (.iaload, 1) := by decide +kernel
theorem dL_law_228 : decode cL_law 228 = .ok (.invokevirtual 30, 3) := by decide +kernel
theorem dL_law_231 : decode cL_law 231 = .ok (.if_icmp .eq 628, 3) := by decide +kernel
theorem dL_law_234 : decode cL_law 234 = .ok (.iconst 0, 1) := by decide +kernel
theorem dL_law_235 : decode cL_law 235 = .ok (.ireturn, 1) := by decide +kernel
theorem dL_law_236 : decode cL_law 236 = .ok (.aload_n 1, 1) := by decide +kernel
theorem dL_law_237 : decode cL_law 237 = .ok (.aload_n 0, 1) := by decide +kernel
theorem dL_law_238 : decode cL_law 238 = .ok (.iload_n 3, 1) := by decide +kernel
theorem dL_law_239 : decode cL_law 239 = .ok (.iconst 1, 1) := by decide +kernel
theorem dL_law_240 : decode cL_law 240 = .ok (.iadd, 1) := by decide +kernel
theorem dL_law_241 : decode cL_law 241 = .ok (.iaload, 1) := by decide +kernel
theorem dL_law_242 : decode cL_law 242 = .ok (.aload_n 0, 1) := by decide +kernel
theorem dL_law_243 : decode cL_law 243 = .ok (.iload_n 3, 1) := by decide +kernel
theorem dL_law_244 : decode cL_law 244 = .ok (.iconst 2, 1) := by decide +kernel
theorem dL_law_245 : decode cL_law 245 = .ok (.iadd, 1) := by decide +kernel
theorem dL_law_246 : decode cL_law 246 = .ok (.iaload, 1) := by decide +kernel
theorem dL_law_247 : decode cL_law 247 = .ok (.invokevirtual 31, 3) := by decide +kernel
theorem dL_law_250 : decode cL_law 250 = .ok (.aload_n 2, 1) := by decide +kernel
theorem dL_law_251 : decode cL_law 251 = .ok (.aload_n 0, 1) := by decide +kernel
theorem dL_law_252 : decode cL_law 252 = .ok (.iload_n 3, 1) := by decide +kernel
theorem dL_law_253 : decode cL_law 253 = .ok (.iconst 1, 1) := by decide +kernel
theorem dL_law_254 : decode cL_law 254 = .ok (.iadd, 1) := by decide +kernel
theorem dL_law_255 : decode cL_law 255 = .ok (.iaload, 1) := by decide +kernel
theorem dL_law_256 : decode cL_law 256 = .ok (.aload_n 0, 1) := by decide +kernel
theorem dL_law_257 : decode cL_law 257 = .ok (.iload_n 3, 1) := by decide +kernel
theorem dL_law_258 : decode cL_law 258 = .ok (.iconst 2, 1) := by decide +kernel
theorem dL_law_259 : decode cL_law 259 = .ok (.iadd, 1) := by decide +kernel
theorem dL_law_260 : decode cL_law 260 = .ok (.iaload, 1) := by decide +kernel
theorem dL_law_261 : decode cL_law 261 = .ok (.invokevirtual 35, 3) := by decide +kernel
theorem dL_law_264 : decode cL_law 264 = .ok (.if_icmp .eq 595, 3) := by decide +kernel
theorem dL_law_267 : decode cL_law 267 = .ok (.iconst 0, 1) := by decide +kernel
theorem dL_law_268 : decode cL_law 268 = .ok (.ireturn, 1) := by decide +kernel
theorem dL_law_269 : decode cL_law 269 = .ok (.aload_n 1, 1) := by decide +kernel
theorem dL_law_270 : decode cL_law 270 = .ok (.aload_n 0, 1) := by decide +kernel
theorem dL_law_271 : decode cL_law 271 = .ok (.iload_n 3, 1) := by decide +kernel
theorem dL_law_272 : decode cL_law 272 = .ok (.iconst 1, 1) := by decide +kernel
theorem dL_law_273 : decode cL_law 273 = .ok (.iadd, 1) := by decide +kernel
theorem dL_law_274 : decode cL_law 274 = .ok (.iaload, 1) := by decide +kernel
theorem dL_law_275 : decode cL_law 275 = .ok (.aload_n 0, 1) := by decide +kernel
theorem dL_law_276 : decode cL_law 276 = .ok (.iload_n 3, 1) := by decide +kernel
theorem dL_law_277 : decode cL_law 277 = .ok (.iconst 2, 1) := by decide +kernel
theorem dL_law_278 : decode cL_law 278 = .ok (.iadd, 1) := by decide +kernel
theorem dL_law_279 : decode cL_law 279 = .ok (.iaload, 1) := by decide +kernel
theorem dL_law_280 : decode cL_law 280 = .ok (.ifCond .eq 7, 3) := by decide +kernel
theorem dL_law_283 : decode cL_law 283 = .ok (.iconst 1, 1) := by decide +kernel
theorem dL_law_284 : decode cL_law 284 = .ok (.goto 4, 3) := by decide +kernel
theorem dL_law_287 : decode cL_law 287 = .ok (.iconst 0, 1) := by decide +kernel
theorem dL_law_288 : decode cL_law 288 = .ok (.invokevirtual 36, 3) := by decide +kernel
theorem dL_law_291 : decode cL_law 291 = .ok (.aload_n 2, 1) := by decide +kernel
theorem dL_law_292 : decode cL_law 292 = .ok (.aload_n 0, 1) := by decide +kernel
theorem dL_law_293 : decode cL_law 293 = .ok (.iload_n 3, 1) := by decide +kernel
theorem dL_law_294 : decode cL_law 294 = .ok (.iconst 1, 1) := by decide +kernel
theorem dL_law_295 : decode cL_law 295 = .ok (.iadd, 1) := by decide +kernel
theorem dL_law_296 : decode cL_law 296 = .ok (.iaload, 1) := by decide +kernel
theorem dL_law_297 : decode cL_law 297 = .ok (.aload_n 0, 1) := by decide +kernel
theorem dL_law_298 : decode cL_law 298 = .ok (.iload_n 3, 1) := by decide +kernel
theorem dL_law_299 : decode cL_law 299 = .ok (.iconst 2, 1) := by decide +kernel
theorem dL_law_300 : decode cL_law 300 = .ok (.iadd, 1) := by decide +kernel
theorem dL_law_301 : decode cL_law 301 = .ok (.iaload, 1) := by decide +kernel
theorem dL_law_302 : decode cL_law 302 = .ok (.ifCond .eq 7, 3) := by decide +kernel
theorem dL_law_305 : decode cL_law 305 = .ok (.iconst 1, 1) := by decide +kernel
theorem dL_law_306 : decode cL_law 306 = .ok (.goto 4, 3) := by decide +kernel
theorem dL_law_309 : decode cL_law 309 = .ok (.iconst 0, 1) := by decide +kernel
theorem dL_law_310 : decode cL_law 310 = .ok (.invokevirtual 40, 3) := by decide +kernel
theorem dL_law_313 : decode cL_law 313 = .ok (.if_icmp .eq 546, 3) := by decide +kernel
theorem dL_law_316 : decode cL_law 316 = .ok (.iconst 0, 1) := by decide +kernel
theorem dL_law_317 : decode cL_law 317 = .ok (.ireturn, 1) := by decide +kernel
theorem dL_law_318 : decode cL_law 318 = .ok (.aload_n 1, 1) := by decide +kernel
theorem dL_law_319 : decode cL_law 319 = .ok (.aload_n 0, 1) := by decide +kernel
theorem dL_law_320 : decode cL_law 320 = .ok (.iload_n 3, 1) := by decide +kernel
theorem dL_law_321 : decode cL_law 321 = .ok (.iconst 1, 1) := by decide +kernel
theorem dL_law_322 : decode cL_law 322 = .ok (.iadd, 1) := by decide +kernel
theorem dL_law_323 : decode cL_law 323 = .ok (.iaload, 1) := by decide +kernel
theorem dL_law_324 : decode cL_law 324 = .ok (.aload_n 0, 1) := by decide +kernel
theorem dL_law_325 : decode cL_law 325 = .ok (.iload_n 3, 1) := by decide +kernel
theorem dL_law_326 : decode cL_law 326 = .ok (.iconst 2, 1) := by decide +kernel
theorem dL_law_327 : decode cL_law 327 = .ok (.iadd, 1) := by decide +kernel
theorem dL_law_328 : decode cL_law 328 = .ok (.iaload, 1) := by decide +kernel
theorem dL_law_329 : decode cL_law 329 = .ok (.ifCond .eq 7, 3) := by decide +kernel
theorem dL_law_332 : decode cL_law 332 = .ok (.iconst 1, 1) := by decide +kernel
theorem dL_law_333 : decode cL_law 333 = .ok (.goto 4, 3) := by decide +kernel
theorem dL_law_336 : decode cL_law 336 = .ok (.iconst 0, 1) := by decide +kernel
theorem dL_law_337 : decode cL_law 337 = .ok (.invokevirtual 41, 3) := by decide +kernel
theorem dL_law_340 : decode cL_law 340 = .ok (.aload_n 2, 1) := by decide +kernel
theorem dL_law_341 : decode cL_law 341 = .ok (.aload_n 0, 1) := by decide +kernel
theorem dL_law_342 : decode cL_law 342 = .ok (.iload_n 3, 1) := by decide +kernel
theorem dL_law_343 : decode cL_law 343 = .ok (.iconst 1, 1) := by decide +kernel
theorem dL_law_344 : decode cL_law 344 = .ok (.iadd, 1) := by decide +kernel
theorem dL_law_345 : decode cL_law 345 = .ok (.iaload, 1) := by decide +kernel
theorem dL_law_346 : decode cL_law 346 = .ok (.aload_n 0, 1) := by decide +kernel
theorem dL_law_347 : decode cL_law 347 = .ok (.iload_n 3, 1) := by decide +kernel
theorem dL_law_348 : decode cL_law 348 = .ok (.iconst 2, 1) := by decide +kernel
theorem dL_law_349 : decode cL_law 349 = .ok (.iadd, 1) := by decide +kernel
theorem dL_law_350 : decode cL_law 350 = .ok (.iaload, 1) := by decide +kernel
theorem dL_law_351 : decode cL_law 351 = .ok (.ifCond .eq 7, 3) := by decide +kernel
theorem dL_law_354 : decode cL_law 354 = .ok (.iconst 1, 1) := by decide +kernel
theorem dL_law_355 : decode cL_law 355 = .ok (.goto 4, 3) := by decide +kernel
theorem dL_law_358 : decode cL_law 358 = .ok (.iconst 0, 1) := by decide +kernel
theorem dL_law_359 : decode cL_law 359 = .ok (.invokevirtual 44, 3) := by decide +kernel
theorem dL_law_362 : decode cL_law 362 = .ok (.if_icmp .eq 497, 3) := by decide +kernel
theorem dL_law_365 : decode cL_law 365 = .ok (.iconst 0, 1) := by decide +kernel
theorem dL_law_366 : decode cL_law 366 = .ok (.ireturn, 1) := by decide +kernel
theorem dL_law_367 : decode cL_law 367 = .ok (.aload_n 1, 1) := by decide +kernel
theorem dL_law_368 : decode cL_law 368 = .ok (.invokevirtual 45, 3) := by decide +kernel
theorem dL_law_371 : decode cL_law 371 = .ok (.aload_n 2, 1) := by decide +kernel
theorem dL_law_372 : decode cL_law 372 = .ok (.invokevirtual 48, 3) := by decide +kernel
theorem dL_law_375 : decode cL_law 375 = .ok (.if_icmp .eq 484, 3) := by decide +kernel
theorem dL_law_378 : decode cL_law 378 = .ok (.iconst 0, 1) := by decide +kernel
theorem dL_law_379 : decode cL_law 379 = .ok (.ireturn, 1) := by decide +kernel
theorem dL_law_380 : decode cL_law 380 = .ok (.aload_n 1, 1) := by decide +kernel
theorem dL_law_381 : decode cL_law 381 = .ok (.invokevirtual 49, 3) := by decide +kernel
theorem dL_law_384 : decode cL_law 384 = .ok (.aload_n 2, 1) := by decide +kernel
theorem dL_law_385 : decode cL_law 385 = .ok (.invokevirtual 52, 3) := by decide +kernel
theorem dL_law_388 : decode cL_law 388 = .ok (.if_icmp .eq 471, 3) := by decide +kernel
theorem dL_law_391 : decode cL_law 391 = .ok (.iconst 0, 1) := by decide +kernel
theorem dL_law_392 : decode cL_law 392 = .ok (.ireturn, 1) := by decide +kernel
theorem dL_law_393 : decode cL_law 393 = .ok (.aload_n 1, 1) := by decide +kernel
theorem dL_law_394 : decode cL_law 394 = .ok (.aload_n 0, 1) := by decide +kernel
theorem dL_law_395 : decode cL_law 395 = .ok (.iload_n 3, 1) := by decide +kernel
theorem dL_law_396 : decode cL_law 396 = .ok (.iconst 1, 1) := by decide +kernel
theorem dL_law_397 : decode cL_law 397 = .ok (.iadd, 1) := by decide +kernel
theorem dL_law_398 : decode cL_law 398 = .ok (.iaload, 1) := by decide +kernel
theorem dL_law_399 : decode cL_law 399 = .ok (.invokevirtual 53, 3) := by decide +kernel
theorem dL_law_402 : decode cL_law 402 = .ok (.aload_n 2, 1) := by decide +kernel
theorem dL_law_403 : decode cL_law 403 = .ok (.aload_n 0, 1) := by decide +kernel
theorem dL_law_404 : decode cL_law 404 = .ok (.iload_n 3, 1) := by decide +kernel
theorem dL_law_405 : decode cL_law 405 = .ok (.iconst 1, 1) := by decide +kernel
theorem dL_law_406 : decode cL_law 406 = .ok (.iadd, 1) := by decide +kernel
theorem dL_law_407 : decode cL_law 407 = .ok (.iaload, 1) := by decide +kernel
theorem dL_law_408 : decode cL_law 408 = .ok (.invokevirtual 56, 3) := by decide +kernel
theorem dL_law_411 : decode cL_law 411 = .ok (.if_icmp .eq 448, 3) := by decide +kernel
theorem dL_law_414 : decode cL_law 414 = .ok (.iconst 0, 1) := by decide +kernel
theorem dL_law_415 : decode cL_law 415 = .ok (.ireturn, 1) := by decide +kernel
theorem dL_law_416 : decode cL_law 416 = .ok (.aload_n 1, 1) := by decide +kernel
theorem dL_law_417 : decode cL_law 417 = .ok (.invokevirtual 57, 3) := by decide +kernel
theorem dL_law_420 : decode cL_law 420 = .ok (.aload_n 2, 1) := by decide +kernel
theorem dL_law_421 : decode cL_law 421 = .ok (.invokevirtual 60, 3) := by decide +kernel
theorem dL_law_424 : decode cL_law 424 = .ok (.if_icmp .eq 435, 3) := by decide +kernel
theorem dL_law_427 : decode cL_law 427 = .ok (.iconst 0, 1) := by decide +kernel
theorem dL_law_428 : decode cL_law 428 = .ok (.ireturn, 1) := by decide +kernel
theorem dL_law_429 : decode cL_law 429 = .ok (.aload_n 1, 1) := by decide +kernel
theorem dL_law_430 : decode cL_law 430 = .ok (.aload_n 0, 1) := by decide +kernel
theorem dL_law_431 : decode cL_law 431 = .ok (.iload_n 3, 1) := by decide +kernel
theorem dL_law_432 : decode cL_law 432 = .ok (.iconst 1, 1) := by decide +kernel
theorem dL_law_433 : decode cL_law 433 = .ok (.iadd, 1) := by decide +kernel
theorem dL_law_434 : decode cL_law 434 = .ok (.iaload, 1) := by decide +kernel
theorem dL_law_435 : decode cL_law 435 = .ok (.invokevirtual 61, 3) := by decide +kernel
theorem dL_law_438 : decode cL_law 438 = .ok (.aload_n 2, 1) := by decide +kernel
theorem dL_law_439 : decode cL_law 439 = .ok (.aload_n 0, 1) := by decide +kernel
theorem dL_law_440 : decode cL_law 440 = .ok (.iload_n 3, 1) := by decide +kernel
theorem dL_law_441 : decode cL_law 441 = .ok (.iconst 1, 1) := by decide +kernel
theorem dL_law_442 : decode cL_law 442 = .ok (.iadd, 1) := by decide +kernel
theorem dL_law_443 : decode cL_law 443 = .ok (.iaload, 1) := by decide +kernel
theorem dL_law_444 : decode cL_law 444 = .ok (.invokevirtual 64, 3) := by decide +kernel
theorem dL_law_447 : decode cL_law 447 = .ok (.if_icmp .eq 412, 3) := by decide +kernel
theorem dL_law_450 : decode cL_law 450 = .ok (.iconst 0, 1) := by decide +kernel
theorem dL_law_451 : decode cL_law 451 = .ok (.ireturn, 1) := by decide +kernel
theorem dL_law_452 : decode cL_law 452 = .ok (.aload_n 1, 1) := by decide +kernel
theorem dL_law_453 : decode cL_law 453 = .ok (.aload_n 0, 1) := by decide +kernel
theorem dL_law_454 : decode cL_law 454 = .ok (.iload_n 3, 1) := by decide +kernel
theorem dL_law_455 : decode cL_law 455 = .ok (.iconst 1, 1) := by decide +kernel
theorem dL_law_456 : decode cL_law 456 = .ok (.iadd, 1) := by decide +kernel
theorem dL_law_457 : decode cL_law 457 = .ok (.iaload, 1) := by decide +kernel
theorem dL_law_458 : decode cL_law 458 = .ok (.aload_n 0, 1) := by decide +kernel
theorem dL_law_459 : decode cL_law 459 = .ok (.iload_n 3, 1) := by decide +kernel
theorem dL_law_460 : decode cL_law 460 = .ok (.iconst 2, 1) := by decide +kernel
theorem dL_law_461 : decode cL_law 461 = .ok (.iadd, 1) := by decide +kernel
theorem dL_law_462 : decode cL_law 462 = .ok (.iaload, 1) := by decide +kernel
theorem dL_law_463 : decode cL_law 463 = .ok (.invokevirtual 65, 3) := by decide +kernel
theorem dL_law_466 : decode cL_law 466 = .ok (.aload_n 2, 1) := by decide +kernel
theorem dL_law_467 : decode cL_law 467 = .ok (.aload_n 0, 1) := by decide +kernel
theorem dL_law_468 : decode cL_law 468 = .ok (.iload_n 3, 1) := by decide +kernel
theorem dL_law_469 : decode cL_law 469 = .ok (.iconst 1, 1) := by decide +kernel
theorem dL_law_470 : decode cL_law 470 = .ok (.iadd, 1) := by decide +kernel
theorem dL_law_471 : decode cL_law 471 = .ok (.iaload, 1) := by decide +kernel
theorem dL_law_472 : decode cL_law 472 = .ok (.aload_n 0, 1) := by decide +kernel
theorem dL_law_473 : decode cL_law 473 = .ok (.iload_n 3, 1) := by decide +kernel
theorem dL_law_474 : decode cL_law 474 = .ok (.iconst 2, 1) := by decide +kernel
theorem dL_law_475 : decode cL_law 475 = .ok (.iadd, 1) := by decide +kernel
theorem dL_law_476 : decode cL_law 476 = .ok (.iaload, 1) := by decide +kernel
theorem dL_law_477 : decode cL_law 477 = .ok (.invokevirtual 68, 3) := by decide +kernel
theorem dL_law_480 : decode cL_law 480 = .ok (.if_icmp .eq 379, 3) := by decide +kernel
theorem dL_law_483 : decode cL_law 483 = .ok (.iconst 0, 1) := by decide +kernel
theorem dL_law_484 : decode cL_law 484 = .ok (.ireturn, 1) := by decide +kernel
theorem dL_law_485 : decode cL_law 485 = .ok (.aload_n 1, 1) := by decide +kernel
theorem dL_law_486 : decode cL_law 486 = .ok (.aload_n 0, 1) := by decide +kernel
theorem dL_law_487 : decode cL_law 487 = .ok (.iload_n 3, 1) := by decide +kernel
theorem dL_law_488 : decode cL_law 488 = .ok (.iconst 1, 1) := by decide +kernel
theorem dL_law_489 : decode cL_law 489 = .ok (.iadd, 1) := by decide +kernel
theorem dL_law_490 : decode cL_law 490 = .ok (.iaload, 1) := by decide +kernel
theorem dL_law_491 : decode cL_law 491 = .ok (.invokevirtual 69, 3) := by decide +kernel
theorem dL_law_494 : decode cL_law 494 = .ok (.aload_n 2, 1) := by decide +kernel
theorem dL_law_495 : decode cL_law 495 = .ok (.aload_n 0, 1) := by decide +kernel
theorem dL_law_496 : decode cL_law 496 = .ok (.iload_n 3, 1) := by decide +kernel
theorem dL_law_497 : decode cL_law 497 = .ok (.iconst 1, 1) := by decide +kernel
theorem dL_law_498 : decode cL_law 498 = .ok (.iadd, 1) := by decide +kernel
theorem dL_law_499 : decode cL_law 499 = .ok (.iaload, 1) := by decide +kernel
theorem dL_law_500 : decode cL_law 500 = .ok (.invokevirtual 72, 3) := by decide +kernel
theorem dL_law_503 : decode cL_law 503 = .ok (.if_icmp .eq 356, 3) := by decide +kernel
theorem dL_law_506 : decode cL_law 506 = .ok (.iconst 0, 1) := by decide +kernel
theorem dL_law_507 : decode cL_law 507 = .ok (.ireturn, 1) := by decide +kernel
theorem dL_law_508 : decode cL_law 508 = .ok (.aload_n 1, 1) := by decide +kernel
theorem dL_law_509 : decode cL_law 509 = .ok (.aload_n 0, 1) := by decide +kernel
theorem dL_law_510 : decode cL_law 510 = .ok (.iload_n 3, 1) := by decide +kernel
theorem dL_law_511 : decode cL_law 511 = .ok (.iconst 1, 1) := by decide +kernel
theorem dL_law_512 : decode cL_law 512 = .ok (.iadd, 1) := by decide +kernel
theorem dL_law_513 : decode cL_law 513 = .ok (.iaload, 1) := by decide +kernel
theorem dL_law_514 : decode cL_law 514 = .ok (.invokevirtual 73, 3) := by decide +kernel
theorem dL_law_517 : decode cL_law 517 = .ok (.aload_n 2, 1) := by decide +kernel
theorem dL_law_518 : decode cL_law 518 = .ok (.aload_n 0, 1) := by decide +kernel
theorem dL_law_519 : decode cL_law 519 = .ok (.iload_n 3, 1) := by decide +kernel
theorem dL_law_520 : decode cL_law 520 = .ok (.iconst 1, 1) := by decide +kernel
theorem dL_law_521 : decode cL_law 521 = .ok (.iadd, 1) := by decide +kernel
theorem dL_law_522 : decode cL_law 522 = .ok (.iaload, 1) := by decide +kernel
theorem dL_law_523 : decode cL_law 523 = .ok (.invokevirtual 76, 3) := by decide +kernel
theorem dL_law_526 : decode cL_law 526 = .ok (.if_icmp .eq 333, 3) := by decide +kernel
theorem dL_law_529 : decode cL_law 529 = .ok (.iconst 0, 1) := by decide +kernel
theorem dL_law_530 : decode cL_law 530 = .ok (.ireturn, 1) := by decide +kernel
theorem dL_law_531 : decode cL_law 531 = .ok (.aload_n 1, 1) := by decide +kernel
theorem dL_law_532 : decode cL_law 532 = .ok (.aload_n 0, 1) := by decide +kernel
theorem dL_law_533 : decode cL_law 533 = .ok (.iload_n 3, 1) := by decide +kernel
theorem dL_law_534 : decode cL_law 534 = .ok (.iconst 1, 1) := by decide +kernel
theorem dL_law_535 : decode cL_law 535 = .ok (.iadd, 1) := by decide +kernel
theorem dL_law_536 : decode cL_law 536 = .ok (.iaload, 1) := by decide +kernel
theorem dL_law_537 : decode cL_law 537 = .ok (.invokevirtual 77, 3) := by decide +kernel
theorem dL_law_540 : decode cL_law 540 = .ok (.aload_n 2, 1) := by decide +kernel
theorem dL_law_541 : decode cL_law 541 = .ok (.aload_n 0, 1) := by decide +kernel
theorem dL_law_542 : decode cL_law 542 = .ok (.iload_n 3, 1) := by decide +kernel
theorem dL_law_543 : decode cL_law 543 = .ok (.iconst 1, 1) := by decide +kernel
theorem dL_law_544 : decode cL_law 544 = .ok (.iadd, 1) := by decide +kernel
theorem dL_law_545 : decode cL_law 545 = .ok (.iaload, 1) := by decide +kernel
theorem dL_law_546 : decode cL_law 546 = .ok (.invokevirtual 80, 3) := by decide +kernel
theorem dL_law_549 : decode cL_law 549 = .ok (.if_icmp .eq 310, 3) := by decide +kernel
theorem dL_law_552 : decode cL_law 552 = .ok (.iconst 0, 1) := by decide +kernel
theorem dL_law_553 : decode cL_law 553 = .ok (.ireturn, 1) := by decide +kernel
theorem dL_law_554 : decode cL_law 554 = .ok (.aload_n 1, 1) := by decide +kernel
theorem dL_law_555 : decode cL_law 555 = .ok (.aload_n 0, 1) := by decide +kernel
theorem dL_law_556 : decode cL_law 556 = .ok (.iload_n 3, 1) := by decide +kernel
theorem dL_law_557 : decode cL_law 557 = .ok (.iconst 1, 1) := by decide +kernel
theorem dL_law_558 : decode cL_law 558 = .ok (.iadd, 1) := by decide +kernel
theorem dL_law_559 : decode cL_law 559 = .ok (.iaload, 1) := by decide +kernel
theorem dL_law_560 : decode cL_law 560 = .ok (.invokevirtual 81, 3) := by decide +kernel
theorem dL_law_563 : decode cL_law 563 = .ok (.aload_n 2, 1) := by decide +kernel
theorem dL_law_564 : decode cL_law 564 = .ok (.aload_n 0, 1) := by decide +kernel
theorem dL_law_565 : decode cL_law 565 = .ok (.iload_n 3, 1) := by decide +kernel
theorem dL_law_566 : decode cL_law 566 = .ok (.iconst 1, 1) := by decide +kernel
theorem dL_law_567 : decode cL_law 567 = .ok (.iadd, 1) := by decide +kernel
theorem dL_law_568 : decode cL_law 568 = .ok (.iaload, 1) := by decide +kernel
theorem dL_law_569 : decode cL_law 569 = .ok (.invokevirtual 84, 3) := by decide +kernel
theorem dL_law_572 : decode cL_law 572 = .ok (.if_icmp .eq 287, 3) := by decide +kernel
theorem dL_law_575 : decode cL_law 575 = .ok (.iconst 0, 1) := by decide +kernel
theorem dL_law_576 : decode cL_law 576 = .ok (.ireturn, 1) := by decide +kernel
theorem dL_law_577 : decode cL_law 577 = .ok (.aload_n 1, 1) := by decide +kernel
theorem dL_law_578 : decode cL_law 578 = .ok (.invokevirtual 85, 3) := by decide +kernel
theorem dL_law_581 : decode cL_law 581 = .ok (.aload_n 2, 1) := by decide +kernel
theorem dL_law_582 : decode cL_law 582 = .ok (.invokevirtual 88, 3) := by decide +kernel
theorem dL_law_585 : decode cL_law 585 = .ok (.if_icmp .eq 274, 3) := by decide +kernel
theorem dL_law_588 : decode cL_law 588 = .ok (.iconst 0, 1) := by decide +kernel
theorem dL_law_589 : decode cL_law 589 = .ok (.ireturn, 1) := by decide +kernel
theorem dL_law_590 : decode cL_law 590 = .ok (.aload_n 1, 1) := by decide +kernel
theorem dL_law_591 : decode cL_law 591 = .ok (.invokevirtual 89, 3) := by decide +kernel
theorem dL_law_594 : decode cL_law 594 = .ok (.aload_n 2, 1) := by decide +kernel
theorem dL_law_595 : decode cL_law 595 = .ok (.invokevirtual 92, 3) := by decide +kernel
theorem dL_law_598 : decode cL_law 598 = .ok (.if_icmp .eq 261, 3) := by decide +kernel
theorem dL_law_601 : decode cL_law 601 = .ok (.iconst 0, 1) := by decide +kernel
theorem dL_law_602 : decode cL_law 602 = .ok (.ireturn, 1) := by decide +kernel
theorem dL_law_603 : decode cL_law 603 = .ok (.aload_n 1, 1) := by decide +kernel
theorem dL_law_604 : decode cL_law 604 = .ok (.aload_n 0, 1) := by decide +kernel
theorem dL_law_605 : decode cL_law 605 = .ok (.iload_n 3, 1) := by decide +kernel
theorem dL_law_606 : decode cL_law 606 = .ok (.iconst 1, 1) := by decide +kernel
theorem dL_law_607 : decode cL_law 607 = .ok (.iadd, 1) := by decide +kernel
theorem dL_law_608 : decode cL_law 608 = .ok (.iaload, 1) := by decide +kernel
theorem dL_law_609 : decode cL_law 609 = .ok (.aload_n 0, 1) := by decide +kernel
theorem dL_law_610 : decode cL_law 610 = .ok (.iload_n 3, 1) := by decide +kernel
theorem dL_law_611 : decode cL_law 611 = .ok (.iconst 2, 1) := by decide +kernel
theorem dL_law_612 : decode cL_law 612 = .ok (.iadd, 1) := by decide +kernel
theorem dL_law_613 : decode cL_law 613 = .ok (.iaload, 1) := by decide +kernel
theorem dL_law_614 : decode cL_law 614 = .ok (.invokevirtual 93, 3) := by decide +kernel
theorem dL_law_617 : decode cL_law 617 = .ok (.aload_n 2, 1) := by decide +kernel
theorem dL_law_618 : decode cL_law 618 = .ok (.aload_n 0, 1) := by decide +kernel
theorem dL_law_619 : decode cL_law 619 = .ok (.iload_n 3, 1) := by decide +kernel
theorem dL_law_620 : decode cL_law 620 = .ok (.iconst 1, 1) := by decide +kernel
theorem dL_law_621 : decode cL_law 621 = .ok (.iadd, 1) := by decide +kernel
theorem dL_law_622 : decode cL_law 622 = .ok (.iaload, 1) := by decide +kernel
theorem dL_law_623 : decode cL_law 623 = .ok (.aload_n 0, 1) := by decide +kernel
theorem dL_law_624 : decode cL_law 624 = .ok (.iload_n 3, 1) := by decide +kernel
theorem dL_law_625 : decode cL_law 625 = .ok (.iconst 2, 1) := by decide +kernel
theorem dL_law_626 : decode cL_law 626 = .ok (.iadd, 1) := by decide +kernel
theorem dL_law_627 : decode cL_law 627 = .ok (.iaload, 1) := by decide +kernel
theorem dL_law_628 : decode cL_law 628 = .ok (.invokevirtual 96, 3) := by decide +kernel
theorem dL_law_631 : decode cL_law 631 = .ok (.if_icmp .eq 228, 3) := by decide +kernel
theorem dL_law_634 : decode cL_law 634 = .ok (.iconst 0, 1) := by decide +kernel
theorem dL_law_635 : decode cL_law 635 = .ok (.ireturn, 1) := by decide +kernel
theorem dL_law_636 : decode cL_law 636 = .ok (.aload_n 1, 1) := by decide +kernel
theorem dL_law_637 : decode cL_law 637 = .ok (.aload_n 0, 1) := by decide +kernel
theorem dL_law_638 : decode cL_law 638 = .ok (.iload_n 3, 1) := by decide +kernel
theorem dL_law_639 : decode cL_law 639 = .ok (.iconst 1, 1) := by decide +kernel
theorem dL_law_640 : decode cL_law 640 = .ok (.iadd, 1) := by decide +kernel
theorem dL_law_641 : decode cL_law 641 = .ok (.iaload, 1) := by decide +kernel
theorem dL_law_642 : decode cL_law 642 = .ok (.aload_n 0, 1) := by decide +kernel
theorem dL_law_643 : decode cL_law 643 = .ok (.iload_n 3, 1) := by decide +kernel
theorem dL_law_644 : decode cL_law 644 = .ok (.iconst 2, 1) := by decide +kernel
theorem dL_law_645 : decode cL_law 645 = .ok (.iadd, 1) := by decide +kernel
theorem dL_law_646 : decode cL_law 646 = .ok (.iaload, 1) := by decide +kernel
theorem dL_law_647 : decode cL_law 647 = .ok (.aload_n 0, 1) := by decide +kernel
theorem dL_law_648 : decode cL_law 648 = .ok (.iload_n 3, 1) := by decide +kernel
theorem dL_law_649 : decode cL_law 649 = .ok (.iconst 3, 1) := by decide +kernel
theorem dL_law_650 : decode cL_law 650 = .ok (.iadd, 1) := by decide +kernel
theorem dL_law_651 : decode cL_law 651 = .ok (.iaload, 1) := by decide +kernel
theorem dL_law_652 : decode cL_law 652 = .ok (.ifCond .eq 7, 3) := by decide +kernel
theorem dL_law_655 : decode cL_law 655 = .ok (.iconst 1, 1) := by decide +kernel
theorem dL_law_656 : decode cL_law 656 = .ok (.goto 4, 3) := by decide +kernel
theorem dL_law_659 : decode cL_law 659 = .ok (.iconst 0, 1) := by decide +kernel
theorem dL_law_660 : decode cL_law 660 = .ok (.invokevirtual 97, 3) := by decide +kernel
theorem dL_law_663 : decode cL_law 663 = .ok (.aload_n 2, 1) := by decide +kernel
theorem dL_law_664 : decode cL_law 664 = .ok (.aload_n 0, 1) := by decide +kernel
theorem dL_law_665 : decode cL_law 665 = .ok (.iload_n 3, 1) := by decide +kernel
theorem dL_law_666 : decode cL_law 666 = .ok (.iconst 1, 1) := by decide +kernel
theorem dL_law_667 : decode cL_law 667 = .ok (.iadd, 1) := by decide +kernel
theorem dL_law_668 : decode cL_law 668 = .ok (.iaload, 1) := by decide +kernel
theorem dL_law_669 : decode cL_law 669 = .ok (.aload_n 0, 1) := by decide +kernel
theorem dL_law_670 : decode cL_law 670 = .ok (.iload_n 3, 1) := by decide +kernel
theorem dL_law_671 : decode cL_law 671 = .ok (.iconst 2, 1) := by decide +kernel
theorem dL_law_672 : decode cL_law 672 = .ok (.iadd, 1) := by decide +kernel
theorem dL_law_673 : decode cL_law 673 = .ok (.iaload, 1) := by decide +kernel
theorem dL_law_674 : decode cL_law 674 = .ok (.aload_n 0, 1) := by decide +kernel
theorem dL_law_675 : decode cL_law 675 = .ok (.iload_n 3, 1) := by decide +kernel
theorem dL_law_676 : decode cL_law 676 = .ok (.iconst 3, 1) := by decide +kernel
theorem dL_law_677 : decode cL_law 677 = .ok (.iadd, 1) := by decide +kernel
theorem dL_law_678 : decode cL_law 678 = .ok (.iaload, 1) := by decide +kernel
theorem dL_law_679 : decode cL_law 679 = .ok (.ifCond .eq 7, 3) := by decide +kernel
theorem dL_law_682 : decode cL_law 682 = .ok (.iconst 1, 1) := by decide +kernel
theorem dL_law_683 : decode cL_law 683 = .ok (.goto 4, 3) := by decide +kernel
theorem dL_law_686 : decode cL_law 686 = .ok (.iconst 0, 1) := by decide +kernel
theorem dL_law_687 : decode cL_law 687 = .ok (.invokevirtual 101, 3) := by decide +kernel
theorem dL_law_690 : decode cL_law 690 = .ok (.if_icmp .eq 169, 3) := by decide +kernel
theorem dL_law_693 : decode cL_law 693 = .ok (.iconst 0, 1) := by decide +kernel
theorem dL_law_694 : decode cL_law 694 = .ok (.ireturn, 1) := by decide +kernel
theorem dL_law_695 : decode cL_law 695 = .ok (.aload_n 1, 1) := by decide +kernel
theorem dL_law_696 : decode cL_law 696 = .ok (.aload_n 0, 1) := by decide +kernel
theorem dL_law_697 : decode cL_law 697 = .ok (.iload_n 3, 1) := by decide +kernel
theorem dL_law_698 : decode cL_law 698 = .ok (.iconst 1, 1) := by decide +kernel
theorem dL_law_699 : decode cL_law 699 = .ok (.iadd, 1) := by decide +kernel
theorem dL_law_700 : decode cL_law 700 = .ok (.iaload, 1) := by decide +kernel
theorem dL_law_701 : decode cL_law 701 = .ok (.invokevirtual 102, 3) := by decide +kernel
theorem dL_law_704 : decode cL_law 704 = .ok (.aload_n 2, 1) := by decide +kernel
theorem dL_law_705 : decode cL_law 705 = .ok (.aload_n 0, 1) := by decide +kernel
theorem dL_law_706 : decode cL_law 706 = .ok (.iload_n 3, 1) := by decide +kernel
theorem dL_law_707 : decode cL_law 707 = .ok (.iconst 1, 1) := by decide +kernel
theorem dL_law_708 : decode cL_law 708 = .ok (.iadd, 1) := by decide +kernel
theorem dL_law_709 : decode cL_law 709 = .ok (.iaload, 1) := by decide +kernel
theorem dL_law_710 : decode cL_law 710 = .ok (.invokevirtual 105, 3) := by decide +kernel
theorem dL_law_713 : decode cL_law 713 = .ok (.if_icmp .eq 146, 3) := by decide +kernel
theorem dL_law_716 : decode cL_law 716 = .ok (.iconst 0, 1) := by decide +kernel
theorem dL_law_717 : decode cL_law 717 = .ok (.ireturn, 1) := by decide +kernel
theorem dL_law_718 : decode cL_law 718 = .ok (.aload_n 1, 1) := by decide +kernel
theorem dL_law_719 : decode cL_law 719 = .ok (.invokevirtual 106, 3) := by decide +kernel
theorem dL_law_722 : decode cL_law 722 = .ok (.aload_n 2, 1) := by decide +kernel
theorem dL_law_723 : decode cL_law 723 = .ok (.invokevirtual 109, 3) := by decide +kernel
theorem dL_law_726 : decode cL_law 726 = .ok (.if_icmp .eq 133, 3) := by decide +kernel
theorem dL_law_729 : decode cL_law 729 = .ok (.iconst 0, 1) := by decide +kernel
theorem dL_law_730 : decode cL_law 730 = .ok (.ireturn, 1) := by decide +kernel
theorem dL_law_731 : decode cL_law 731 = .ok (.aload_n 1, 1) := by decide +kernel
theorem dL_law_732 : decode cL_law 732 = .ok (.aload_n 0, 1) := by decide +kernel
theorem dL_law_733 : decode cL_law 733 = .ok (.iload_n 3, 1) := by decide +kernel
theorem dL_law_734 : decode cL_law 734 = .ok (.iconst 1, 1) := by decide +kernel
theorem dL_law_735 : decode cL_law 735 = .ok (.iadd, 1) := by decide +kernel
theorem dL_law_736 : decode cL_law 736 = .ok (.iaload, 1) := by decide +kernel
theorem dL_law_737 : decode cL_law 737 = .ok (.aload_n 0, 1) := by decide +kernel
theorem dL_law_738 : decode cL_law 738 = .ok (.iload_n 3, 1) := by decide +kernel
theorem dL_law_739 : decode cL_law 739 = .ok (.iconst 2, 1) := by decide +kernel
theorem dL_law_740 : decode cL_law 740 = .ok (.iadd, 1) := by decide +kernel
theorem dL_law_741 : decode cL_law 741 = .ok (.iaload, 1) := by decide +kernel
theorem dL_law_742 : decode cL_law 742 = .ok (.invokevirtual 110, 3) := by decide +kernel
theorem dL_law_745 : decode cL_law 745 = .ok (.aload_n 2, 1) := by decide +kernel
theorem dL_law_746 : decode cL_law 746 = .ok (.aload_n 0, 1) := by decide +kernel
theorem dL_law_747 : decode cL_law 747 = .ok (.iload_n 3, 1) := by decide +kernel
theorem dL_law_748 : decode cL_law 748 = .ok (.iconst 1, 1) := by decide +kernel
theorem dL_law_749 : decode cL_law 749 = .ok (.iadd, 1) := by decide +kernel
theorem dL_law_750 : decode cL_law 750 = .ok (.iaload, 1) := by decide +kernel
theorem dL_law_751 : decode cL_law 751 = .ok (.aload_n 0, 1) := by decide +kernel
theorem dL_law_752 : decode cL_law 752 = .ok (.iload_n 3, 1) := by decide +kernel
theorem dL_law_753 : decode cL_law 753 = .ok (.iconst 2, 1) := by decide +kernel
theorem dL_law_754 : decode cL_law 754 = .ok (.iadd, 1) := by decide +kernel
theorem dL_law_755 : decode cL_law 755 = .ok (.iaload, 1) := by decide +kernel
theorem dL_law_756 : decode cL_law 756 = .ok (.invokevirtual 113, 3) := by decide +kernel
theorem dL_law_759 : decode cL_law 759 = .ok (.if_icmp .eq 100, 3) := by decide +kernel
theorem dL_law_762 : decode cL_law 762 = .ok (.iconst 0, 1) := by decide +kernel
theorem dL_law_763 : decode cL_law 763 = .ok (.ireturn, 1) := by decide +kernel
theorem dL_law_764 : decode cL_law 764 = .ok (.aload_n 1, 1) := by decide +kernel
theorem dL_law_765 : decode cL_law 765 = .ok (.invokevirtual 114, 3) := by decide +kernel
theorem dL_law_768 : decode cL_law 768 = .ok (.aload_n 2, 1) := by decide +kernel
theorem dL_law_769 : decode cL_law 769 = .ok (.invokevirtual 117, 3) := by decide +kernel
theorem dL_law_772 : decode cL_law 772 = .ok (.if_icmp .eq 87, 3) := by decide +kernel
theorem dL_law_775 : decode cL_law 775 = .ok (.iconst 0, 1) := by decide +kernel
theorem dL_law_776 : decode cL_law 776 = .ok (.ireturn, 1) := by decide +kernel
theorem dL_law_777 : decode cL_law 777 = .ok (.aload_n 1, 1) := by decide +kernel
theorem dL_law_778 : decode cL_law 778 = .ok (.invokevirtual 118, 3) := by decide +kernel
theorem dL_law_781 : decode cL_law 781 = .ok (.aload_n 2, 1) := by decide +kernel
theorem dL_law_782 : decode cL_law 782 = .ok (.invokevirtual 121, 3) := by decide +kernel
theorem dL_law_785 : decode cL_law 785 = .ok (.if_icmp .eq 74, 3) := by decide +kernel
theorem dL_law_788 : decode cL_law 788 = .ok (.iconst 0, 1) := by decide +kernel
theorem dL_law_789 : decode cL_law 789 = .ok (.ireturn, 1) := by decide +kernel
theorem dL_law_790 : decode cL_law 790 = .ok (.aload_n 1, 1) := by decide +kernel
theorem dL_law_791 : decode cL_law 791 = .ok (.aload_n 0, 1) := by decide +kernel
theorem dL_law_792 : decode cL_law 792 = .ok (.iload_n 3, 1) := by decide +kernel
theorem dL_law_793 : decode cL_law 793 = .ok (.iconst 1, 1) := by decide +kernel
theorem dL_law_794 : decode cL_law 794 = .ok (.iadd, 1) := by decide +kernel
theorem dL_law_795 : decode cL_law 795 = .ok (.iaload, 1) := by decide +kernel
theorem dL_law_796 : decode cL_law 796 = .ok (.invokevirtual 122, 3) := by decide +kernel
theorem dL_law_799 : decode cL_law 799 = .ok (.aload_n 2, 1) := by decide +kernel
theorem dL_law_800 : decode cL_law 800 = .ok (.aload_n 0, 1) := by decide +kernel
theorem dL_law_801 : decode cL_law 801 = .ok (.iload_n 3, 1) := by decide +kernel
theorem dL_law_802 : decode cL_law 802 = .ok (.iconst 1, 1) := by decide +kernel
theorem dL_law_803 : decode cL_law 803 = .ok (.iadd, 1) := by decide +kernel
theorem dL_law_804 : decode cL_law 804 = .ok (.iaload, 1) := by decide +kernel
theorem dL_law_805 : decode cL_law 805 = .ok (.invokevirtual 125, 3) := by decide +kernel
theorem dL_law_808 : decode cL_law 808 = .ok (.if_icmp .eq 51, 3) := by decide +kernel
theorem dL_law_811 : decode cL_law 811 = .ok (.iconst 0, 1) := by decide +kernel
theorem dL_law_812 : decode cL_law 812 = .ok (.ireturn, 1) := by decide +kernel
theorem dL_law_813 : decode cL_law 813 = .ok (.aload_n 1, 1) := by decide +kernel
theorem dL_law_814 : decode cL_law 814 = .ok (.aload_n 0, 1) := by decide +kernel
theorem dL_law_815 : decode cL_law 815 = .ok (.iload_n 3, 1) := by decide +kernel
theorem dL_law_816 : decode cL_law 816 = .ok (.iconst 1, 1) := by decide +kernel
theorem dL_law_817 : decode cL_law 817 = .ok (.iadd, 1) := by decide +kernel
theorem dL_law_818 : decode cL_law 818 = .ok (.iaload, 1) := by decide +kernel
theorem dL_law_819 : decode cL_law 819 = .ok (.invokevirtual 126, 3) := by decide +kernel
theorem dL_law_822 : decode cL_law 822 = .ok (.aload_n 2, 1) := by decide +kernel
theorem dL_law_823 : decode cL_law 823 = .ok (.aload_n 0, 1) := by decide +kernel
theorem dL_law_824 : decode cL_law 824 = .ok (.iload_n 3, 1) := by decide +kernel
theorem dL_law_825 : decode cL_law 825 = .ok (.iconst 1, 1) := by decide +kernel
theorem dL_law_826 : decode cL_law 826 = .ok (.iadd, 1) := by decide +kernel
theorem dL_law_827 : decode cL_law 827 = .ok (.iaload, 1) := by decide +kernel
theorem dL_law_828 : decode cL_law 828 = .ok (.invokevirtual 129, 3) := by decide +kernel
theorem dL_law_831 : decode cL_law 831 = .ok (.if_icmp .eq 28, 3) := by decide +kernel
theorem dL_law_834 : decode cL_law 834 = .ok (.iconst 0, 1) := by decide +kernel
theorem dL_law_835 : decode cL_law 835 = .ok (.ireturn, 1) := by decide +kernel
theorem dL_law_836 : decode cL_law 836 = .ok (.aload_n 1, 1) := by decide +kernel
theorem dL_law_837 : decode cL_law 837 = .ok (.aload_n 0, 1) := by decide +kernel
theorem dL_law_838 : decode cL_law 838 = .ok (.iload_n 3, 1) := by decide +kernel
theorem dL_law_839 : decode cL_law 839 = .ok (.iconst 1, 1) := by decide +kernel
theorem dL_law_840 : decode cL_law 840 = .ok (.iadd, 1) := by decide +kernel
theorem dL_law_841 : decode cL_law 841 = .ok (.iaload, 1) := by decide +kernel
theorem dL_law_842 : decode cL_law 842 = .ok (.invokevirtual 130, 3) := by decide +kernel
theorem dL_law_845 : decode cL_law 845 = .ok (.aload_n 2, 1) := by decide +kernel
theorem dL_law_846 : decode cL_law 846 = .ok (.aload_n 0, 1) := by decide +kernel
theorem dL_law_847 : decode cL_law 847 = .ok (.iload_n 3, 1) := by decide +kernel
theorem dL_law_848 : decode cL_law 848 = .ok (.iconst 1, 1) := by decide +kernel
theorem dL_law_849 : decode cL_law 849 = .ok (.iadd, 1) := by decide +kernel
theorem dL_law_850 : decode cL_law 850 = .ok (.iaload, 1) := by decide +kernel
theorem dL_law_851 : decode cL_law 851 = .ok (.invokevirtual 133, 3) := by decide +kernel
theorem dL_law_854 : decode cL_law 854 = .ok (.if_icmp .eq 5, 3) := by decide +kernel
theorem dL_law_857 : decode cL_law 857 = .ok (.iconst 0, 1) := by decide +kernel
theorem dL_law_858 : decode cL_law 858 = .ok (.ireturn, 1) := by decide +kernel
theorem dL_law_859 : decode cL_law 859 = .ok (.iinc 3 4, 3) := by decide +kernel
theorem dL_law_862 : decode cL_law 862 = .ok (.goto (-844), 3) := by decide +kernel
theorem dL_law_865 : decode cL_law 865 = .ok (.iconst 1, 1) := by decide +kernel
theorem dL_law_866 : decode cL_law 866 = .ok (.ireturn, 1) := by decide +kernel
end
section
/-! THE LAYER: an abstract memory by places (a place's address is told by ad), and one judgement G for a frame over it -/
def CN : Nat → String := fun i => match i with | 0 => RX0 | 1 => RX1 | 2 => RX2 | 3 => RX3 | 4 => RX4 | 5 => RX5 | 6 => RX6 | 7 => RX7 | _ => RX8
def FT : Nat → u_T := fun i => match i with | 0 => TX0 | 1 => TX1 | 2 => TX2 | 3 => TX3 | 4 => TX4 | 5 => TX5 | 6 => TX6 | 7 => TX7 | _ => TX8
def FN : Nat → Nat := fun i => match i with | 0 => 3 | 1 => 2 | 2 => 4 | 3 => 4 | 4 => 6 | 5 => 6 | 6 => 3 | 7 => 12 | _ => 32
def FY : Nat → Nat → FieldType := fun i => match i with | 0 => tyX0 | 1 => tyX1 | 2 => tyX2 | 3 => tyX3 | 4 => tyX4 | 5 => tyX5 | 6 => tyX6 | 7 => tyX7 | _ => tyX8
def CL : List vw_C := (List.range 9).map (fun i => (CN i, FT i, FN i))
theorem nine {P : Nat → Prop} (h0 : P 0) (h1 : P 1) (h2 : P 2) (h3 : P 3) (h4 : P 4) (h5 : P 5) (h6 : P 6) (h7 : P 7) (h8 : P 8) : ∀ i, i < 9 → P i
  | 0, _ => h0 | 1, _ => h1 | 2, _ => h2 | 3, _ => h3 | 4, _ => h4 | 5, _ => h5 | 6, _ => h6 | 7, _ => h7 | 8, _ => h8
  | n + 9, h => absurd h (by omega)
theorem CL_at {ci : Nat} (h : ci < 9) : CL[ci]? = some (CN ci, FT ci, FN ci) := by
  unfold CL
  rw [List.getElem?_map, List.getElem?_range h]
  rfl
theorem lay_ok : ∀ ci, ci < 9 → ∀ w ∈ u_ws (CN ci) (FT ci) (FN ci), w ∈ UT := nine (P := fun ci => ∀ w ∈ u_ws (CN ci) (FT ci) (FN ci), w ∈ UT) ly_X0 ly_X1 ly_X2 ly_X3 ly_X4 ly_X5 ly_X6 ly_X7 ly_X8
theorem ty_ok : ∀ ci, ci < 9 → ∀ k, k < FN ci → parseFieldDescriptor (FT ci k).2.2.1 = some (FY ci k) := nine (P := fun ci => ∀ k, k < FN ci → parseFieldDescriptor (FT ci k).2.2.1 = some (FY ci k)) tyX0_ok tyX1_ok tyX2_ok tyX3_ok tyX4_ok tyX5_ok tyX6_ok tyX7_ok tyX8_ok
theorem nm_ok : ∀ ci, ci < 9 → ∀ a, a < FN ci → ∀ b, b < FN ci → a ≠ b → (FT ci a).2.1 ≠ (FT ci b).2.1 := nine (P := fun ci => ∀ a, a < FN ci → ∀ b, b < FN ci → a ≠ b → (FT ci a).2.1 ≠ (FT ci b).2.1) nmX0 nmX1 nmX2 nmX3 nmX4 nmX5 nmX6 nmX7 nmX8
/-- a field is an int, or a reference -/
def fint (ci j : Nat) : Bool := match FY ci j with | .int => true | _ => false
def isRefTy : FieldType → Bool | .object _ => true | .array _ => true | _ => false
theorem fy_ref : ∀ ci, ci < 9 → ∀ j, j < FN ci → fint ci j = false → isRefTy (FY ci j) = true := by
  refine nine ?_ ?_ ?_ ?_ ?_ ?_ ?_ ?_ ?_ <;> decide +kernel
theorem fy_int {ci j : Nat} (h : fint ci j = true) : FY ci j = .int := by
  unfold fint at h
  cases hf : FY ci j <;> simp_all
/-! the memory: how many places, the kind of each, int fields, reference fields, int (and boolean) rows, long rows, reference rows -/
abbrev Mem : Type := Nat × (Nat → Nat) × (Nat → Nat → Int32) × (Nat → Nat → Option Nat) × (Nat → Nat → Int32) × (Nat → Nat → Int64) × (Nat → Nat → Option Nat)
def mN (S : Mem) : Nat := S.1
def mK (S : Mem) : Nat → Nat := S.2.1
def mI (S : Mem) : Nat → Nat → Int32 := S.2.2.1
def mR (S : Mem) : Nat → Nat → Option Nat := S.2.2.2.1
def mA (S : Mem) : Nat → Nat → Int32 := S.2.2.2.2.1
def mL (S : Mem) : Nat → Nat → Int64 := S.2.2.2.2.2.1
def mQ (S : Mem) : Nat → Nat → Option Nat := S.2.2.2.2.2.2
def u2 {α : Type} (f : Nat → Nat → α) (p j : Nat) (v : α) : Nat → Nat → α := fun a b => if a = p then (if b = j then v else f a b) else f a b
def sI (S : Mem) (p j : Nat) (v : Int32) : Mem := (mN S, mK S, u2 (mI S) p j v, mR S, mA S, mL S, mQ S)
def sR (S : Mem) (p j : Nat) (v : Option Nat) : Mem := (mN S, mK S, mI S, u2 (mR S) p j v, mA S, mL S, mQ S)
def sA (S : Mem) (p j : Nat) (v : Int32) : Mem := (mN S, mK S, mI S, mR S, u2 (mA S) p j v, mL S, mQ S)
def sL (S : Mem) (p j : Nat) (v : Int64) : Mem := (mN S, mK S, mI S, mR S, mA S, u2 (mL S) p j v, mQ S)
def sQ (S : Mem) (p j : Nat) (v : Option Nat) : Mem := (mN S, mK S, mI S, mR S, mA S, mL S, u2 (mQ S) p j v)
def u1 {α : Type} (f : Nat → α) (p : Nat) (v : α) : Nat → α := fun a => if a = p then v else f a
/-- one place more, of a kind, all zero -/
def sN (S : Mem) (k : Nat) : Mem := (mN S + 1, u1 (mK S) (mN S) k, u1 (mI S) (mN S) (fun _ => 0), u1 (mR S) (mN S) (fun _ => none), u1 (mA S) (mN S) (fun _ => 0), u1 (mL S) (mN S) (fun _ => 0), u1 (mQ S) (mN S) (fun _ => none))
def celE (c4 : Nat → ClassId) (ad : Nat → Nat) (S : Mem) (p : Nat) : va_E :=
  if mK S p < 9 then .inr (mK S p, (List.range (FN (mK S p))).map (fun j => if fint (mK S p) j = true then .int (mI S p j) else va_rf ((mR S p j).map ad)))
  else .inl (c4 (mK S p % 4), (mK S p - 100) / 4, if mK S p % 4 = 2 then .inr (.inl (mL S p)) else if mK S p % 4 = 3 then .inr (.inr (.inr (.inr (fun i => (mQ S p i).map ad)))) else .inl (mA S p))
def tys4 (c4 : Nat → ClassId) : List (ClassId × FieldType) := [(c4 0, .int), (c4 1, .boolean), (c4 2, .long), (c4 3, .object RX2)]
def wl (c4 : Nat → ClassId) (ad : Nat → Nat) (S : Mem) : va_W := (List.range (mN S)).map (fun p => (ad p, celE c4 ad S p))
/-- references point at places that there are -/
def mwf (S : Mem) : Prop := ∀ p, p < mN S → (∀ j r, mR S p j = some r → r < mN S) ∧ (∀ i r, mQ S p i = some r → r < mN S)
def rb (n : Nat) : Value → Prop := fun v => match v with | .ref k => k < n | _ => True
def cv (ad : Nat → Nat) : Value → Value := fun v => match v with | .ref k => .ref (ad k) | v => v
theorem cv_cat (ad : Nat → Nat) (v : Value) : (cv ad v).category = v.category := by cases v <;> rfl
theorem cv_same {ad ad' : Nat → Nat} {n : Nat} (h : ∀ k, k < n → ad' k = ad k) {v : Value} (hv : rb n v) : cv ad' v = cv ad v := by
  cases v <;> try rfl
  exact congrArg Value.ref (h _ hv)
theorem cv_sameL {ad ad' : Nat → Nat} {n : Nat} (h : ∀ k, k < n → ad' k = ad k) {l : List Value} (hv : ∀ v ∈ l, rb n v) : l.map (cv ad') = l.map (cv ad) := List.map_congr_left (fun v hm => cv_same h (hv v hm))
theorem cv_rf (ad : Nat → Nat) (r : Option Nat) : cv ad (va_rf r) = va_rf (r.map ad) := by cases r <;> rfl
theorem rb_rf {n : Nat} {r : Option Nat} (h : ∀ k, r = some k → k < n) : rb n (va_rf r) := by
  cases r with
  | none => trivial
  | some k => exact h k rfl
theorem rb_mono {n n' : Nat} (h : n ≤ n') {v : Value} (hv : rb n v) : rb n' v := by
  cases v <;> try trivial
  exact Nat.lt_of_lt_of_le hv h
theorem wl_get {c4 : Nat → ClassId} {ad : Nat → Nat} {S : Mem} {p : Nat} (h : p < mN S) : (wl c4 ad S)[p]? = some (ad p, celE c4 ad S p) := by
  unfold wl
  rw [List.getElem?_map, List.getElem?_range h]
  rfl
theorem wl_len {c4 : Nat → ClassId} {ad : Nat → Nat} {S : Mem} : (wl c4 ad S).length = mN S := by unfold wl; simp
theorem wl_set {c4 : Nat → ClassId} {ad : Nat → Nat} {S S' : Mem} {p : Nat} {e : va_E} (hn : mN S' = mN S) (he : celE c4 ad S' p = e) (ho : ∀ q, q ≠ p → celE c4 ad S' q = celE c4 ad S q) : (wl c4 ad S).set p (ad p, e) = wl c4 ad S' := by
  apply List.ext_getElem?
  intro i
  by_cases hi : i < mN S
  · rw [wl_get (S := S') (by omega)]
    by_cases hp : i = p
    · subst hp
      rw [List.getElem?_set_self (by rw [wl_len]; exact hi), he]
    · rw [List.getElem?_set_ne (Ne.symm hp), wl_get hi, ho i hp]
  · rw [List.getElem?_eq_none (by rw [List.length_set, wl_len]; omega), List.getElem?_eq_none (by rw [wl_len]; omega)]
theorem celE_ad {c4 : Nat → ClassId} {ad ad' : Nat → Nat} {S : Mem} (hw : mwf S) (h : ∀ k, k < mN S → ad' k = ad k) {p : Nat} (hp : p < mN S) : celE c4 ad' S p = celE c4 ad S p := by
  have key : ∀ r : Option Nat, (∀ k, r = some k → k < mN S) → r.map ad' = r.map ad := by
    intro r hr
    cases r with
    | none => rfl
    | some k => exact congrArg some (h k (hr k rfl))
  unfold celE
  by_cases hk : mK S p < 9
  · rw [if_pos hk, if_pos hk]
    refine congrArg Sum.inr (congrArg (Prod.mk _) ?_)
    apply List.map_congr_left
    intro j _
    rw [key _ (fun k e => (hw p hp).1 j k e)]
  · rw [if_neg hk, if_neg hk]
    have e : (fun i => (mQ S p i).map ad') = (fun i => (mQ S p i).map ad) := funext fun i => key _ (fun k e => (hw p hp).2 i k e)
    rw [e]
theorem wl_ad {c4 : Nat → ClassId} {ad ad' : Nat → Nat} {S : Mem} (hw : mwf S) (h : ∀ k, k < mN S → ad' k = ad k) : wl c4 ad' S = wl c4 ad S := by
  unfold wl
  apply List.map_congr_left
  intro p hp
  have hp : p < mN S := List.mem_range.mp hp
  rw [h p hp, celE_ad hw h hp]
theorem celE_sN {c4 : Nat → ClassId} {ad : Nat → Nat} {S : Mem} {k p : Nat} (hp : p < mN S) : celE c4 ad (sN S k) p = celE c4 ad S p := by
  have hne : ¬ p = mN S := by omega
  have e1 : mK (sN S k) p = mK S p := by show u1 _ _ _ p = _; unfold u1; rw [if_neg hne]
  have e2 : mI (sN S k) p = mI S p := by show u1 _ _ _ p = _; unfold u1; rw [if_neg hne]
  have e3 : mR (sN S k) p = mR S p := by show u1 _ _ _ p = _; unfold u1; rw [if_neg hne]
  have e4 : mA (sN S k) p = mA S p := by show u1 _ _ _ p = _; unfold u1; rw [if_neg hne]
  have e5 : mL (sN S k) p = mL S p := by show u1 _ _ _ p = _; unfold u1; rw [if_neg hne]
  have e6 : mQ (sN S k) p = mQ S p := by show u1 _ _ _ p = _; unfold u1; rw [if_neg hne]
  unfold celE
  rw [e1, e2, e3, e4, e5, e6]
theorem mwf_sN {S : Mem} (h : mwf S) (k : Nat) : mwf (sN S k) := by
  intro p hp
  have hp : p < mN S + 1 := hp
  refine ⟨fun j r hr => ?_, fun j r hr => ?_⟩
  · have hr : u1 (mR S) (mN S) (fun _ => none) p j = some r := hr
    unfold u1 at hr
    show r < mN S + 1
    by_cases hq : p = mN S
    · rw [if_pos hq] at hr; cases hr
    · rw [if_neg hq] at hr
      exact Nat.lt_succ_of_lt ((h p (by omega)).1 j r hr)
  · have hr : u1 (mQ S) (mN S) (fun _ => none) p j = some r := hr
    unfold u1 at hr
    show r < mN S + 1
    by_cases hq : p = mN S
    · rw [if_pos hq] at hr; cases hr
    · rw [if_neg hq] at hr
      exact Nat.lt_succ_of_lt ((h p (by omega)).2 j r hr)
/-- a cell more: the address map goes on by it -/
theorem wl_push {c4 : Nat → ClassId} {ad : Nat → Nat} {S : Mem} {k q : Nat} (hw : mwf S) : wl c4 ad S ++ [(q, celE c4 (u1 ad (mN S) q) (sN S k) (mN S))] = wl c4 (u1 ad (mN S) q) (sN S k) := by
  have hle : ∀ j, j < mN S → u1 ad (mN S) q j = ad j := fun j hj => by unfold u1; rw [if_neg (by omega)]
  unfold wl
  show _ = (List.range (mN S + 1)).map _
  rw [List.range_succ, List.map_append]
  congr 1
  · apply List.map_congr_left
    intro p hp
    have hp : p < mN S := List.mem_range.mp hp
    rw [hle p hp, celE_sN hp, celE_ad hw hle hp]
  · simp [u1]
end
section
abbrev Kx : Type := (Program × Launch × Env × Room × State) × (MethodId × Array Value × List Frame × Method × Code) × va_G × (Nat → ClassId) × (Nat → Prop) × (State → Prop) × Nat × (Nat → Nat) × Nat × Nat × Option Nat
def kp (κ : Kx) : Program := κ.1.1
def kl (κ : Kx) : Launch := κ.1.2.1
def ke (κ : Kx) : Env := κ.1.2.2.1
def kR (κ : Kx) : Room := κ.1.2.2.2.1
def ks (κ : Kx) : State := κ.1.2.2.2.2
def km (κ : Kx) : MethodId := κ.2.1.1
def ka (κ : Kx) : Array Value := κ.2.1.2.1
def kb (κ : Kx) : List Frame := κ.2.1.2.2.1
def kh (κ : Kx) : Method := κ.2.1.2.2.2.1
def kc (κ : Kx) : Code := κ.2.1.2.2.2.2
def kD (κ : Kx) : va_G := κ.2.2.1
def k4 (κ : Kx) : Nat → ClassId := κ.2.2.2.1
def kA (κ : Kx) : Nat → Prop := κ.2.2.2.2.1
def kQ (κ : Kx) : State → Prop := κ.2.2.2.2.2.1
def kn (κ : Kx) : Nat := κ.2.2.2.2.2.2.1
def kd (κ : Kx) : Nat → Nat := κ.2.2.2.2.2.2.2.1
def kmc (κ : Kx) : Nat := κ.2.2.2.2.2.2.2.2.1
def kms (κ : Kx) : Nat := κ.2.2.2.2.2.2.2.2.2.1
def kx (κ : Kx) : Option Nat := κ.2.2.2.2.2.2.2.2.2.2
/-- the kinds of the places that are there from the beginning; a row of N has kind 100 + 4 * N + 0 (int), 1 (boolean), 2 (long), 3 (reference) -/
def K0 : Nat → Nat := fun p => match p with | 0 => 7 | 1 => 5 | 2 => 1060 | 3 => 1 | 4 => 183 | 5 => 3 | 6 => 124 | 7 => 124 | 8 => 125 | 9 => 0 | 10 => 160 | 11 => 161 | 12 => 111 | 13 => 108 | 14 => 142 | 15 => 164 | 16 => 4 | 17 => 140 | 18 => 140 | 19 => 140 | 20 => 4 | 21 => 140 | 22 => 140 | 23 => 140 | 24 => 2 | 25 => 8 | 26 => 140 | 27 => 140 | 28 => 140 | 29 => 116 | 30 => 1060 | 31 => 140 | 32 => 140 | 33 => 140 | 34 => 420 | 35 => 142 | 36 => 124 | 37 => 124 | 38 => 125 | 39 => 164 | 40 => 160 | 41 => 160 | 42 => 140 | _ => 109
def isF : Value → Bool := fun v => match v with | .float _ => true | _ => false
def isLg : Value → Bool := fun v => match v with | .long _ => true | .double _ => true | _ => false
/-- what is known of the words of a frame, by their numbers; a float is a word of which nothing is known -/
def lh (ad : Nat → Nat) (lsA : Array Slot) (nL : Nat) (ls : List Value) : Prop := lsA.size = nL ∧ lv_wf lsA ∧ ls.length ≤ nL ∧ ∀ (i : Nat) (v : Value), ls[i]? = some v → isF v = false → lsA[i]? = some (.val (cv ad v))
/-- the world at a point -/
def Wd (κ : Kx) (rc rs : Nat) (S : Mem) (ad : Nat → Nat) (H : Heap) (locs : List Loc) (cells slots : Nat) : Prop :=
  va_P (kD κ) CL (wl (k4 κ) ad S) H ∧ va_D (kA κ) (wl (k4 κ) ad S) ∧ va_S (kA κ) (ks κ).heap H locs ∧ mwf S ∧ (∀ k, k < kn κ → ad k = kd κ k) ∧ kn κ ≤ mN S ∧ (∀ p, p < mN S → p < 44 → mK S p = K0 p) ∧ cells + rc ≤ kmc κ ∧ slots + rs ≤ kms κ
def Lo (κ : Kx) (S : Mem) (ad : Nat → Nat) (lsA : Array Slot) (ls : List Value) : Prop := lh ad lsA (kc κ).maxLocals ls ∧ (∀ v ∈ ls, rb (mN S) v) ∧ ∀ b, kx κ = some b → lsA[0]? = some (.val (.ref b))
abbrev WW (κ : Kx) (H : Heap) (locs : List Loc) (cells slots : Nat) (g : JFrame) : Prop := W (kp κ) (kl κ) (ke κ) (kR κ) (ks κ) (km κ) (ka κ) (kb κ) (kh κ) (kc κ) H locs cells slots (kQ κ) g
def G (κ : Kx) (rc rs : Nat) (S : Mem) (pc : Nat) (ls st : List Value) : Prop := ∀ (ad : Nat → Nat) (H : Heap) (locs : List Loc) (lsA : Array Slot) (cells slots : Nat), Wd κ rc rs S ad H locs cells slots → Lo κ S ad lsA ls → (∀ v ∈ st, rb (mN S) v) → WW κ H locs cells slots (F0 (km κ) pc lsA (st.map (cv ad)))
def rtOk (ret : Option FieldType) (r : Option Value) (ins : Instr) : Prop := (ret = none ∧ r = none ∧ ins = .return_) ∨ (ret = some .int ∧ (∃ v, r = some (.int v)) ∧ ins = .ireturn) ∨ (ret = some .boolean ∧ (∃ v, r = some (.int v) ∧ (v = 0 ∨ v = 1)) ∧ ins = .ireturn) ∨ ((∃ n, ret = some (.object n)) ∧ (∃ q : Option Nat, r = some (va_rf q)) ∧ ins = .areturn)
def RH (cc : ByteArray) (ret : Option FieldType) (Φ : Option Value → Mem → Prop) (κ : Kx) : Prop := ∀ (r : Option Value) (S : Mem) (ad : Nat → Nat) (H : Heap) (locs : List Loc) (lsA : Array Slot) (cells slots pc : Nat) (ins : Instr), Wd κ 0 0 S ad H locs cells slots → (∀ v ∈ r.toList, rb (mN S) v) → Φ r S → rtOk ret r ins → decode cc pc = .ok (ins, 1) → WW κ H locs cells slots (F0 (km κ) pc lsA (r.toList.map (cv ad)))
/-- what stands over a whole method -/
def Cx (own : String) (cc : ByteArray) (nL : Nat) (ret : Option FieldType) (d : Nat) (ini : Bool) (Φ : Option Value → Mem → Prop) (κ : Kx) : Prop :=
  CallFix (kp κ) (km κ) (kc κ) cc nL (ks κ) (ka κ) UT own ∧ (va_K (kD κ) CL (tys4 (k4 κ)) (ks κ) ∧ (∀ q ∈ NW, va_Nw (.methodLinkNest q.1 q.2.1 q.2.2.1 q.2.2.2) (ks κ)) ∧ va_AO RX2 (ks κ)) ∧ ((∀ q, (ks κ).heap.size ≤ q → kA κ q) ∧ kmc κ ≤ (kR κ).cells ∧ kms κ ≤ (kR κ).slots) ∧ (d ≤ (kR κ).frames ∧ 40 * d ≤ (kR κ).locals) ∧ (ini = true → (kh κ).name = "<init>") ∧ RH cc ret Φ κ
theorem rb_t {n : Nat} {a : Value} {st : List Value} (h : ∀ v ∈ a :: st, rb n v) : ∀ v ∈ st, rb n v := fun v hv => h v (List.mem_cons_of_mem _ hv)
theorem rb_i {n : Nat} {x : Int32} {st : List Value} (h : ∀ v ∈ st, rb n v) : ∀ v ∈ .int x :: st, rb n v := fun v hv => by
  rcases List.mem_cons.mp hv with rfl | q
  · trivial
  · exact h v q
theorem rb_l {n : Nat} {x : Int64} {st : List Value} (h : ∀ v ∈ st, rb n v) : ∀ v ∈ .long x :: st, rb n v := fun v hv => by
  rcases List.mem_cons.mp hv with rfl | q
  · trivial
  · exact h v q
theorem rb_c {n : Nat} {a : Value} {st : List Value} (ha : rb n a) (h : ∀ v ∈ st, rb n v) : ∀ v ∈ a :: st, rb n v := fun v hv => by
  rcases List.mem_cons.mp hv with rfl | q
  · exact ha
  · exact h v q
theorem rb_h {n : Nat} {a : Value} {st : List Value} (h : ∀ v ∈ a :: st, rb n v) : rb n a := h a List.mem_cons_self
section ROWS
variable {own : String} {cc : ByteArray} {nL : Nat} {ret : Option FieldType} {d : Nat} {ini : Bool} {Φ : Option Value → Mem → Prop} {κ : Kx} {rc rs : Nat} {S : Mem} {pc q : Nat} {ls st : List Value}

theorem g_iconst (C : Cx own cc nL ret d ini Φ κ) {n : Int} {v : Int32} (hd : decode cc pc = .ok (.iconst n, 1)) (hq : pc + 1 = q) (hv : Int32.ofInt n = v) (k : G κ rc rs S q ls (.int v :: st)) : G κ rc rs S pc ls (st) := by
  subst hq
  intro ad H locs lsA cells slots hw hl hs
  exact lv_iconst C.1.1 C.1.2.1 hd hv (k ad H locs lsA cells slots hw hl (rb_i hs))
theorem g_bipush (C : Cx own cc nL ret d ini Φ κ) {n : Int} {v : Int32} (hd : decode cc pc = .ok (.bipush n, 2)) (hq : pc + 2 = q) (hv : (Int8.ofInt n).toInt32 = v) (k : G κ rc rs S q ls (.int v :: st)) : G κ rc rs S pc ls (st) := by
  subst hq
  intro ad H locs lsA cells slots hw hl hs
  exact lv_bipush C.1.1 C.1.2.1 hd hv (k ad H locs lsA cells slots hw hl (rb_i hs))
theorem g_sipush (C : Cx own cc nL ret d ini Φ κ) {n : Int} {v : Int32} (hd : decode cc pc = .ok (.sipush n, 3)) (hq : pc + 3 = q) (hv : (Int16.ofInt n).toInt32 = v) (k : G κ rc rs S q ls (.int v :: st)) : G κ rc rs S pc ls (st) := by
  subst hq
  intro ad H locs lsA cells slots hw hl hs
  exact lv_sipush C.1.1 C.1.2.1 hd hv (k ad H locs lsA cells slots hw hl (rb_i hs))
theorem g_lconst (C : Cx own cc nL ret d ini Φ κ) {n : Fin 2} {v : Int64} (hd : decode cc pc = .ok (.lconst n, 1)) (hq : pc + 1 = q) (hv : Int64.ofNat (n : Nat) = v) (k : G κ rc rs S q ls (.long v :: st)) : G κ rc rs S pc ls (st) := by
  subst hq
  intro ad H locs lsA cells slots hw hl hs
  exact lv_lconst C.1.1 C.1.2.1 hd hv (k ad H locs lsA cells slots hw hl (rb_l hs))
theorem g_null (C : Cx own cc nL ret d ini Φ κ)  (hd : decode cc pc = .ok (.aconst_null, 1)) (hq : pc + 1 = q)  (k : G κ rc rs S q ls (.null :: st)) : G κ rc rs S pc ls (st) := by
  subst hq
  intro ad H locs lsA cells slots hw hl hs
  exact lv_null C.1.1 C.1.2.1 hd (k ad H locs lsA cells slots hw hl (rb_c trivial hs))
theorem g_ldc (C : Cx own cc nL ret d ini Φ κ) {index : Nat} {v : Int32} (hd : decode cc pc = .ok (.ldc index, 2)) (hq : pc + 2 = q) (hu : Cond.constant own index v ∈ UT) (k : G κ rc rs S q ls (.int v :: st)) : G κ rc rs S pc ls (st) := by
  subst hq
  intro ad H locs lsA cells slots hw hl hs
  exact lv_ldc C.1.1 C.1.2.1 C.1.2.2.2.1 (C.1.2.2.2.2 _ hu) hd (k ad H locs lsA cells slots hw hl (rb_i hs))
theorem g_ldcw (C : Cx own cc nL ret d ini Φ κ) {index : Nat} {v : Int32} (hd : decode cc pc = .ok (.ldc_w index, 3)) (hq : pc + 3 = q) (hu : Cond.constant own index v ∈ UT) (k : G κ rc rs S q ls (.int v :: st)) : G κ rc rs S pc ls (st) := by
  subst hq
  intro ad H locs lsA cells slots hw hl hs
  exact lv_ldcw C.1.1 C.1.2.1 C.1.2.2.2.1 (C.1.2.2.2.2 _ hu) hd (k ad H locs lsA cells slots hw hl (rb_i hs))
theorem g_ldc2 (C : Cx own cc nL ret d ini Φ κ) {index : Nat} {v : Int64} (hd : decode cc pc = .ok (.ldc2_w index, 3)) (hq : pc + 3 = q) (hu : Cond.constantLong own index v ∈ UT) (k : G κ rc rs S q ls (.long v :: st)) : G κ rc rs S pc ls (st) := by
  subst hq
  intro ad H locs lsA cells slots hw hl hs
  exact lv_ldc2 C.1.1 C.1.2.1 C.1.2.2.2.1 (C.1.2.2.2.2 _ hu) hd (k ad H locs lsA cells slots hw hl (rb_l hs))
theorem g_iadd (C : Cx own cc nL ret d ini Φ κ) {x y : Int32} (hd : decode cc pc = .ok (.iadd, 1)) (hq : pc + 1 = q)  (k : G κ rc rs S q ls (.int (x + y) :: st)) : G κ rc rs S pc ls (.int y :: .int x :: st) := by
  subst hq
  intro ad H locs lsA cells slots hw hl hs
  exact lv_iadd C.1.1 C.1.2.1 hd (k ad H locs lsA cells slots hw hl (rb_i (rb_t (rb_t hs))))
theorem g_isub (C : Cx own cc nL ret d ini Φ κ) {x y : Int32} (hd : decode cc pc = .ok (.isub, 1)) (hq : pc + 1 = q)  (k : G κ rc rs S q ls (.int (x - y) :: st)) : G κ rc rs S pc ls (.int y :: .int x :: st) := by
  subst hq
  intro ad H locs lsA cells slots hw hl hs
  exact lv_isub C.1.1 C.1.2.1 hd (k ad H locs lsA cells slots hw hl (rb_i (rb_t (rb_t hs))))
theorem g_imul (C : Cx own cc nL ret d ini Φ κ) {x y : Int32} (hd : decode cc pc = .ok (.imul, 1)) (hq : pc + 1 = q)  (k : G κ rc rs S q ls (.int (x * y) :: st)) : G κ rc rs S pc ls (.int y :: .int x :: st) := by
  subst hq
  intro ad H locs lsA cells slots hw hl hs
  exact lv_imul C.1.1 C.1.2.1 hd (k ad H locs lsA cells slots hw hl (rb_i (rb_t (rb_t hs))))
theorem g_iand (C : Cx own cc nL ret d ini Φ κ) {x y : Int32} (hd : decode cc pc = .ok (.iand, 1)) (hq : pc + 1 = q)  (k : G κ rc rs S q ls (.int (x &&& y) :: st)) : G κ rc rs S pc ls (.int y :: .int x :: st) := by
  subst hq
  intro ad H locs lsA cells slots hw hl hs
  exact lv_iand C.1.1 C.1.2.1 hd (k ad H locs lsA cells slots hw hl (rb_i (rb_t (rb_t hs))))
theorem g_ior (C : Cx own cc nL ret d ini Φ κ) {x y : Int32} (hd : decode cc pc = .ok (.ior, 1)) (hq : pc + 1 = q)  (k : G κ rc rs S q ls (.int (x ||| y) :: st)) : G κ rc rs S pc ls (.int y :: .int x :: st) := by
  subst hq
  intro ad H locs lsA cells slots hw hl hs
  exact lv_ior C.1.1 C.1.2.1 hd (k ad H locs lsA cells slots hw hl (rb_i (rb_t (rb_t hs))))
theorem g_ixor (C : Cx own cc nL ret d ini Φ κ) {x y : Int32} (hd : decode cc pc = .ok (.ixor, 1)) (hq : pc + 1 = q)  (k : G κ rc rs S q ls (.int (x ^^^ y) :: st)) : G κ rc rs S pc ls (.int y :: .int x :: st) := by
  subst hq
  intro ad H locs lsA cells slots hw hl hs
  exact lv_ixor C.1.1 C.1.2.1 hd (k ad H locs lsA cells slots hw hl (rb_i (rb_t (rb_t hs))))
theorem g_ishl (C : Cx own cc nL ret d ini Φ κ) {x y : Int32} (hd : decode cc pc = .ok (.ishl, 1)) (hq : pc + 1 = q)  (k : G κ rc rs S q ls (.int (x <<< (y &&& 31)) :: st)) : G κ rc rs S pc ls (.int y :: .int x :: st) := by
  subst hq
  intro ad H locs lsA cells slots hw hl hs
  exact lv_ishl C.1.1 C.1.2.1 hd (k ad H locs lsA cells slots hw hl (rb_i (rb_t (rb_t hs))))
theorem g_ishr (C : Cx own cc nL ret d ini Φ κ) {x y : Int32} (hd : decode cc pc = .ok (.ishr, 1)) (hq : pc + 1 = q)  (k : G κ rc rs S q ls (.int (x >>> (y &&& 31)) :: st)) : G κ rc rs S pc ls (.int y :: .int x :: st) := by
  subst hq
  intro ad H locs lsA cells slots hw hl hs
  exact lv_ishr C.1.1 C.1.2.1 hd (k ad H locs lsA cells slots hw hl (rb_i (rb_t (rb_t hs))))
theorem g_iushr (C : Cx own cc nL ret d ini Φ κ) {x y : Int32} (hd : decode cc pc = .ok (.iushr, 1)) (hq : pc + 1 = q)  (k : G κ rc rs S q ls (.int ((x.toUInt32 >>> (y.toUInt32 &&& Int32.toUInt32 31)).toInt32) :: st)) : G κ rc rs S pc ls (.int y :: .int x :: st) := by
  subst hq
  intro ad H locs lsA cells slots hw hl hs
  exact lv_iushr C.1.1 C.1.2.1 hd rfl (k ad H locs lsA cells slots hw hl (rb_i (rb_t (rb_t hs))))
theorem g_idiv (C : Cx own cc nL ret d ini Φ κ) {x y : Int32} (hd : decode cc pc = .ok (.idiv, 1)) (hq : pc + 1 = q) (hne : ¬ y = 0) (k : G κ rc rs S q ls (.int (x / y) :: st)) : G κ rc rs S pc ls (.int y :: .int x :: st) := by
  subst hq
  intro ad H locs lsA cells slots hw hl hs
  exact lv_idiv C.1.1 C.1.2.1 hd hne (k ad H locs lsA cells slots hw hl (rb_i (rb_t (rb_t hs))))
theorem g_irem (C : Cx own cc nL ret d ini Φ κ) {x y : Int32} (hd : decode cc pc = .ok (.irem, 1)) (hq : pc + 1 = q) (hne : ¬ y = 0) (k : G κ rc rs S q ls (.int (x - x / y * y) :: st)) : G κ rc rs S pc ls (.int y :: .int x :: st) := by
  subst hq
  intro ad H locs lsA cells slots hw hl hs
  exact lv_irem C.1.1 C.1.2.1 hd hne (k ad H locs lsA cells slots hw hl (rb_i (rb_t (rb_t hs))))
theorem g_ladd (C : Cx own cc nL ret d ini Φ κ) {x y : Int64} (hd : decode cc pc = .ok (.ladd, 1)) (hq : pc + 1 = q)  (k : G κ rc rs S q ls (.long (x + y) :: st)) : G κ rc rs S pc ls (.long y :: .long x :: st) := by
  subst hq
  intro ad H locs lsA cells slots hw hl hs
  exact lv_ladd C.1.1 C.1.2.1 hd (k ad H locs lsA cells slots hw hl (rb_l (rb_t (rb_t hs))))
theorem g_lsub (C : Cx own cc nL ret d ini Φ κ) {x y : Int64} (hd : decode cc pc = .ok (.lsub, 1)) (hq : pc + 1 = q)  (k : G κ rc rs S q ls (.long (x - y) :: st)) : G κ rc rs S pc ls (.long y :: .long x :: st) := by
  subst hq
  intro ad H locs lsA cells slots hw hl hs
  exact lv_lsub C.1.1 C.1.2.1 hd (k ad H locs lsA cells slots hw hl (rb_l (rb_t (rb_t hs))))
theorem g_lmul (C : Cx own cc nL ret d ini Φ κ) {x y : Int64} (hd : decode cc pc = .ok (.lmul, 1)) (hq : pc + 1 = q)  (k : G κ rc rs S q ls (.long (x * y) :: st)) : G κ rc rs S pc ls (.long y :: .long x :: st) := by
  subst hq
  intro ad H locs lsA cells slots hw hl hs
  exact lv_lmul C.1.1 C.1.2.1 hd (k ad H locs lsA cells slots hw hl (rb_l (rb_t (rb_t hs))))
theorem g_land (C : Cx own cc nL ret d ini Φ κ) {x y : Int64} (hd : decode cc pc = .ok (.land, 1)) (hq : pc + 1 = q)  (k : G κ rc rs S q ls (.long (x &&& y) :: st)) : G κ rc rs S pc ls (.long y :: .long x :: st) := by
  subst hq
  intro ad H locs lsA cells slots hw hl hs
  exact lv_land C.1.1 C.1.2.1 hd (k ad H locs lsA cells slots hw hl (rb_l (rb_t (rb_t hs))))
theorem g_ldiv (C : Cx own cc nL ret d ini Φ κ) {x y : Int64} (hd : decode cc pc = .ok (.ldiv, 1)) (hq : pc + 1 = q) (hne : ¬ y = 0) (k : G κ rc rs S q ls (.long (x / y) :: st)) : G κ rc rs S pc ls (.long y :: .long x :: st) := by
  subst hq
  intro ad H locs lsA cells slots hw hl hs
  exact lv_ldiv C.1.1 C.1.2.1 hd hne (k ad H locs lsA cells slots hw hl (rb_l (rb_t (rb_t hs))))
theorem g_lrem (C : Cx own cc nL ret d ini Φ κ) {x y : Int64} (hd : decode cc pc = .ok (.lrem, 1)) (hq : pc + 1 = q) (hne : ¬ y = 0) (k : G κ rc rs S q ls (.long (x - x / y * y) :: st)) : G κ rc rs S pc ls (.long y :: .long x :: st) := by
  subst hq
  intro ad H locs lsA cells slots hw hl hs
  exact lv_lrem C.1.1 C.1.2.1 hd hne (k ad H locs lsA cells slots hw hl (rb_l (rb_t (rb_t hs))))
theorem g_i2l (C : Cx own cc nL ret d ini Φ κ) {x : Int32} (hd : decode cc pc = .ok (.i2l, 1)) (hq : pc + 1 = q)  (k : G κ rc rs S q ls (.long x.toInt64 :: st)) : G κ rc rs S pc ls (.int x :: st) := by
  subst hq
  intro ad H locs lsA cells slots hw hl hs
  exact lv_i2l C.1.1 C.1.2.1 hd rfl (k ad H locs lsA cells slots hw hl (rb_l (rb_t hs)))
theorem g_l2i (C : Cx own cc nL ret d ini Φ κ) {x : Int64} (hd : decode cc pc = .ok (.l2i, 1)) (hq : pc + 1 = q)  (k : G κ rc rs S q ls (.int x.toInt32 :: st)) : G κ rc rs S pc ls (.long x :: st) := by
  subst hq
  intro ad H locs lsA cells slots hw hl hs
  exact lv_l2i C.1.1 C.1.2.1 hd rfl (k ad H locs lsA cells slots hw hl (rb_i (rb_t hs)))
theorem g_dup (C : Cx own cc nL ret d ini Φ κ) {a : Value} (hd : decode cc pc = .ok (.dup, 1)) (hq : pc + 1 = q) (ha : a.category = 1) (k : G κ rc rs S q ls (a :: a :: st)) : G κ rc rs S pc ls (a :: st) := by
  subst hq
  intro ad H locs lsA cells slots hw hl hs
  exact lv_dup C.1.1 C.1.2.1 hd ((cv_cat _ _).trans ha) (k ad H locs lsA cells slots hw hl (rb_c (rb_h hs) hs))
theorem g_dup2 (C : Cx own cc nL ret d ini Φ κ) {a b : Value} (hd : decode cc pc = .ok (.dup2, 1)) (hq : pc + 1 = q) (ha : a.category = 1) (hb : b.category = 1) (k : G κ rc rs S q ls (a :: b :: a :: b :: st)) : G κ rc rs S pc ls (a :: b :: st) := by
  subst hq
  intro ad H locs lsA cells slots hw hl hs
  exact lv_dup2_11 C.1.1 C.1.2.1 hd ((cv_cat _ _).trans ha) ((cv_cat _ _).trans hb) (k ad H locs lsA cells slots hw hl (rb_c (rb_h hs) (rb_c (rb_h (rb_t hs)) hs)))
theorem g_if_eq (C : Cx own cc nL ret d ini Φ κ) {x : Int32} {off : Int} {tgt : Nat} (hd : decode cc pc = .ok (.ifCond .eq off, 3)) (hq : pc + 3 = q) (ht : (pc : Int) + off = (tgt : Int)) (kt : x = 0 → G κ rc rs S tgt ls st) (kf : ¬ (x = 0) → G κ rc rs S q ls st) : G κ rc rs S pc ls (.int x :: st) := by
  subst hq
  intro ad H locs lsA cells slots hw hl hs
  exact lv_if_eq C.1.1 C.1.2.1 hd ht (fun h => kt h ad H locs lsA cells slots hw hl (rb_t hs)) (fun h => kf h ad H locs lsA cells slots hw hl (rb_t hs))
theorem g_if_lt (C : Cx own cc nL ret d ini Φ κ) {x : Int32} {off : Int} {tgt : Nat} (hd : decode cc pc = .ok (.ifCond .lt off, 3)) (hq : pc + 3 = q) (ht : (pc : Int) + off = (tgt : Int)) (kt : x < 0 → G κ rc rs S tgt ls st) (kf : ¬ (x < 0) → G κ rc rs S q ls st) : G κ rc rs S pc ls (.int x :: st) := by
  subst hq
  intro ad H locs lsA cells slots hw hl hs
  exact lv_if_lt C.1.1 C.1.2.1 hd ht (fun h => kt h ad H locs lsA cells slots hw hl (rb_t hs)) (fun h => kf h ad H locs lsA cells slots hw hl (rb_t hs))
theorem g_if_ge (C : Cx own cc nL ret d ini Φ κ) {x : Int32} {off : Int} {tgt : Nat} (hd : decode cc pc = .ok (.ifCond .ge off, 3)) (hq : pc + 3 = q) (ht : (pc : Int) + off = (tgt : Int)) (kt : 0 ≤ x → G κ rc rs S tgt ls st) (kf : ¬ (0 ≤ x) → G κ rc rs S q ls st) : G κ rc rs S pc ls (.int x :: st) := by
  subst hq
  intro ad H locs lsA cells slots hw hl hs
  exact lv_if_ge C.1.1 C.1.2.1 hd ht (fun h => kt h ad H locs lsA cells slots hw hl (rb_t hs)) (fun h => kf h ad H locs lsA cells slots hw hl (rb_t hs))
theorem g_if_gt (C : Cx own cc nL ret d ini Φ κ) {x : Int32} {off : Int} {tgt : Nat} (hd : decode cc pc = .ok (.ifCond .gt off, 3)) (hq : pc + 3 = q) (ht : (pc : Int) + off = (tgt : Int)) (kt : 0 < x → G κ rc rs S tgt ls st) (kf : ¬ (0 < x) → G κ rc rs S q ls st) : G κ rc rs S pc ls (.int x :: st) := by
  subst hq
  intro ad H locs lsA cells slots hw hl hs
  exact lv_if_gt C.1.1 C.1.2.1 hd ht (fun h => kt h ad H locs lsA cells slots hw hl (rb_t hs)) (fun h => kf h ad H locs lsA cells slots hw hl (rb_t hs))
theorem g_if_le (C : Cx own cc nL ret d ini Φ κ) {x : Int32} {off : Int} {tgt : Nat} (hd : decode cc pc = .ok (.ifCond .le off, 3)) (hq : pc + 3 = q) (ht : (pc : Int) + off = (tgt : Int)) (kt : x ≤ 0 → G κ rc rs S tgt ls st) (kf : ¬ (x ≤ 0) → G κ rc rs S q ls st) : G κ rc rs S pc ls (.int x :: st) := by
  subst hq
  intro ad H locs lsA cells slots hw hl hs
  exact lv_if_le C.1.1 C.1.2.1 hd ht (fun h => kt h ad H locs lsA cells slots hw hl (rb_t hs)) (fun h => kf h ad H locs lsA cells slots hw hl (rb_t hs))
theorem g_icmp_eq (C : Cx own cc nL ret d ini Φ κ) {x y : Int32} {off : Int} {tgt : Nat} (hd : decode cc pc = .ok (.if_icmp .eq off, 3)) (hq : pc + 3 = q) (ht : (pc : Int) + off = (tgt : Int)) (kt : x = y → G κ rc rs S tgt ls st) (kf : ¬ (x = y) → G κ rc rs S q ls st) : G κ rc rs S pc ls (.int y :: .int x :: st) := by
  subst hq
  intro ad H locs lsA cells slots hw hl hs
  exact lv_icmp_eq C.1.1 C.1.2.1 hd ht (fun h => kt h ad H locs lsA cells slots hw hl (rb_t (rb_t hs))) (fun h => kf h ad H locs lsA cells slots hw hl (rb_t (rb_t hs)))
theorem g_icmp_lt (C : Cx own cc nL ret d ini Φ κ) {x y : Int32} {off : Int} {tgt : Nat} (hd : decode cc pc = .ok (.if_icmp .lt off, 3)) (hq : pc + 3 = q) (ht : (pc : Int) + off = (tgt : Int)) (kt : x < y → G κ rc rs S tgt ls st) (kf : ¬ (x < y) → G κ rc rs S q ls st) : G κ rc rs S pc ls (.int y :: .int x :: st) := by
  subst hq
  intro ad H locs lsA cells slots hw hl hs
  exact lv_icmp_lt C.1.1 C.1.2.1 hd ht (fun h => kt h ad H locs lsA cells slots hw hl (rb_t (rb_t hs))) (fun h => kf h ad H locs lsA cells slots hw hl (rb_t (rb_t hs)))
theorem g_icmp_ge (C : Cx own cc nL ret d ini Φ κ) {x y : Int32} {off : Int} {tgt : Nat} (hd : decode cc pc = .ok (.if_icmp .ge off, 3)) (hq : pc + 3 = q) (ht : (pc : Int) + off = (tgt : Int)) (kt : y ≤ x → G κ rc rs S tgt ls st) (kf : ¬ (y ≤ x) → G κ rc rs S q ls st) : G κ rc rs S pc ls (.int y :: .int x :: st) := by
  subst hq
  intro ad H locs lsA cells slots hw hl hs
  exact lv_icmp_ge C.1.1 C.1.2.1 hd ht (fun h => kt h ad H locs lsA cells slots hw hl (rb_t (rb_t hs))) (fun h => kf h ad H locs lsA cells slots hw hl (rb_t (rb_t hs)))
theorem g_icmp_gt (C : Cx own cc nL ret d ini Φ κ) {x y : Int32} {off : Int} {tgt : Nat} (hd : decode cc pc = .ok (.if_icmp .gt off, 3)) (hq : pc + 3 = q) (ht : (pc : Int) + off = (tgt : Int)) (kt : y < x → G κ rc rs S tgt ls st) (kf : ¬ (y < x) → G κ rc rs S q ls st) : G κ rc rs S pc ls (.int y :: .int x :: st) := by
  subst hq
  intro ad H locs lsA cells slots hw hl hs
  exact lv_icmp_gt C.1.1 C.1.2.1 hd ht (fun h => kt h ad H locs lsA cells slots hw hl (rb_t (rb_t hs))) (fun h => kf h ad H locs lsA cells slots hw hl (rb_t (rb_t hs)))
theorem g_icmp_le (C : Cx own cc nL ret d ini Φ κ) {x y : Int32} {off : Int} {tgt : Nat} (hd : decode cc pc = .ok (.if_icmp .le off, 3)) (hq : pc + 3 = q) (ht : (pc : Int) + off = (tgt : Int)) (kt : x ≤ y → G κ rc rs S tgt ls st) (kf : ¬ (x ≤ y) → G κ rc rs S q ls st) : G κ rc rs S pc ls (.int y :: .int x :: st) := by
  subst hq
  intro ad H locs lsA cells slots hw hl hs
  exact lv_icmp_le C.1.1 C.1.2.1 hd ht (fun h => kt h ad H locs lsA cells slots hw hl (rb_t (rb_t hs))) (fun h => kf h ad H locs lsA cells slots hw hl (rb_t (rb_t hs)))
theorem g_goto (C : Cx own cc nL ret d ini Φ κ) {off : Int} {tgt : Nat} (hd : decode cc pc = .ok (.goto off, 3)) (ht : (pc : Int) + off = (tgt : Int)) (k : G κ rc rs S tgt ls st) : G κ rc rs S pc ls st := by
  intro ad H locs lsA cells slots hw hl hs
  exact lv_goto C.1.1 C.1.2.1 hd ht (k ad H locs lsA cells slots hw hl hs)
theorem g_nonnull (C : Cx own cc nL ret d ini Φ κ) {r : Option Nat} {off : Int} {tgt : Nat} (hd : decode cc pc = .ok (.ifnonnull off, 3)) (hq : pc + 3 = q) (ht : (pc : Int) + off = (tgt : Int)) (kt : ∀ x, r = some x → G κ rc rs S tgt ls st) (kf : r = none → G κ rc rs S q ls st) : G κ rc rs S pc ls (va_rf r :: st) := by
  subst hq
  intro ad H locs lsA cells slots hw hl hs
  cases r with
  | none => exact lv_ifnonnullN C.1.1 C.1.2.1 hd (kf rfl ad H locs lsA cells slots hw hl (rb_t hs))
  | some x => exact lv_ifnonnull C.1.1 C.1.2.1 hd ht (kt x rfl ad H locs lsA cells slots hw hl (rb_t hs))
theorem g_tableIn (C : Cx own cc nL ret d ini Φ κ) {dflt lo hi : Int} {offs : Array Int} {len : Nat} {x : Int32} {off : Int} {tgt : Nat} (hd : decode cc pc = .ok (.tableswitch dflt lo hi offs, len)) (h1 : ¬ x.toInt < lo) (h2 : ¬ hi < x.toInt) (ho : offs[(x.toInt - lo).toNat]? = some off) (ht : (pc : Int) + off = (tgt : Int)) (k : G κ rc rs S tgt ls st) : G κ rc rs S pc ls (.int x :: st) := by
  intro ad H locs lsA cells slots hw hl hs
  exact lv_tableIn C.1.1 C.1.2.1 hd h1 h2 ho ht (k ad H locs lsA cells slots hw hl (rb_t hs))
theorem g_tableOut (C : Cx own cc nL ret d ini Φ κ) {dflt lo hi : Int} {offs : Array Int} {len : Nat} {x : Int32} {tgt : Nat} (hd : decode cc pc = .ok (.tableswitch dflt lo hi offs, len)) (h : x.toInt < lo ∨ hi < x.toInt) (ht : (pc : Int) + dflt = (tgt : Int)) (k : G κ rc rs S tgt ls st) : G κ rc rs S pc ls (.int x :: st) := by
  intro ad H locs lsA cells slots hw hl hs
  exact lv_tableOut C.1.1 C.1.2.1 hd h ht (k ad H locs lsA cells slots hw hl (rb_t hs))
theorem g_lcmp (C : Cx own cc nL ret d ini Φ κ) {x y : Int64} (hd : decode cc pc = .ok (.lcmp, 1)) (hq : pc + 1 = q) (k : G κ rc rs S q ls (.int (lg_cmp x y) :: st)) : G κ rc rs S pc ls (.long y :: .long x :: st) := by
  subst hq
  intro ad H locs lsA cells slots hw hl hs
  exact W.lcmp C.1.1 C.1.2.1 hd (k ad H locs lsA cells slots hw hl (rb_i (rb_t (rb_t hs))))
theorem g_if_ne (C : Cx own cc nL ret d ini Φ κ) {x : Int32} {off : Int} {tgt : Nat} (hd : decode cc pc = .ok (.ifCond .ne off, 3)) (hq : pc + 3 = q) (ht : (pc : Int) + off = (tgt : Int)) (kt : ¬ x = 0 → G κ rc rs S tgt ls st) (kf : x = 0 → G κ rc rs S q ls st) : G κ rc rs S pc ls (.int x :: st) := by
  subst hq
  intro ad H locs lsA cells slots hw hl hs
  exact lv_if_ne C.1.1 C.1.2.1 hd ht (fun h => kt h ad H locs lsA cells slots hw hl (rb_t hs)) (fun h => kf h ad H locs lsA cells slots hw hl (rb_t hs))
theorem g_icmp_ne (C : Cx own cc nL ret d ini Φ κ) {x y : Int32} {off : Int} {tgt : Nat} (hd : decode cc pc = .ok (.if_icmp .ne off, 3)) (hq : pc + 3 = q) (ht : (pc : Int) + off = (tgt : Int)) (kt : ¬ x = y → G κ rc rs S tgt ls st) (kf : x = y → G κ rc rs S q ls st) : G κ rc rs S pc ls (.int y :: .int x :: st) := by
  subst hq
  intro ad H locs lsA cells slots hw hl hs
  exact lv_icmp_ne C.1.1 C.1.2.1 hd ht (fun h => kt h ad H locs lsA cells slots hw hl (rb_t (rb_t hs))) (fun h => kf h ad H locs lsA cells slots hw hl (rb_t (rb_t hs)))
theorem g_ret (C : Cx own cc nL ret d ini Φ κ) {r : Option Value} {ins : Instr} (hd : decode cc pc = .ok (ins, 1)) (hr : rtOk ret r ins) (hΦ : Φ r S) (hst : r.toList = st) : G κ rc rs S pc ls st := by
  subst hst
  intro ad H locs lsA cells slots hw hl hs
  exact C.2.2.2.2.2 r S ad H locs lsA cells slots pc ins ⟨hw.1, hw.2.1, hw.2.2.1, hw.2.2.2.1, hw.2.2.2.2.1, hw.2.2.2.2.2.1, hw.2.2.2.2.2.2.1, Nat.le_trans (Nat.add_le_add_left (Nat.zero_le _) _) hw.2.2.2.2.2.2.2.1, Nat.le_trans (Nat.add_le_add_left (Nat.zero_le _) _) hw.2.2.2.2.2.2.2.2⟩ hs hΦ hr hd
theorem g_iret (C : Cx own cc nL ret d ini Φ κ) {v : Int32} (hret : ret = some .int) (hd : decode cc pc = .ok (.ireturn, 1)) (hΦ : Φ (some (.int v)) S) : G κ rc rs S pc ls [.int v] := g_ret C hd (Or.inr (Or.inl ⟨hret, ⟨v, rfl⟩, rfl⟩)) hΦ rfl
theorem g_zret (C : Cx own cc nL ret d ini Φ κ) {v : Int32} (hret : ret = some .boolean) (hd : decode cc pc = .ok (.ireturn, 1)) (h01 : v = 0 ∨ v = 1) (hΦ : Φ (some (.int v)) S) : G κ rc rs S pc ls [.int v] := g_ret C hd (Or.inr (Or.inr (Or.inl ⟨hret, ⟨v, rfl, h01⟩, rfl⟩))) hΦ rfl
theorem g_vret (C : Cx own cc nL ret d ini Φ κ) (hret : ret = none) (hd : decode cc pc = .ok (.return_, 1)) (hΦ : Φ none S) : G κ rc rs S pc ls [] := g_ret C hd (Or.inl ⟨hret, rfl, rfl⟩) hΦ rfl
theorem g_aret (C : Cx own cc nL ret d ini Φ κ) {x : Option Nat} {nm : String} (hret : ret = some (.object nm)) (hd : decode cc pc = .ok (.areturn, 1)) (hΦ : Φ (some (va_rf x)) S) : G κ rc rs S pc ls [va_rf x] := g_ret C hd (Or.inr (Or.inr (Or.inr ⟨⟨nm, hret⟩, ⟨x, rfl⟩, rfl⟩))) hΦ rfl
def lvx (κ : Kx) : List (Nat × Value) := match kx κ with | some b => [(0, .ref b)] | none => []
def lvp (ad : Nat → Nat) (ls : List Value) : List (Nat × Value) := (List.range ls.length).filterMap (fun i => (ls[i]?).bind (fun v => if isF v = true then none else some (i, cv ad v)))
theorem lvp_mem {ad : Nat → Nat} {q : Nat × Value} : q ∈ lvp ad ls ↔ ∃ v, ls[q.1]? = some v ∧ isF v = false ∧ q.2 = cv ad v := by
  unfold lvp
  rw [List.mem_filterMap]
  constructor
  · rintro ⟨i, -, hi⟩
    cases hv : ls[i]? with
    | none => rw [hv] at hi; cases hi
    | some v =>
      rw [hv, Option.bind_some] at hi
      by_cases hf : isF v = true
      · rw [if_pos hf] at hi; cases hi
      · rw [if_neg hf] at hi
        cases hi
        exact ⟨v, hv, by simpa using hf, rfl⟩
  · rintro ⟨v, hv, hf, he⟩
    refine ⟨q.1, List.mem_range.mpr (List.getElem?_eq_some_iff.mp hv).1, ?_⟩
    rw [hv, Option.bind_some, if_neg (by rw [hf]; decide), ← he]
theorem Lo.has {ad : Nat → Nat} {lsA : Array Slot} (h : Lo κ S ad lsA ls) : lv_has lsA (kc κ).maxLocals (lvx κ ++ lvp ad ls) := by
  obtain ⟨⟨h1, h2, h3, h4⟩, h5, h6⟩ := h
  refine ⟨h1, h2, fun q hq => ?_⟩
  rcases List.mem_append.mp hq with hq | hq
  · unfold lvx at hq
    cases hx : kx κ with
    | none => rw [hx] at hq; cases hq
    | some b =>
      rw [hx] at hq
      rcases List.mem_singleton.mp hq with rfl
      exact h6 b hx
  · obtain ⟨v, e1, e2, e3⟩ := lvp_mem.mp hq
    rw [e3]
    exact h4 q.1 v e1 e2
theorem Lo.st1 {ad : Nat → Nat} {lsA lsB : Array Slot} {i : Nat} {x : Value} (h : Lo κ S ad lsA ls) (h0 : i ≠ 0 ∨ kx κ = none) (hi : i < ls.length) (hnl : ∀ v, 0 < i → ls[i - 1]? = some v → isLg v = false) (hx : rb (mN S) x) (h' : lv_has lsB (kc κ).maxLocals ((i, cv ad x) :: (lvx κ ++ lvp ad ls).filter (fun q => !(q.1 == i) && !(q.1 + 1 == i && q.2.category == 2)))) : Lo κ S ad lsB (ls.set i x) := by
  obtain ⟨⟨h1, h2, h3, h4⟩, h5, h6⟩ := h
  obtain ⟨g1, g2, g3⟩ := h'
  refine ⟨⟨g1, g2, by rw [List.length_set]; exact h3, fun j v hj hv => ?_⟩, fun v hv => ?_, fun b hb => ?_⟩
  · by_cases hji : j = i
    · subst hji
      rw [List.getElem?_set_self hi] at hj
      cases hj
      exact g3 (j, cv ad x) List.mem_cons_self
    · rw [List.getElem?_set_ne (Ne.symm hji)] at hj
      refine g3 (j, cv ad v) (List.mem_cons_of_mem _ (List.mem_filter.mpr ⟨List.mem_append_right _ (lvp_mem.mpr ⟨v, hj, hv, rfl⟩), ?_⟩))
      have hnc : ¬ (j + 1 = i ∧ (cv ad v).category = 2) := by
        rintro ⟨e1, e2⟩
        subst e1
        have := hnl v (Nat.succ_pos j) (by simpa using hj)
        rw [cv_cat] at e2
        cases v <;> simp [Value.category, isLg] at e2 this
      simp only [Bool.and_eq_true, Bool.not_eq_true', beq_eq_false_iff_ne, ne_eq, Bool.and_eq_false_iff]
      refine ⟨hji, ?_⟩
      by_cases e1 : j + 1 = i
      · exact Or.inr (fun e2 => hnc ⟨e1, e2⟩)
      · exact Or.inl e1
  · rcases List.mem_or_eq_of_mem_set hv with h | h
    · exact h5 v h
    · rw [h]; exact hx
  · have hi0 : i ≠ 0 := by
      rcases h0 with h | h
      · exact h
      · rw [h] at hb; cases hb
    refine g3 (0, .ref b) (List.mem_cons_of_mem _ (List.mem_filter.mpr ⟨List.mem_append_left _ ?_, ?_⟩))
    · unfold lvx; rw [hb]; exact List.mem_singleton.mpr rfl
    · simp only [Value.category, Bool.and_eq_true, Bool.not_eq_true', beq_eq_false_iff_ne, ne_eq, Bool.and_eq_false_iff]
      exact ⟨fun e => hi0 e.symm, Or.inr (by decide)⟩
theorem Lo.st2 {ad : Nat → Nat} {lsA lsB : Array Slot} {i : Nat} {x : Int64} (h : Lo κ S ad lsA ls) (h0 : i ≠ 0) (hi : i + 1 < ls.length) (hnl : ∀ v, 0 < i → ls[i - 1]? = some v → isLg v = false) (h' : lv_has lsB (kc κ).maxLocals ((i, .long x) :: (lvx κ ++ lvp ad ls).filter (fun q => !(q.1 == i) && (!(q.1 == i + 1) && !(q.1 + 1 == i && q.2.category == 2))))) : Lo κ S ad lsB ((ls.set i (.long x)).set (i + 1) (.float 0)) := by
  obtain ⟨⟨h1, h2, h3, h4⟩, h5, h6⟩ := h
  obtain ⟨g1, g2, g3⟩ := h'
  refine ⟨⟨g1, g2, by rw [List.length_set, List.length_set]; exact h3, fun j v hj hv => ?_⟩, fun v hv => ?_, fun b hb => ?_⟩
  · by_cases hj1 : j = i + 1
    · subst hj1
      rw [List.getElem?_set_self (by rw [List.length_set]; exact hi)] at hj
      cases hj
      cases hv
    · rw [List.getElem?_set_ne (Ne.symm hj1)] at hj
      by_cases hji : j = i
      · subst hji
        rw [List.getElem?_set_self (by omega)] at hj
        cases hj
        exact g3 (j, .long x) List.mem_cons_self
      · rw [List.getElem?_set_ne (Ne.symm hji)] at hj
        refine g3 (j, cv ad v) (List.mem_cons_of_mem _ (List.mem_filter.mpr ⟨List.mem_append_right _ (lvp_mem.mpr ⟨v, hj, hv, rfl⟩), ?_⟩))
        have hnc : ¬ (j + 1 = i ∧ (cv ad v).category = 2) := by
          rintro ⟨e1, e2⟩
          subst e1
          have := hnl v (Nat.succ_pos j) (by simpa using hj)
          rw [cv_cat] at e2
          cases v <;> simp [Value.category, isLg] at e2 this
        simp only [Bool.and_eq_true, Bool.not_eq_true', beq_eq_false_iff_ne, ne_eq, Bool.and_eq_false_iff]
        refine ⟨hji, hj1, ?_⟩
        by_cases e1 : j + 1 = i
        · exact Or.inr (fun e2 => hnc ⟨e1, e2⟩)
        · exact Or.inl e1
  · rcases List.mem_or_eq_of_mem_set hv with h | h
    · rcases List.mem_or_eq_of_mem_set h with h | h
      · exact h5 v h
      · rw [h]; trivial
    · rw [h]; trivial
  · refine g3 (0, .ref b) (List.mem_cons_of_mem _ (List.mem_filter.mpr ⟨List.mem_append_left _ ?_, ?_⟩))
    · unfold lvx; rw [hb]; exact List.mem_singleton.mpr rfl
    · simp only [Value.category, Bool.and_eq_true, Bool.not_eq_true', beq_eq_false_iff_ne, ne_eq, Bool.and_eq_false_iff]
      exact ⟨fun e => h0 e.symm, by omega, Or.inr (by decide)⟩
theorem lo_at {ad : Nat → Nat} {lsA : Array Slot} (h : Lo κ S ad lsA ls) {i : Nat} {v : Value} (hv : ls[i]? = some v) (hf : isF v = false) : lsA[i]? = some (.val (cv ad v)) := h.1.2.2.2 i v hv hf
theorem lo_rb {ad : Nat → Nat} {lsA : Array Slot} (h : Lo κ S ad lsA ls) {i : Nat} {v : Value} (hv : ls[i]? = some v) : rb (mN S) v := h.2.1 v (List.mem_of_getElem? hv)
theorem lo_lt {ad : Nat → Nat} {lsA : Array Slot} (h : Lo κ S ad lsA ls) {i : Nat} (hi : i < ls.length) : i < (kc κ).maxLocals := Nat.lt_of_lt_of_le hi h.1.2.2.1

theorem g_iload_0 (C : Cx own cc nL ret d ini Φ κ) {x : Int32} (hd : decode cc pc = .ok (.iload_n 0, 1)) (hq : pc + 1 = q) (k : G κ rc rs S q (.int x :: ls) (.int x :: st)) : G κ rc rs S pc (.int x :: ls) st := by
  subst hq
  intro ad H locs lsA cells slots hw hl hs
  exact lv_iload_n C.1.1 C.1.2.1 hd rfl (lo_at hl (i := 0) rfl rfl) (k ad H locs lsA cells slots hw hl (rb_i hs))
theorem g_lload_0 (C : Cx own cc nL ret d ini Φ κ) {x : Int64} (hd : decode cc pc = .ok (.lload_n 0, 1)) (hq : pc + 1 = q) (k : G κ rc rs S q (.long x :: ls) (.long x :: st)) : G κ rc rs S pc (.long x :: ls) st := by
  subst hq
  intro ad H locs lsA cells slots hw hl hs
  exact lv_lload_n C.1.1 C.1.2.1 hd rfl (lo_at hl (i := 0) rfl rfl) (k ad H locs lsA cells slots hw hl (rb_l hs))
theorem g_aload_0 (C : Cx own cc nL ret d ini Φ κ) {x : Nat} (hd : decode cc pc = .ok (.aload_n 0, 1)) (hq : pc + 1 = q) (k : G κ rc rs S q (.ref x :: ls) (.ref x :: st)) : G κ rc rs S pc (.ref x :: ls) st := by
  subst hq
  intro ad H locs lsA cells slots hw hl hs
  exact lv_aload_n C.1.1 C.1.2.1 hd rfl (lo_at hl (i := 0) rfl rfl) (k ad H locs lsA cells slots hw hl (rb_c (lo_rb hl (i := 0) rfl) hs))
theorem g_iload_1 (C : Cx own cc nL ret d ini Φ κ) {v0 : Value} {x : Int32} (hd : decode cc pc = .ok (.iload_n 1, 1)) (hq : pc + 1 = q) (k : G κ rc rs S q (v0 :: .int x :: ls) (.int x :: st)) : G κ rc rs S pc (v0 :: .int x :: ls) st := by
  subst hq
  intro ad H locs lsA cells slots hw hl hs
  exact lv_iload_n C.1.1 C.1.2.1 hd rfl (lo_at hl (i := 1) rfl rfl) (k ad H locs lsA cells slots hw hl (rb_i hs))
theorem g_lload_1 (C : Cx own cc nL ret d ini Φ κ) {v0 : Value} {x : Int64} (hd : decode cc pc = .ok (.lload_n 1, 1)) (hq : pc + 1 = q) (k : G κ rc rs S q (v0 :: .long x :: ls) (.long x :: st)) : G κ rc rs S pc (v0 :: .long x :: ls) st := by
  subst hq
  intro ad H locs lsA cells slots hw hl hs
  exact lv_lload_n C.1.1 C.1.2.1 hd rfl (lo_at hl (i := 1) rfl rfl) (k ad H locs lsA cells slots hw hl (rb_l hs))
theorem g_aload_1 (C : Cx own cc nL ret d ini Φ κ) {v0 : Value} {x : Nat} (hd : decode cc pc = .ok (.aload_n 1, 1)) (hq : pc + 1 = q) (k : G κ rc rs S q (v0 :: .ref x :: ls) (.ref x :: st)) : G κ rc rs S pc (v0 :: .ref x :: ls) st := by
  subst hq
  intro ad H locs lsA cells slots hw hl hs
  exact lv_aload_n C.1.1 C.1.2.1 hd rfl (lo_at hl (i := 1) rfl rfl) (k ad H locs lsA cells slots hw hl (rb_c (lo_rb hl (i := 1) rfl) hs))
theorem g_iload_2 (C : Cx own cc nL ret d ini Φ κ) {v0 v1 : Value} {x : Int32} (hd : decode cc pc = .ok (.iload_n 2, 1)) (hq : pc + 1 = q) (k : G κ rc rs S q (v0 :: v1 :: .int x :: ls) (.int x :: st)) : G κ rc rs S pc (v0 :: v1 :: .int x :: ls) st := by
  subst hq
  intro ad H locs lsA cells slots hw hl hs
  exact lv_iload_n C.1.1 C.1.2.1 hd rfl (lo_at hl (i := 2) rfl rfl) (k ad H locs lsA cells slots hw hl (rb_i hs))
theorem g_lload_2 (C : Cx own cc nL ret d ini Φ κ) {v0 v1 : Value} {x : Int64} (hd : decode cc pc = .ok (.lload_n 2, 1)) (hq : pc + 1 = q) (k : G κ rc rs S q (v0 :: v1 :: .long x :: ls) (.long x :: st)) : G κ rc rs S pc (v0 :: v1 :: .long x :: ls) st := by
  subst hq
  intro ad H locs lsA cells slots hw hl hs
  exact lv_lload_n C.1.1 C.1.2.1 hd rfl (lo_at hl (i := 2) rfl rfl) (k ad H locs lsA cells slots hw hl (rb_l hs))
theorem g_aload_2 (C : Cx own cc nL ret d ini Φ κ) {v0 v1 : Value} {x : Nat} (hd : decode cc pc = .ok (.aload_n 2, 1)) (hq : pc + 1 = q) (k : G κ rc rs S q (v0 :: v1 :: .ref x :: ls) (.ref x :: st)) : G κ rc rs S pc (v0 :: v1 :: .ref x :: ls) st := by
  subst hq
  intro ad H locs lsA cells slots hw hl hs
  exact lv_aload_n C.1.1 C.1.2.1 hd rfl (lo_at hl (i := 2) rfl rfl) (k ad H locs lsA cells slots hw hl (rb_c (lo_rb hl (i := 2) rfl) hs))
theorem g_iload_3 (C : Cx own cc nL ret d ini Φ κ) {v0 v1 v2 : Value} {x : Int32} (hd : decode cc pc = .ok (.iload_n 3, 1)) (hq : pc + 1 = q) (k : G κ rc rs S q (v0 :: v1 :: v2 :: .int x :: ls) (.int x :: st)) : G κ rc rs S pc (v0 :: v1 :: v2 :: .int x :: ls) st := by
  subst hq
  intro ad H locs lsA cells slots hw hl hs
  exact lv_iload_n C.1.1 C.1.2.1 hd rfl (lo_at hl (i := 3) rfl rfl) (k ad H locs lsA cells slots hw hl (rb_i hs))
theorem g_lload_3 (C : Cx own cc nL ret d ini Φ κ) {v0 v1 v2 : Value} {x : Int64} (hd : decode cc pc = .ok (.lload_n 3, 1)) (hq : pc + 1 = q) (k : G κ rc rs S q (v0 :: v1 :: v2 :: .long x :: ls) (.long x :: st)) : G κ rc rs S pc (v0 :: v1 :: v2 :: .long x :: ls) st := by
  subst hq
  intro ad H locs lsA cells slots hw hl hs
  exact lv_lload_n C.1.1 C.1.2.1 hd rfl (lo_at hl (i := 3) rfl rfl) (k ad H locs lsA cells slots hw hl (rb_l hs))
theorem g_aload_3 (C : Cx own cc nL ret d ini Φ κ) {v0 v1 v2 : Value} {x : Nat} (hd : decode cc pc = .ok (.aload_n 3, 1)) (hq : pc + 1 = q) (k : G κ rc rs S q (v0 :: v1 :: v2 :: .ref x :: ls) (.ref x :: st)) : G κ rc rs S pc (v0 :: v1 :: v2 :: .ref x :: ls) st := by
  subst hq
  intro ad H locs lsA cells slots hw hl hs
  exact lv_aload_n C.1.1 C.1.2.1 hd rfl (lo_at hl (i := 3) rfl rfl) (k ad H locs lsA cells slots hw hl (rb_c (lo_rb hl (i := 3) rfl) hs))
theorem g_iload_4 (C : Cx own cc nL ret d ini Φ κ) {v0 v1 v2 v3 : Value} {x : Int32} (hd : decode cc pc = .ok (.iload 4, 2)) (hq : pc + 2 = q) (k : G κ rc rs S q (v0 :: v1 :: v2 :: v3 :: .int x :: ls) (.int x :: st)) : G κ rc rs S pc (v0 :: v1 :: v2 :: v3 :: .int x :: ls) st := by
  subst hq
  intro ad H locs lsA cells slots hw hl hs
  exact lv_iload C.1.1 C.1.2.1 hd (lo_at hl (i := 4) rfl rfl) (k ad H locs lsA cells slots hw hl (rb_i hs))
theorem g_lload_4 (C : Cx own cc nL ret d ini Φ κ) {v0 v1 v2 v3 : Value} {x : Int64} (hd : decode cc pc = .ok (.lload 4, 2)) (hq : pc + 2 = q) (k : G κ rc rs S q (v0 :: v1 :: v2 :: v3 :: .long x :: ls) (.long x :: st)) : G κ rc rs S pc (v0 :: v1 :: v2 :: v3 :: .long x :: ls) st := by
  subst hq
  intro ad H locs lsA cells slots hw hl hs
  exact lv_lload C.1.1 C.1.2.1 hd (lo_at hl (i := 4) rfl rfl) (k ad H locs lsA cells slots hw hl (rb_l hs))
theorem g_aload_4 (C : Cx own cc nL ret d ini Φ κ) {v0 v1 v2 v3 : Value} {x : Nat} (hd : decode cc pc = .ok (.aload 4, 2)) (hq : pc + 2 = q) (k : G κ rc rs S q (v0 :: v1 :: v2 :: v3 :: .ref x :: ls) (.ref x :: st)) : G κ rc rs S pc (v0 :: v1 :: v2 :: v3 :: .ref x :: ls) st := by
  subst hq
  intro ad H locs lsA cells slots hw hl hs
  exact lv_aload C.1.1 C.1.2.1 hd (lo_at hl (i := 4) rfl rfl) (k ad H locs lsA cells slots hw hl (rb_c (lo_rb hl (i := 4) rfl) hs))
theorem g_iload_5 (C : Cx own cc nL ret d ini Φ κ) {v0 v1 v2 v3 v4 : Value} {x : Int32} (hd : decode cc pc = .ok (.iload 5, 2)) (hq : pc + 2 = q) (k : G κ rc rs S q (v0 :: v1 :: v2 :: v3 :: v4 :: .int x :: ls) (.int x :: st)) : G κ rc rs S pc (v0 :: v1 :: v2 :: v3 :: v4 :: .int x :: ls) st := by
  subst hq
  intro ad H locs lsA cells slots hw hl hs
  exact lv_iload C.1.1 C.1.2.1 hd (lo_at hl (i := 5) rfl rfl) (k ad H locs lsA cells slots hw hl (rb_i hs))
theorem g_lload_5 (C : Cx own cc nL ret d ini Φ κ) {v0 v1 v2 v3 v4 : Value} {x : Int64} (hd : decode cc pc = .ok (.lload 5, 2)) (hq : pc + 2 = q) (k : G κ rc rs S q (v0 :: v1 :: v2 :: v3 :: v4 :: .long x :: ls) (.long x :: st)) : G κ rc rs S pc (v0 :: v1 :: v2 :: v3 :: v4 :: .long x :: ls) st := by
  subst hq
  intro ad H locs lsA cells slots hw hl hs
  exact lv_lload C.1.1 C.1.2.1 hd (lo_at hl (i := 5) rfl rfl) (k ad H locs lsA cells slots hw hl (rb_l hs))
theorem g_aload_5 (C : Cx own cc nL ret d ini Φ κ) {v0 v1 v2 v3 v4 : Value} {x : Nat} (hd : decode cc pc = .ok (.aload 5, 2)) (hq : pc + 2 = q) (k : G κ rc rs S q (v0 :: v1 :: v2 :: v3 :: v4 :: .ref x :: ls) (.ref x :: st)) : G κ rc rs S pc (v0 :: v1 :: v2 :: v3 :: v4 :: .ref x :: ls) st := by
  subst hq
  intro ad H locs lsA cells slots hw hl hs
  exact lv_aload C.1.1 C.1.2.1 hd (lo_at hl (i := 5) rfl rfl) (k ad H locs lsA cells slots hw hl (rb_c (lo_rb hl (i := 5) rfl) hs))
theorem g_iload_6 (C : Cx own cc nL ret d ini Φ κ) {v0 v1 v2 v3 v4 v5 : Value} {x : Int32} (hd : decode cc pc = .ok (.iload 6, 2)) (hq : pc + 2 = q) (k : G κ rc rs S q (v0 :: v1 :: v2 :: v3 :: v4 :: v5 :: .int x :: ls) (.int x :: st)) : G κ rc rs S pc (v0 :: v1 :: v2 :: v3 :: v4 :: v5 :: .int x :: ls) st := by
  subst hq
  intro ad H locs lsA cells slots hw hl hs
  exact lv_iload C.1.1 C.1.2.1 hd (lo_at hl (i := 6) rfl rfl) (k ad H locs lsA cells slots hw hl (rb_i hs))
theorem g_lload_6 (C : Cx own cc nL ret d ini Φ κ) {v0 v1 v2 v3 v4 v5 : Value} {x : Int64} (hd : decode cc pc = .ok (.lload 6, 2)) (hq : pc + 2 = q) (k : G κ rc rs S q (v0 :: v1 :: v2 :: v3 :: v4 :: v5 :: .long x :: ls) (.long x :: st)) : G κ rc rs S pc (v0 :: v1 :: v2 :: v3 :: v4 :: v5 :: .long x :: ls) st := by
  subst hq
  intro ad H locs lsA cells slots hw hl hs
  exact lv_lload C.1.1 C.1.2.1 hd (lo_at hl (i := 6) rfl rfl) (k ad H locs lsA cells slots hw hl (rb_l hs))
theorem g_aload_6 (C : Cx own cc nL ret d ini Φ κ) {v0 v1 v2 v3 v4 v5 : Value} {x : Nat} (hd : decode cc pc = .ok (.aload 6, 2)) (hq : pc + 2 = q) (k : G κ rc rs S q (v0 :: v1 :: v2 :: v3 :: v4 :: v5 :: .ref x :: ls) (.ref x :: st)) : G κ rc rs S pc (v0 :: v1 :: v2 :: v3 :: v4 :: v5 :: .ref x :: ls) st := by
  subst hq
  intro ad H locs lsA cells slots hw hl hs
  exact lv_aload C.1.1 C.1.2.1 hd (lo_at hl (i := 6) rfl rfl) (k ad H locs lsA cells slots hw hl (rb_c (lo_rb hl (i := 6) rfl) hs))
theorem g_iload_7 (C : Cx own cc nL ret d ini Φ κ) {v0 v1 v2 v3 v4 v5 v6 : Value} {x : Int32} (hd : decode cc pc = .ok (.iload 7, 2)) (hq : pc + 2 = q) (k : G κ rc rs S q (v0 :: v1 :: v2 :: v3 :: v4 :: v5 :: v6 :: .int x :: ls) (.int x :: st)) : G κ rc rs S pc (v0 :: v1 :: v2 :: v3 :: v4 :: v5 :: v6 :: .int x :: ls) st := by
  subst hq
  intro ad H locs lsA cells slots hw hl hs
  exact lv_iload C.1.1 C.1.2.1 hd (lo_at hl (i := 7) rfl rfl) (k ad H locs lsA cells slots hw hl (rb_i hs))
theorem g_lload_7 (C : Cx own cc nL ret d ini Φ κ) {v0 v1 v2 v3 v4 v5 v6 : Value} {x : Int64} (hd : decode cc pc = .ok (.lload 7, 2)) (hq : pc + 2 = q) (k : G κ rc rs S q (v0 :: v1 :: v2 :: v3 :: v4 :: v5 :: v6 :: .long x :: ls) (.long x :: st)) : G κ rc rs S pc (v0 :: v1 :: v2 :: v3 :: v4 :: v5 :: v6 :: .long x :: ls) st := by
  subst hq
  intro ad H locs lsA cells slots hw hl hs
  exact lv_lload C.1.1 C.1.2.1 hd (lo_at hl (i := 7) rfl rfl) (k ad H locs lsA cells slots hw hl (rb_l hs))
theorem g_aload_7 (C : Cx own cc nL ret d ini Φ κ) {v0 v1 v2 v3 v4 v5 v6 : Value} {x : Nat} (hd : decode cc pc = .ok (.aload 7, 2)) (hq : pc + 2 = q) (k : G κ rc rs S q (v0 :: v1 :: v2 :: v3 :: v4 :: v5 :: v6 :: .ref x :: ls) (.ref x :: st)) : G κ rc rs S pc (v0 :: v1 :: v2 :: v3 :: v4 :: v5 :: v6 :: .ref x :: ls) st := by
  subst hq
  intro ad H locs lsA cells slots hw hl hs
  exact lv_aload C.1.1 C.1.2.1 hd (lo_at hl (i := 7) rfl rfl) (k ad H locs lsA cells slots hw hl (rb_c (lo_rb hl (i := 7) rfl) hs))
theorem g_istore_0 (C : Cx own cc nL ret d ini Φ κ) {v0 : Value} {x : Int32} (hx0 : kx κ = none) (hd : decode cc pc = .ok (.istore_n 0, 1)) (hq : pc + 1 = q) (k : G κ rc rs S q (.int x :: ls) st) : G κ rc rs S pc (v0 :: ls) (.int x :: st) := by
  subst hq
  intro ad H locs lsA cells slots hw hl hs
  refine lv_istore_n C.1.1 C.1.2.1 hd rfl hl.has (lo_lt hl (i := 0) (by simp)) rfl (fun lsB hB => ?_)
  exact k ad H locs lsB cells slots hw (hl.st1 (i := 0) (x := .int x) (Or.inr hx0) (by simp) (fun v h _ => absurd h (Nat.lt_irrefl 0)) (rb_h hs) hB) (rb_t hs)
theorem g_istore_1 (C : Cx own cc nL ret d ini Φ κ) {v0 v1 : Value} {x : Int32} (hn : isLg v0 = false) (hd : decode cc pc = .ok (.istore_n 1, 1)) (hq : pc + 1 = q) (k : G κ rc rs S q (v0 :: .int x :: ls) st) : G κ rc rs S pc (v0 :: v1 :: ls) (.int x :: st) := by
  subst hq
  intro ad H locs lsA cells slots hw hl hs
  refine lv_istore_n C.1.1 C.1.2.1 hd rfl hl.has (lo_lt hl (i := 1) (by simp)) rfl (fun lsB hB => ?_)
  exact k ad H locs lsB cells slots hw (hl.st1 (i := 1) (x := .int x) (Or.inl (by decide)) (by simp) (fun v _ e => by cases e; exact hn) (rb_h hs) hB) (rb_t hs)
theorem g_astore_1 (C : Cx own cc nL ret d ini Φ κ) {v0 v1 : Value} {x : Nat} (hn : isLg v0 = false) (hd : decode cc pc = .ok (.astore_n 1, 1)) (hq : pc + 1 = q) (k : G κ rc rs S q (v0 :: .ref x :: ls) st) : G κ rc rs S pc (v0 :: v1 :: ls) (.ref x :: st) := by
  subst hq
  intro ad H locs lsA cells slots hw hl hs
  refine lv_astore_n C.1.1 C.1.2.1 hd rfl hl.has (lo_lt hl (i := 1) (by simp)) rfl (fun lsB hB => ?_)
  exact k ad H locs lsB cells slots hw (hl.st1 (i := 1) (x := .ref x) (Or.inl (by decide)) (by simp) (fun v _ e => by cases e; exact hn) (rb_h hs) hB) (rb_t hs)
theorem g_istore_2 (C : Cx own cc nL ret d ini Φ κ) {v0 v1 v2 : Value} {x : Int32} (hn : isLg v1 = false) (hd : decode cc pc = .ok (.istore_n 2, 1)) (hq : pc + 1 = q) (k : G κ rc rs S q (v0 :: v1 :: .int x :: ls) st) : G κ rc rs S pc (v0 :: v1 :: v2 :: ls) (.int x :: st) := by
  subst hq
  intro ad H locs lsA cells slots hw hl hs
  refine lv_istore_n C.1.1 C.1.2.1 hd rfl hl.has (lo_lt hl (i := 2) (by simp)) rfl (fun lsB hB => ?_)
  exact k ad H locs lsB cells slots hw (hl.st1 (i := 2) (x := .int x) (Or.inl (by decide)) (by simp) (fun v _ e => by cases e; exact hn) (rb_h hs) hB) (rb_t hs)
theorem g_astore_2 (C : Cx own cc nL ret d ini Φ κ) {v0 v1 v2 : Value} {x : Nat} (hn : isLg v1 = false) (hd : decode cc pc = .ok (.astore_n 2, 1)) (hq : pc + 1 = q) (k : G κ rc rs S q (v0 :: v1 :: .ref x :: ls) st) : G κ rc rs S pc (v0 :: v1 :: v2 :: ls) (.ref x :: st) := by
  subst hq
  intro ad H locs lsA cells slots hw hl hs
  refine lv_astore_n C.1.1 C.1.2.1 hd rfl hl.has (lo_lt hl (i := 2) (by simp)) rfl (fun lsB hB => ?_)
  exact k ad H locs lsB cells slots hw (hl.st1 (i := 2) (x := .ref x) (Or.inl (by decide)) (by simp) (fun v _ e => by cases e; exact hn) (rb_h hs) hB) (rb_t hs)
theorem g_istore_3 (C : Cx own cc nL ret d ini Φ κ) {v0 v1 v2 v3 : Value} {x : Int32} (hn : isLg v2 = false) (hd : decode cc pc = .ok (.istore_n 3, 1)) (hq : pc + 1 = q) (k : G κ rc rs S q (v0 :: v1 :: v2 :: .int x :: ls) st) : G κ rc rs S pc (v0 :: v1 :: v2 :: v3 :: ls) (.int x :: st) := by
  subst hq
  intro ad H locs lsA cells slots hw hl hs
  refine lv_istore_n C.1.1 C.1.2.1 hd rfl hl.has (lo_lt hl (i := 3) (by simp)) rfl (fun lsB hB => ?_)
  exact k ad H locs lsB cells slots hw (hl.st1 (i := 3) (x := .int x) (Or.inl (by decide)) (by simp) (fun v _ e => by cases e; exact hn) (rb_h hs) hB) (rb_t hs)
theorem g_astore_3 (C : Cx own cc nL ret d ini Φ κ) {v0 v1 v2 v3 : Value} {x : Nat} (hn : isLg v2 = false) (hd : decode cc pc = .ok (.astore_n 3, 1)) (hq : pc + 1 = q) (k : G κ rc rs S q (v0 :: v1 :: v2 :: .ref x :: ls) st) : G κ rc rs S pc (v0 :: v1 :: v2 :: v3 :: ls) (.ref x :: st) := by
  subst hq
  intro ad H locs lsA cells slots hw hl hs
  refine lv_astore_n C.1.1 C.1.2.1 hd rfl hl.has (lo_lt hl (i := 3) (by simp)) rfl (fun lsB hB => ?_)
  exact k ad H locs lsB cells slots hw (hl.st1 (i := 3) (x := .ref x) (Or.inl (by decide)) (by simp) (fun v _ e => by cases e; exact hn) (rb_h hs) hB) (rb_t hs)
theorem g_istore_4 (C : Cx own cc nL ret d ini Φ κ) {v0 v1 v2 v3 v4 : Value} {x : Int32} (hn : isLg v3 = false) (hd : decode cc pc = .ok (.istore 4, 2)) (hq : pc + 2 = q) (k : G κ rc rs S q (v0 :: v1 :: v2 :: v3 :: .int x :: ls) st) : G κ rc rs S pc (v0 :: v1 :: v2 :: v3 :: v4 :: ls) (.int x :: st) := by
  subst hq
  intro ad H locs lsA cells slots hw hl hs
  refine lv_istore C.1.1 C.1.2.1 hd hl.has (lo_lt hl (i := 4) (by simp)) rfl (fun lsB hB => ?_)
  exact k ad H locs lsB cells slots hw (hl.st1 (i := 4) (x := .int x) (Or.inl (by decide)) (by simp) (fun v _ e => by cases e; exact hn) (rb_h hs) hB) (rb_t hs)
theorem g_astore_4 (C : Cx own cc nL ret d ini Φ κ) {v0 v1 v2 v3 v4 : Value} {x : Nat} (hn : isLg v3 = false) (hd : decode cc pc = .ok (.astore 4, 2)) (hq : pc + 2 = q) (k : G κ rc rs S q (v0 :: v1 :: v2 :: v3 :: .ref x :: ls) st) : G κ rc rs S pc (v0 :: v1 :: v2 :: v3 :: v4 :: ls) (.ref x :: st) := by
  subst hq
  intro ad H locs lsA cells slots hw hl hs
  refine lv_astore C.1.1 C.1.2.1 hd hl.has (lo_lt hl (i := 4) (by simp)) rfl (fun lsB hB => ?_)
  exact k ad H locs lsB cells slots hw (hl.st1 (i := 4) (x := .ref x) (Or.inl (by decide)) (by simp) (fun v _ e => by cases e; exact hn) (rb_h hs) hB) (rb_t hs)
theorem g_istore_5 (C : Cx own cc nL ret d ini Φ κ) {v0 v1 v2 v3 v4 v5 : Value} {x : Int32} (hn : isLg v4 = false) (hd : decode cc pc = .ok (.istore 5, 2)) (hq : pc + 2 = q) (k : G κ rc rs S q (v0 :: v1 :: v2 :: v3 :: v4 :: .int x :: ls) st) : G κ rc rs S pc (v0 :: v1 :: v2 :: v3 :: v4 :: v5 :: ls) (.int x :: st) := by
  subst hq
  intro ad H locs lsA cells slots hw hl hs
  refine lv_istore C.1.1 C.1.2.1 hd hl.has (lo_lt hl (i := 5) (by simp)) rfl (fun lsB hB => ?_)
  exact k ad H locs lsB cells slots hw (hl.st1 (i := 5) (x := .int x) (Or.inl (by decide)) (by simp) (fun v _ e => by cases e; exact hn) (rb_h hs) hB) (rb_t hs)
theorem g_astore_5 (C : Cx own cc nL ret d ini Φ κ) {v0 v1 v2 v3 v4 v5 : Value} {x : Nat} (hn : isLg v4 = false) (hd : decode cc pc = .ok (.astore 5, 2)) (hq : pc + 2 = q) (k : G κ rc rs S q (v0 :: v1 :: v2 :: v3 :: v4 :: .ref x :: ls) st) : G κ rc rs S pc (v0 :: v1 :: v2 :: v3 :: v4 :: v5 :: ls) (.ref x :: st) := by
  subst hq
  intro ad H locs lsA cells slots hw hl hs
  refine lv_astore C.1.1 C.1.2.1 hd hl.has (lo_lt hl (i := 5) (by simp)) rfl (fun lsB hB => ?_)
  exact k ad H locs lsB cells slots hw (hl.st1 (i := 5) (x := .ref x) (Or.inl (by decide)) (by simp) (fun v _ e => by cases e; exact hn) (rb_h hs) hB) (rb_t hs)
theorem g_istore_6 (C : Cx own cc nL ret d ini Φ κ) {v0 v1 v2 v3 v4 v5 v6 : Value} {x : Int32} (hn : isLg v5 = false) (hd : decode cc pc = .ok (.istore 6, 2)) (hq : pc + 2 = q) (k : G κ rc rs S q (v0 :: v1 :: v2 :: v3 :: v4 :: v5 :: .int x :: ls) st) : G κ rc rs S pc (v0 :: v1 :: v2 :: v3 :: v4 :: v5 :: v6 :: ls) (.int x :: st) := by
  subst hq
  intro ad H locs lsA cells slots hw hl hs
  refine lv_istore C.1.1 C.1.2.1 hd hl.has (lo_lt hl (i := 6) (by simp)) rfl (fun lsB hB => ?_)
  exact k ad H locs lsB cells slots hw (hl.st1 (i := 6) (x := .int x) (Or.inl (by decide)) (by simp) (fun v _ e => by cases e; exact hn) (rb_h hs) hB) (rb_t hs)
theorem g_astore_6 (C : Cx own cc nL ret d ini Φ κ) {v0 v1 v2 v3 v4 v5 v6 : Value} {x : Nat} (hn : isLg v5 = false) (hd : decode cc pc = .ok (.astore 6, 2)) (hq : pc + 2 = q) (k : G κ rc rs S q (v0 :: v1 :: v2 :: v3 :: v4 :: v5 :: .ref x :: ls) st) : G κ rc rs S pc (v0 :: v1 :: v2 :: v3 :: v4 :: v5 :: v6 :: ls) (.ref x :: st) := by
  subst hq
  intro ad H locs lsA cells slots hw hl hs
  refine lv_astore C.1.1 C.1.2.1 hd hl.has (lo_lt hl (i := 6) (by simp)) rfl (fun lsB hB => ?_)
  exact k ad H locs lsB cells slots hw (hl.st1 (i := 6) (x := .ref x) (Or.inl (by decide)) (by simp) (fun v _ e => by cases e; exact hn) (rb_h hs) hB) (rb_t hs)
theorem g_istore_7 (C : Cx own cc nL ret d ini Φ κ) {v0 v1 v2 v3 v4 v5 v6 v7 : Value} {x : Int32} (hn : isLg v6 = false) (hd : decode cc pc = .ok (.istore 7, 2)) (hq : pc + 2 = q) (k : G κ rc rs S q (v0 :: v1 :: v2 :: v3 :: v4 :: v5 :: v6 :: .int x :: ls) st) : G κ rc rs S pc (v0 :: v1 :: v2 :: v3 :: v4 :: v5 :: v6 :: v7 :: ls) (.int x :: st) := by
  subst hq
  intro ad H locs lsA cells slots hw hl hs
  refine lv_istore C.1.1 C.1.2.1 hd hl.has (lo_lt hl (i := 7) (by simp)) rfl (fun lsB hB => ?_)
  exact k ad H locs lsB cells slots hw (hl.st1 (i := 7) (x := .int x) (Or.inl (by decide)) (by simp) (fun v _ e => by cases e; exact hn) (rb_h hs) hB) (rb_t hs)
theorem g_astore_7 (C : Cx own cc nL ret d ini Φ κ) {v0 v1 v2 v3 v4 v5 v6 v7 : Value} {x : Nat} (hn : isLg v6 = false) (hd : decode cc pc = .ok (.astore 7, 2)) (hq : pc + 2 = q) (k : G κ rc rs S q (v0 :: v1 :: v2 :: v3 :: v4 :: v5 :: v6 :: .ref x :: ls) st) : G κ rc rs S pc (v0 :: v1 :: v2 :: v3 :: v4 :: v5 :: v6 :: v7 :: ls) (.ref x :: st) := by
  subst hq
  intro ad H locs lsA cells slots hw hl hs
  refine lv_astore C.1.1 C.1.2.1 hd hl.has (lo_lt hl (i := 7) (by simp)) rfl (fun lsB hB => ?_)
  exact k ad H locs lsB cells slots hw (hl.st1 (i := 7) (x := .ref x) (Or.inl (by decide)) (by simp) (fun v _ e => by cases e; exact hn) (rb_h hs) hB) (rb_t hs)
theorem g_lstore_1 (C : Cx own cc nL ret d ini Φ κ) {v0 v1 v2 : Value} {x : Int64} (hn : isLg v0 = false) (hd : decode cc pc = .ok (.lstore_n 1, 1)) (hq : pc + 1 = q) (k : G κ rc rs S q (v0 :: .long x :: .float 0 :: ls) st) : G κ rc rs S pc (v0 :: v1 :: v2 :: ls) (.long x :: st) := by
  subst hq
  intro ad H locs lsA cells slots hw hl hs
  refine lv_lstore_n C.1.1 C.1.2.1 hd rfl hl.has (lo_lt hl (i := 1 + 1) (by simp)) rfl (fun lsB hB => ?_)
  exact k ad H locs lsB cells slots hw (hl.st2 (i := 1) (x := x) (by decide) (by simp) (fun v _ e => by cases e; exact hn) hB) (rb_t hs)
theorem g_lstore_2 (C : Cx own cc nL ret d ini Φ κ) {v0 v1 v2 v3 : Value} {x : Int64} (hn : isLg v1 = false) (hd : decode cc pc = .ok (.lstore_n 2, 1)) (hq : pc + 1 = q) (k : G κ rc rs S q (v0 :: v1 :: .long x :: .float 0 :: ls) st) : G κ rc rs S pc (v0 :: v1 :: v2 :: v3 :: ls) (.long x :: st) := by
  subst hq
  intro ad H locs lsA cells slots hw hl hs
  refine lv_lstore_n C.1.1 C.1.2.1 hd rfl hl.has (lo_lt hl (i := 2 + 1) (by simp)) rfl (fun lsB hB => ?_)
  exact k ad H locs lsB cells slots hw (hl.st2 (i := 2) (x := x) (by decide) (by simp) (fun v _ e => by cases e; exact hn) hB) (rb_t hs)
theorem g_lstore_3 (C : Cx own cc nL ret d ini Φ κ) {v0 v1 v2 v3 v4 : Value} {x : Int64} (hn : isLg v2 = false) (hd : decode cc pc = .ok (.lstore_n 3, 1)) (hq : pc + 1 = q) (k : G κ rc rs S q (v0 :: v1 :: v2 :: .long x :: .float 0 :: ls) st) : G κ rc rs S pc (v0 :: v1 :: v2 :: v3 :: v4 :: ls) (.long x :: st) := by
  subst hq
  intro ad H locs lsA cells slots hw hl hs
  refine lv_lstore_n C.1.1 C.1.2.1 hd rfl hl.has (lo_lt hl (i := 3 + 1) (by simp)) rfl (fun lsB hB => ?_)
  exact k ad H locs lsB cells slots hw (hl.st2 (i := 3) (x := x) (by decide) (by simp) (fun v _ e => by cases e; exact hn) hB) (rb_t hs)
theorem g_lstore_4 (C : Cx own cc nL ret d ini Φ κ) {v0 v1 v2 v3 v4 v5 : Value} {x : Int64} (hn : isLg v3 = false) (hd : decode cc pc = .ok (.lstore 4, 2)) (hq : pc + 2 = q) (k : G κ rc rs S q (v0 :: v1 :: v2 :: v3 :: .long x :: .float 0 :: ls) st) : G κ rc rs S pc (v0 :: v1 :: v2 :: v3 :: v4 :: v5 :: ls) (.long x :: st) := by
  subst hq
  intro ad H locs lsA cells slots hw hl hs
  refine lv_lstore C.1.1 C.1.2.1 hd hl.has (lo_lt hl (i := 4 + 1) (by simp)) rfl (fun lsB hB => ?_)
  exact k ad H locs lsB cells slots hw (hl.st2 (i := 4) (x := x) (by decide) (by simp) (fun v _ e => by cases e; exact hn) hB) (rb_t hs)
theorem g_lstore_5 (C : Cx own cc nL ret d ini Φ κ) {v0 v1 v2 v3 v4 v5 v6 : Value} {x : Int64} (hn : isLg v4 = false) (hd : decode cc pc = .ok (.lstore 5, 2)) (hq : pc + 2 = q) (k : G κ rc rs S q (v0 :: v1 :: v2 :: v3 :: v4 :: .long x :: .float 0 :: ls) st) : G κ rc rs S pc (v0 :: v1 :: v2 :: v3 :: v4 :: v5 :: v6 :: ls) (.long x :: st) := by
  subst hq
  intro ad H locs lsA cells slots hw hl hs
  refine lv_lstore C.1.1 C.1.2.1 hd hl.has (lo_lt hl (i := 5 + 1) (by simp)) rfl (fun lsB hB => ?_)
  exact k ad H locs lsB cells slots hw (hl.st2 (i := 5) (x := x) (by decide) (by simp) (fun v _ e => by cases e; exact hn) hB) (rb_t hs)
theorem g_lstore_6 (C : Cx own cc nL ret d ini Φ κ) {v0 v1 v2 v3 v4 v5 v6 v7 : Value} {x : Int64} (hn : isLg v5 = false) (hd : decode cc pc = .ok (.lstore 6, 2)) (hq : pc + 2 = q) (k : G κ rc rs S q (v0 :: v1 :: v2 :: v3 :: v4 :: v5 :: .long x :: .float 0 :: ls) st) : G κ rc rs S pc (v0 :: v1 :: v2 :: v3 :: v4 :: v5 :: v6 :: v7 :: ls) (.long x :: st) := by
  subst hq
  intro ad H locs lsA cells slots hw hl hs
  refine lv_lstore C.1.1 C.1.2.1 hd hl.has (lo_lt hl (i := 6 + 1) (by simp)) rfl (fun lsB hB => ?_)
  exact k ad H locs lsB cells slots hw (hl.st2 (i := 6) (x := x) (by decide) (by simp) (fun v _ e => by cases e; exact hn) hB) (rb_t hs)
theorem g_astoreQ_1 (C : Cx own cc nL ret d ini Φ κ) {v0 v1 : Value} {x : Option Nat} (hn : isLg v0 = false) (hd : decode cc pc = .ok (.astore_n 1, 1)) (hq : pc + 1 = q) (k : G κ rc rs S q (v0 :: va_rf x :: ls) st) : G κ rc rs S pc (v0 :: v1 :: ls) (va_rf x :: st) := by
  cases x with
  | some y => exact g_astore_1 C hn hd hq k
  | none =>
    subst hq
    intro ad H locs lsA cells slots hw hl hs
    refine lv_astore_nN C.1.1 C.1.2.1 hd rfl hl.has (lo_lt hl (i := 1) (by simp)) rfl (fun lsB hB => ?_)
    exact k ad H locs lsB cells slots hw (hl.st1 (i := 1) (x := .null) (Or.inl (by decide)) (by simp) (fun v _ e => by cases e; exact hn) trivial hB) (rb_t hs)
theorem g_aloadQ_1 (C : Cx own cc nL ret d ini Φ κ) {v0 : Value} {x : Option Nat} (hd : decode cc pc = .ok (.aload_n 1, 1)) (hq : pc + 1 = q) (k : G κ rc rs S q (v0 :: va_rf x :: ls) (va_rf x :: st)) : G κ rc rs S pc (v0 :: va_rf x :: ls) st := by
  cases x with
  | some y => exact g_aload_1 C hd hq k
  | none =>
    subst hq
    intro ad H locs lsA cells slots hw hl hs
    exact lv_aload_nN C.1.1 C.1.2.1 hd rfl (lo_at hl (i := 1) rfl rfl) (k ad H locs lsA cells slots hw hl (rb_c trivial hs))
theorem g_astoreQ_2 (C : Cx own cc nL ret d ini Φ κ) {v0 v1 v2 : Value} {x : Option Nat} (hn : isLg v1 = false) (hd : decode cc pc = .ok (.astore_n 2, 1)) (hq : pc + 1 = q) (k : G κ rc rs S q (v0 :: v1 :: va_rf x :: ls) st) : G κ rc rs S pc (v0 :: v1 :: v2 :: ls) (va_rf x :: st) := by
  cases x with
  | some y => exact g_astore_2 C hn hd hq k
  | none =>
    subst hq
    intro ad H locs lsA cells slots hw hl hs
    refine lv_astore_nN C.1.1 C.1.2.1 hd rfl hl.has (lo_lt hl (i := 2) (by simp)) rfl (fun lsB hB => ?_)
    exact k ad H locs lsB cells slots hw (hl.st1 (i := 2) (x := .null) (Or.inl (by decide)) (by simp) (fun v _ e => by cases e; exact hn) trivial hB) (rb_t hs)
theorem g_aloadQ_2 (C : Cx own cc nL ret d ini Φ κ) {v0 v1 : Value} {x : Option Nat} (hd : decode cc pc = .ok (.aload_n 2, 1)) (hq : pc + 1 = q) (k : G κ rc rs S q (v0 :: v1 :: va_rf x :: ls) (va_rf x :: st)) : G κ rc rs S pc (v0 :: v1 :: va_rf x :: ls) st := by
  cases x with
  | some y => exact g_aload_2 C hd hq k
  | none =>
    subst hq
    intro ad H locs lsA cells slots hw hl hs
    exact lv_aload_nN C.1.1 C.1.2.1 hd rfl (lo_at hl (i := 2) rfl rfl) (k ad H locs lsA cells slots hw hl (rb_c trivial hs))
theorem g_astoreQ_3 (C : Cx own cc nL ret d ini Φ κ) {v0 v1 v2 v3 : Value} {x : Option Nat} (hn : isLg v2 = false) (hd : decode cc pc = .ok (.astore_n 3, 1)) (hq : pc + 1 = q) (k : G κ rc rs S q (v0 :: v1 :: v2 :: va_rf x :: ls) st) : G κ rc rs S pc (v0 :: v1 :: v2 :: v3 :: ls) (va_rf x :: st) := by
  cases x with
  | some y => exact g_astore_3 C hn hd hq k
  | none =>
    subst hq
    intro ad H locs lsA cells slots hw hl hs
    refine lv_astore_nN C.1.1 C.1.2.1 hd rfl hl.has (lo_lt hl (i := 3) (by simp)) rfl (fun lsB hB => ?_)
    exact k ad H locs lsB cells slots hw (hl.st1 (i := 3) (x := .null) (Or.inl (by decide)) (by simp) (fun v _ e => by cases e; exact hn) trivial hB) (rb_t hs)
theorem g_aloadQ_3 (C : Cx own cc nL ret d ini Φ κ) {v0 v1 v2 : Value} {x : Option Nat} (hd : decode cc pc = .ok (.aload_n 3, 1)) (hq : pc + 1 = q) (k : G κ rc rs S q (v0 :: v1 :: v2 :: va_rf x :: ls) (va_rf x :: st)) : G κ rc rs S pc (v0 :: v1 :: v2 :: va_rf x :: ls) st := by
  cases x with
  | some y => exact g_aload_3 C hd hq k
  | none =>
    subst hq
    intro ad H locs lsA cells slots hw hl hs
    exact lv_aload_nN C.1.1 C.1.2.1 hd rfl (lo_at hl (i := 3) rfl rfl) (k ad H locs lsA cells slots hw hl (rb_c trivial hs))
theorem g_astoreQ_4 (C : Cx own cc nL ret d ini Φ κ) {v0 v1 v2 v3 v4 : Value} {x : Option Nat} (hn : isLg v3 = false) (hd : decode cc pc = .ok (.astore 4, 2)) (hq : pc + 2 = q) (k : G κ rc rs S q (v0 :: v1 :: v2 :: v3 :: va_rf x :: ls) st) : G κ rc rs S pc (v0 :: v1 :: v2 :: v3 :: v4 :: ls) (va_rf x :: st) := by
  cases x with
  | some y => exact g_astore_4 C hn hd hq k
  | none =>
    subst hq
    intro ad H locs lsA cells slots hw hl hs
    refine lv_astoreN C.1.1 C.1.2.1 hd hl.has (lo_lt hl (i := 4) (by simp)) rfl (fun lsB hB => ?_)
    exact k ad H locs lsB cells slots hw (hl.st1 (i := 4) (x := .null) (Or.inl (by decide)) (by simp) (fun v _ e => by cases e; exact hn) trivial hB) (rb_t hs)
theorem g_aloadQ_4 (C : Cx own cc nL ret d ini Φ κ) {v0 v1 v2 v3 : Value} {x : Option Nat} (hd : decode cc pc = .ok (.aload 4, 2)) (hq : pc + 2 = q) (k : G κ rc rs S q (v0 :: v1 :: v2 :: v3 :: va_rf x :: ls) (va_rf x :: st)) : G κ rc rs S pc (v0 :: v1 :: v2 :: v3 :: va_rf x :: ls) st := by
  cases x with
  | some y => exact g_aload_4 C hd hq k
  | none =>
    subst hq
    intro ad H locs lsA cells slots hw hl hs
    exact lv_aloadN C.1.1 C.1.2.1 hd (lo_at hl (i := 4) rfl rfl) (k ad H locs lsA cells slots hw hl (rb_c trivial hs))
theorem g_iinc_0 (C : Cx own cc nL ret d ini Φ κ) {x z : Int32} {n : Int} (hx0 : kx κ = none) (hd : decode cc pc = .ok (.iinc 0 n, 3)) (hq : pc + 3 = q) (hz : Int32.ofInt n = z) (k : G κ rc rs S q (.int (x + z) :: ls) st) : G κ rc rs S pc (.int x :: ls) st := by
  subst hq
  subst hz
  intro ad H locs lsA cells slots hw hl hs
  obtain ⟨j, hj⟩ := List.getElem?_of_mem (List.mem_append_right (lvx κ) ((lvp_mem (ls := .int x :: ls) (ad := ad) (q := (0, Value.int x))).mpr ⟨.int x, rfl, rfl, rfl⟩))
  refine lv_iinc C.1.1 C.1.2.1 hd hl.has hj rfl (lo_lt hl (i := 0) (by simp)) rfl (fun lsB hB => ?_)
  exact k ad H locs lsB cells slots hw (hl.st1 (i := 0) (x := .int (x + Int32.ofInt n)) (Or.inr hx0) (by simp) (fun v h _ => absurd h (Nat.lt_irrefl 0)) trivial hB) hs
theorem g_iinc_1 (C : Cx own cc nL ret d ini Φ κ) {v0 : Value} {x z : Int32} {n : Int} (hn : isLg v0 = false) (hd : decode cc pc = .ok (.iinc 1 n, 3)) (hq : pc + 3 = q) (hz : Int32.ofInt n = z) (k : G κ rc rs S q (v0 :: .int (x + z) :: ls) st) : G κ rc rs S pc (v0 :: .int x :: ls) st := by
  subst hq
  subst hz
  intro ad H locs lsA cells slots hw hl hs
  obtain ⟨j, hj⟩ := List.getElem?_of_mem (List.mem_append_right (lvx κ) ((lvp_mem (ls := v0 :: .int x :: ls) (ad := ad) (q := (1, Value.int x))).mpr ⟨.int x, rfl, rfl, rfl⟩))
  refine lv_iinc C.1.1 C.1.2.1 hd hl.has hj rfl (lo_lt hl (i := 1) (by simp)) rfl (fun lsB hB => ?_)
  exact k ad H locs lsB cells slots hw (hl.st1 (i := 1) (x := .int (x + Int32.ofInt n)) (Or.inl (by decide)) (by simp) (fun v _ e => by cases e; exact hn) trivial hB) hs
theorem g_iinc_2 (C : Cx own cc nL ret d ini Φ κ) {v0 v1 : Value} {x z : Int32} {n : Int} (hn : isLg v1 = false) (hd : decode cc pc = .ok (.iinc 2 n, 3)) (hq : pc + 3 = q) (hz : Int32.ofInt n = z) (k : G κ rc rs S q (v0 :: v1 :: .int (x + z) :: ls) st) : G κ rc rs S pc (v0 :: v1 :: .int x :: ls) st := by
  subst hq
  subst hz
  intro ad H locs lsA cells slots hw hl hs
  obtain ⟨j, hj⟩ := List.getElem?_of_mem (List.mem_append_right (lvx κ) ((lvp_mem (ls := v0 :: v1 :: .int x :: ls) (ad := ad) (q := (2, Value.int x))).mpr ⟨.int x, rfl, rfl, rfl⟩))
  refine lv_iinc C.1.1 C.1.2.1 hd hl.has hj rfl (lo_lt hl (i := 2) (by simp)) rfl (fun lsB hB => ?_)
  exact k ad H locs lsB cells slots hw (hl.st1 (i := 2) (x := .int (x + Int32.ofInt n)) (Or.inl (by decide)) (by simp) (fun v _ e => by cases e; exact hn) trivial hB) hs
theorem g_iinc_3 (C : Cx own cc nL ret d ini Φ κ) {v0 v1 v2 : Value} {x z : Int32} {n : Int} (hn : isLg v2 = false) (hd : decode cc pc = .ok (.iinc 3 n, 3)) (hq : pc + 3 = q) (hz : Int32.ofInt n = z) (k : G κ rc rs S q (v0 :: v1 :: v2 :: .int (x + z) :: ls) st) : G κ rc rs S pc (v0 :: v1 :: v2 :: .int x :: ls) st := by
  subst hq
  subst hz
  intro ad H locs lsA cells slots hw hl hs
  obtain ⟨j, hj⟩ := List.getElem?_of_mem (List.mem_append_right (lvx κ) ((lvp_mem (ls := v0 :: v1 :: v2 :: .int x :: ls) (ad := ad) (q := (3, Value.int x))).mpr ⟨.int x, rfl, rfl, rfl⟩))
  refine lv_iinc C.1.1 C.1.2.1 hd hl.has hj rfl (lo_lt hl (i := 3) (by simp)) rfl (fun lsB hB => ?_)
  exact k ad H locs lsB cells slots hw (hl.st1 (i := 3) (x := .int (x + Int32.ofInt n)) (Or.inl (by decide)) (by simp) (fun v _ e => by cases e; exact hn) trivial hB) hs
theorem g_iinc_4 (C : Cx own cc nL ret d ini Φ κ) {v0 v1 v2 v3 : Value} {x z : Int32} {n : Int} (hn : isLg v3 = false) (hd : decode cc pc = .ok (.iinc 4 n, 3)) (hq : pc + 3 = q) (hz : Int32.ofInt n = z) (k : G κ rc rs S q (v0 :: v1 :: v2 :: v3 :: .int (x + z) :: ls) st) : G κ rc rs S pc (v0 :: v1 :: v2 :: v3 :: .int x :: ls) st := by
  subst hq
  subst hz
  intro ad H locs lsA cells slots hw hl hs
  obtain ⟨j, hj⟩ := List.getElem?_of_mem (List.mem_append_right (lvx κ) ((lvp_mem (ls := v0 :: v1 :: v2 :: v3 :: .int x :: ls) (ad := ad) (q := (4, Value.int x))).mpr ⟨.int x, rfl, rfl, rfl⟩))
  refine lv_iinc C.1.1 C.1.2.1 hd hl.has hj rfl (lo_lt hl (i := 4) (by simp)) rfl (fun lsB hB => ?_)
  exact k ad H locs lsB cells slots hw (hl.st1 (i := 4) (x := .int (x + Int32.ofInt n)) (Or.inl (by decide)) (by simp) (fun v _ e => by cases e; exact hn) trivial hB) hs
theorem g_iinc_5 (C : Cx own cc nL ret d ini Φ κ) {v0 v1 v2 v3 v4 : Value} {x z : Int32} {n : Int} (hn : isLg v4 = false) (hd : decode cc pc = .ok (.iinc 5 n, 3)) (hq : pc + 3 = q) (hz : Int32.ofInt n = z) (k : G κ rc rs S q (v0 :: v1 :: v2 :: v3 :: v4 :: .int (x + z) :: ls) st) : G κ rc rs S pc (v0 :: v1 :: v2 :: v3 :: v4 :: .int x :: ls) st := by
  subst hq
  subst hz
  intro ad H locs lsA cells slots hw hl hs
  obtain ⟨j, hj⟩ := List.getElem?_of_mem (List.mem_append_right (lvx κ) ((lvp_mem (ls := v0 :: v1 :: v2 :: v3 :: v4 :: .int x :: ls) (ad := ad) (q := (5, Value.int x))).mpr ⟨.int x, rfl, rfl, rfl⟩))
  refine lv_iinc C.1.1 C.1.2.1 hd hl.has hj rfl (lo_lt hl (i := 5) (by simp)) rfl (fun lsB hB => ?_)
  exact k ad H locs lsB cells slots hw (hl.st1 (i := 5) (x := .int (x + Int32.ofInt n)) (Or.inl (by decide)) (by simp) (fun v _ e => by cases e; exact hn) trivial hB) hs
theorem g_iinc_6 (C : Cx own cc nL ret d ini Φ κ) {v0 v1 v2 v3 v4 v5 : Value} {x z : Int32} {n : Int} (hn : isLg v5 = false) (hd : decode cc pc = .ok (.iinc 6 n, 3)) (hq : pc + 3 = q) (hz : Int32.ofInt n = z) (k : G κ rc rs S q (v0 :: v1 :: v2 :: v3 :: v4 :: v5 :: .int (x + z) :: ls) st) : G κ rc rs S pc (v0 :: v1 :: v2 :: v3 :: v4 :: v5 :: .int x :: ls) st := by
  subst hq
  subst hz
  intro ad H locs lsA cells slots hw hl hs
  obtain ⟨j, hj⟩ := List.getElem?_of_mem (List.mem_append_right (lvx κ) ((lvp_mem (ls := v0 :: v1 :: v2 :: v3 :: v4 :: v5 :: .int x :: ls) (ad := ad) (q := (6, Value.int x))).mpr ⟨.int x, rfl, rfl, rfl⟩))
  refine lv_iinc C.1.1 C.1.2.1 hd hl.has hj rfl (lo_lt hl (i := 6) (by simp)) rfl (fun lsB hB => ?_)
  exact k ad H locs lsB cells slots hw (hl.st1 (i := 6) (x := .int (x + Int32.ofInt n)) (Or.inl (by decide)) (by simp) (fun v _ e => by cases e; exact hn) trivial hB) hs
theorem g_iinc_7 (C : Cx own cc nL ret d ini Φ κ) {v0 v1 v2 v3 v4 v5 v6 : Value} {x z : Int32} {n : Int} (hn : isLg v6 = false) (hd : decode cc pc = .ok (.iinc 7 n, 3)) (hq : pc + 3 = q) (hz : Int32.ofInt n = z) (k : G κ rc rs S q (v0 :: v1 :: v2 :: v3 :: v4 :: v5 :: v6 :: .int (x + z) :: ls) st) : G κ rc rs S pc (v0 :: v1 :: v2 :: v3 :: v4 :: v5 :: v6 :: .int x :: ls) st := by
  subst hq
  subst hz
  intro ad H locs lsA cells slots hw hl hs
  obtain ⟨j, hj⟩ := List.getElem?_of_mem (List.mem_append_right (lvx κ) ((lvp_mem (ls := v0 :: v1 :: v2 :: v3 :: v4 :: v5 :: v6 :: .int x :: ls) (ad := ad) (q := (7, Value.int x))).mpr ⟨.int x, rfl, rfl, rfl⟩))
  refine lv_iinc C.1.1 C.1.2.1 hd hl.has hj rfl (lo_lt hl (i := 7) (by simp)) rfl (fun lsB hB => ?_)
  exact k ad H locs lsB cells slots hw (hl.st1 (i := 7) (x := .int (x + Int32.ofInt n)) (Or.inl (by decide)) (by simp) (fun v _ e => by cases e; exact hn) trivial hB) hs
end ROWS
end
section
/-! rows over the memory: fields and rows of numbers -/
theorem celE_obj {c4 : Nat → ClassId} {ad : Nat → Nat} {S : Mem} {p ci : Nat} (hK : mK S p = ci) (hc : ci < 9) : celE c4 ad S p = .inr (ci, (List.range (FN ci)).map (fun j => if fint ci j = true then .int (mI S p j) else va_rf ((mR S p j).map ad))) := by
  subst hK
  exact if_pos hc
theorem celE_arr {c4 : Nat → ClassId} {ad : Nat → Nat} {S : Mem} {p k : Nat} (hK : mK S p = k) (hc : ¬ k < 9) : celE c4 ad S p = .inl (c4 (k % 4), (k - 100) / 4, if k % 4 = 2 then .inr (.inl (mL S p)) else if k % 4 = 3 then .inr (.inr (.inr (.inr (fun i => (mQ S p i).map ad)))) else .inl (mA S p)) := by
  subst hK
  exact if_neg hc
theorem fs_set {N j : Nat} {f g : Nat → Value} {v : Value} (h1 : g j = v) (h2 : ∀ b, b ≠ j → g b = f b) : ((List.range N).map f).set j v = (List.range N).map g := by
  apply List.ext_getElem?
  intro i
  by_cases hi : i < N
  · rw [List.getElem?_map, List.getElem?_range hi]
    by_cases hp : i = j
    · subst hp
      rw [List.getElem?_set_self (by simpa using hi)]
      exact congrArg some h1.symm
    · rw [List.getElem?_set_ne (Ne.symm hp), List.getElem?_map, List.getElem?_range hi]
      exact congrArg some (h2 i hp).symm
  · rw [List.getElem?_eq_none (by simpa using Nat.le_of_not_lt hi), List.getElem?_eq_none (by simpa using Nat.le_of_not_lt hi)]
theorem u2_self {α : Type} (f : Nat → Nat → α) (p j : Nat) (v : α) : u2 f p j v p j = v := by unfold u2; rw [if_pos rfl, if_pos rfl]
theorem u2_nej {α : Type} (f : Nat → Nat → α) (p j : Nat) (v : α) {b : Nat} (h : b ≠ j) : u2 f p j v p b = f p b := by unfold u2; rw [if_pos rfl, if_neg h]
theorem u2_nep {α : Type} (f : Nat → Nat → α) (p j : Nat) (v : α) {a : Nat} (h : a ≠ p) : u2 f p j v a = f a := by funext b; unfold u2; rw [if_neg h]
theorem u2_row {α : Type} (f : Nat → Nat → α) (p j : Nat) (v : α) : u2 f p j v p = fun b => if b = j then v else f p b := by funext b; unfold u2; rw [if_pos rfl]
section MROWS
variable {own : String} {cc : ByteArray} {nL : Nat} {ret : Option FieldType} {d : Nat} {ini : Bool} {Φ : Option Value → Mem → Prop} {κ : Kx} {rc rs : Nat} {S : Mem} {pc q : Nat} {ls st : List Value}
theorem g_getD (C : Cx own cc nL ret d ini Φ κ) {p ci j index : Nat} {v : Value} (hd : decode cc pc = .ok (.getfield index, 3)) (hq : pc + 3 = q) (hK : mK S p = ci) (hc : ci < 9) (hj : j < FN ci) (hu : Cond.fieldLink own index (FT ci j).1 (FT ci j).2.1 (FT ci j).2.2.1 ∈ UT) (hv : (if fint ci j = true then Value.int (mI S p j) else va_rf (mR S p j)) = v) (k : G κ rc rs S q ls (v :: st)) : G κ rc rs S pc ls (.ref p :: st) := by
  subst hq
  intro ad H locs lsA cells slots hw hl hs
  have hp : p < mN S := rb_h hs
  refine va_get (D := kD κ) (ci := ci) (v := cv ad v) C.1.1 C.1.2.1 C.1.2.2.2.2 (lay_ok ci hc) C.1.2.2.2.1 C.2.1.1 hw.1 p (by rw [wl_get hp, celE_obj hK hc]) (CL_at hc) j hj (C.1.2.2.2.2 _ hu) (fun _ h => h) ?_ hd (k ad H locs lsA cells slots hw hl (rb_c ?_ (rb_t hs)))
  · rw [List.getElem?_map, List.getElem?_range hj, ← hv]
    by_cases hf : fint ci j = true
    · simp only [hf, if_true, Option.map_some]
      rfl
    · simp only [hf, Option.map_some]
      exact congrArg some (cv_rf ad _).symm
  · rw [← hv]
    by_cases hf : fint ci j = true
    · rw [if_pos hf]; trivial
    · rw [if_neg hf]; exact rb_rf (fun r e => (hw.2.2.2.1 p hp).1 j r e)
theorem wd_same {S' : Mem} {ad : Nat → Nat} {H H1 : Heap} {locs locs1 : List Loc} {cells slots : Nat} (hw : Wd κ rc rs S ad H locs cells slots) (hP : va_P (kD κ) CL (wl (k4 κ) ad S') H1) (hD : va_D (kA κ) (wl (k4 κ) ad S')) (hS : va_S (kA κ) (ks κ).heap H1 locs1) (hm : mwf S') (hn : mN S' = mN S) (hk : mK S' = mK S) : Wd κ rc rs S' ad H1 locs1 cells slots := ⟨hP, hD, hS, hm, hw.2.2.2.2.1, by rw [hn]; exact hw.2.2.2.2.2.1, by rw [hn, hk]; exact hw.2.2.2.2.2.2.1, hw.2.2.2.2.2.2.2⟩
theorem celE_sI {c4 : Nat → ClassId} {ad : Nat → Nat} {p j : Nat} {x : Int32} {a : Nat} (h : a ≠ p) : celE c4 ad (sI S p j x) a = celE c4 ad S a := by
  have e : mI (sI S p j x) a = mI S a := u2_nep _ _ _ _ h
  unfold celE
  rw [e]
  rfl
theorem celE_sR {c4 : Nat → ClassId} {ad : Nat → Nat} {p j : Nat} {x : Option Nat} {a : Nat} (h : a ≠ p) : celE c4 ad (sR S p j x) a = celE c4 ad S a := by
  have e : mR (sR S p j x) a = mR S a := u2_nep _ _ _ _ h
  unfold celE
  rw [e]
  rfl
theorem celE_sA {c4 : Nat → ClassId} {ad : Nat → Nat} {p j : Nat} {x : Int32} {a : Nat} (h : a ≠ p) : celE c4 ad (sA S p j x) a = celE c4 ad S a := by
  have e : mA (sA S p j x) a = mA S a := u2_nep _ _ _ _ h
  unfold celE
  rw [e]
  rfl
theorem celE_sL {c4 : Nat → ClassId} {ad : Nat → Nat} {p j : Nat} {x : Int64} {a : Nat} (h : a ≠ p) : celE c4 ad (sL S p j x) a = celE c4 ad S a := by
  have e : mL (sL S p j x) a = mL S a := u2_nep _ _ _ _ h
  unfold celE
  rw [e]
  rfl
theorem celE_sQ {c4 : Nat → ClassId} {ad : Nat → Nat} {p j : Nat} {x : Option Nat} {a : Nat} (h : a ≠ p) : celE c4 ad (sQ S p j x) a = celE c4 ad S a := by
  have e : mQ (sQ S p j x) a = mQ S a := u2_nep _ _ _ _ h
  unfold celE
  rw [e]
  rfl
theorem mwf_sR {p j : Nat} {x : Option Nat} (h : mwf S) (hx : ∀ k, x = some k → k < mN S) : mwf (sR S p j x) := by
  intro a ha
  refine ⟨fun b r hr => ?_, (h a ha).2⟩
  have hr : u2 (mR S) p j x a b = some r := hr
  unfold u2 at hr
  by_cases e1 : a = p
  · rw [if_pos e1] at hr
    by_cases e2 : b = j
    · rw [if_pos e2] at hr; exact hx r hr
    · rw [if_neg e2] at hr; exact (h a ha).1 b r hr
  · rw [if_neg e1] at hr; exact (h a ha).1 b r hr
theorem mwf_sQ {p j : Nat} {x : Option Nat} (h : mwf S) (hx : ∀ k, x = some k → k < mN S) : mwf (sQ S p j x) := by
  intro a ha
  refine ⟨(h a ha).1, fun b r hr => ?_⟩
  have hr : u2 (mQ S) p j x a b = some r := hr
  unfold u2 at hr
  by_cases e1 : a = p
  · rw [if_pos e1] at hr
    by_cases e2 : b = j
    · rw [if_pos e2] at hr; exact hx r hr
    · rw [if_neg e2] at hr; exact (h a ha).2 b r hr
  · rw [if_neg e1] at hr; exact (h a ha).2 b r hr
/-- a field may be written: it isn't final, or this is its own beginning -/
def pOk (own : String) (ini : Bool) (ci j : Nat) : Prop := (FT ci j).2.2.2 = false ∨ ((FT ci j).2.2.2 = true ∧ ini = true ∧ (FT ci j).1 = own)
theorem g_putK (C : Cx own cc nL ret d ini Φ κ) {p ci j index : Nat} {v : Value} {S' : Mem} (hd : decode cc pc = .ok (.putfield index, 3)) (hq : pc + 3 = q) (hK : mK S p = ci) (hc : ci < 9) (hj : j < FN ci) (hp9 : pOk own ini ci j) (hu : Cond.fieldLink own index (FT ci j).1 (FT ci j).2.1 (FT ci j).2.2.1 ∈ UT)
    (hna : ∀ ad, narrow (FY ci j) (cv ad v) = cv ad v) (hfi : ∀ ad, fits (FY ci j) (cv ad v) = true) (hn : mN S' = mN S) (hkk : mK S' = mK S) (hm : mwf S → (∀ k, v = .ref k → k < mN S) → mwf S')
    (he : ∀ c4 ad, celE c4 ad S' p = .inr (ci, ((List.range (FN ci)).map (fun j => if fint ci j = true then .int (mI S p j) else va_rf ((mR S p j).map ad))).set j (cv ad v))) (ho : ∀ c4 ad a, a ≠ p → celE c4 ad S' a = celE c4 ad S a) (k : G κ rc rs S' q ls st) : G κ rc rs S pc ls (v :: .ref p :: st) := by
  subst hq
  intro ad H locs lsA cells slots hw hl hs
  have hp : p < mN S := rb_h (rb_t hs)
  have hst : ∀ v ∈ st, rb (mN S') v := by rw [hn]; exact rb_t (rb_t hs)
  have hlo : Lo κ S' ad lsA ls := ⟨hl.1, by rw [hn]; exact hl.2.1, hl.2.2⟩
  have hmw : mwf S' := hm hw.2.2.2.1 (fun k e => by have h1 := rb_h hs; rw [e] at h1; exact h1)
  have hws : (wl (k4 κ) ad S).set p (ad p, .inr (ci, ((List.range (FN ci)).map (fun j => if fint ci j = true then .int (mI S p j) else va_rf ((mR S p j).map ad))).set j (cv ad v))) = wl (k4 κ) ad S' := wl_set hn (he _ _) (fun a ha => ho _ _ a ha)
  have fin : ∀ (H1 : Heap) (locs1 : List Loc), va_P (kD κ) CL ((wl (k4 κ) ad S).set p (ad p, .inr (ci, ((List.range (FN ci)).map (fun j => if fint ci j = true then .int (mI S p j) else va_rf ((mR S p j).map ad))).set j (cv ad v)))) H1 → va_D (kA κ) ((wl (k4 κ) ad S).set p (ad p, .inr (ci, ((List.range (FN ci)).map (fun j => if fint ci j = true then .int (mI S p j) else va_rf ((mR S p j).map ad))).set j (cv ad v)))) → va_S (kA κ) (ks κ).heap H1 locs1 → WW κ H1 locs1 cells slots (F0 (km κ) (pc + 3) lsA (st.map (cv ad))) := by
    intro H1 locs1 hP hD hS
    rw [hws] at hP hD
    exact k ad H1 locs1 lsA cells slots (wd_same hw hP hD hS hmw hn hkk) hlo hst
  rcases hp9 with hf | ⟨hf, hi, hdc⟩
  · exact va_put (D := kD κ) (ci := ci) C.1.1 C.1.2.1 C.1.2.2.2.2 (lay_ok ci hc) (FY ci) (ty_ok ci hc) (nm_ok ci hc) C.1.2.2.2.1 C.2.1.1 hw.1 hw.2.1 hw.2.2.1 p (by rw [wl_get hp, celE_obj hK hc]) (CL_at hc) j hj (C.1.2.2.2.2 _ hu) (fun _ h => h) hf (ty_ok ci hc j hj) (hna ad) (hfi ad) (by simpa using hj) hd fin
  · exact va_putF (D := kD κ) (ci := ci) C.1.1 C.1.2.1 C.1.2.2.2.2 (lay_ok ci hc) (FY ci) (ty_ok ci hc) (nm_ok ci hc) C.1.2.2.2.1 C.2.1.1 hw.1 hw.2.1 hw.2.2.1 p (by rw [wl_get hp, celE_obj hK hc]) (CL_at hc) j hj (C.1.2.2.2.2 _ hu) (fun _ h => h) hf (C.2.2.2.2.1 hi) hdc (ty_ok ci hc j hj) (hna ad) (hfi ad) (by simpa using hj) hd fin
theorem g_putiD (C : Cx own cc nL ret d ini Φ κ) {p ci j index : Nat} {x : Int32} (hd : decode cc pc = .ok (.putfield index, 3)) (hq : pc + 3 = q) (hK : mK S p = ci) (hc : ci < 9) (hj : j < FN ci) (hf : fint ci j = true) (hp9 : pOk own ini ci j) (hu : Cond.fieldLink own index (FT ci j).1 (FT ci j).2.1 (FT ci j).2.2.1 ∈ UT) (k : G κ rc rs (sI S p j x) q ls st) : G κ rc rs S pc ls (.int x :: .ref p :: st) := by
  refine g_putK C (S' := sI S p j x) hd hq hK hc hj hp9 hu (fun ad => by rw [fy_int hf]; rfl) (fun ad => by rw [fy_int hf]; rfl) rfl rfl (fun h _ => h) (fun c4 ad => ?_) (fun c4 ad a ha => celE_sI ha) k
  rw [celE_obj (S := sI S p j x) hK hc]
  refine congrArg Sum.inr (congrArg (Prod.mk _) (fs_set ?_ (fun b hb => ?_)).symm)
  · rw [if_pos hf]
    exact congrArg Value.int (u2_self _ _ _ _)
  · have e : mI (sI S p j x) p b = mI S p b := u2_nej _ _ _ _ hb
    rw [e]
    rfl
theorem ref_nar {ty : FieldType} (h : isRefTy ty = true) (ad : Nat → Nat) (x : Option Nat) : narrow ty (cv ad (va_rf x)) = cv ad (va_rf x) := by
  cases x <;> cases ty <;> first | rfl | cases h
theorem ref_fit {ty : FieldType} (h : isRefTy ty = true) (ad : Nat → Nat) (x : Option Nat) : fits ty (cv ad (va_rf x)) = true := by
  cases x <;> cases ty <;> first | rfl | cases h
theorem g_putrD (C : Cx own cc nL ret d ini Φ κ) {p ci j index : Nat} {x : Option Nat} (hd : decode cc pc = .ok (.putfield index, 3)) (hq : pc + 3 = q) (hK : mK S p = ci) (hc : ci < 9) (hj : j < FN ci) (hf : fint ci j = false) (hp9 : pOk own ini ci j) (hu : Cond.fieldLink own index (FT ci j).1 (FT ci j).2.1 (FT ci j).2.2.1 ∈ UT) (k : G κ rc rs (sR S p j x) q ls st) : G κ rc rs S pc ls (va_rf x :: .ref p :: st) := by
  refine g_putK C (S' := sR S p j x) hd hq hK hc hj hp9 hu (fun ad => ref_nar (fy_ref ci hc j hj hf) ad x) (fun ad => ref_fit (fy_ref ci hc j hj hf) ad x) rfl rfl (fun h hx => mwf_sR h (fun k e => hx k (by rw [e]; rfl))) (fun c4 ad => ?_) (fun c4 ad a ha => celE_sR ha) k
  rw [celE_obj (S := sR S p j x) hK hc]
  refine congrArg Sum.inr (congrArg (Prod.mk _) (fs_set ?_ (fun b hb => ?_)).symm)
  · rw [if_neg (by rw [hf]; decide)]
    have e : mR (sR S p j x) p j = x := u2_self _ _ _ _
    rw [e, cv_rf]
  · have e : mR (sR S p j x) p b = mR S p b := u2_nej _ _ _ _ hb
    rw [e]
    rfl
theorem ty4_at {c4 : Nat → ClassId} : (tys4 c4)[0]? = some (c4 0, .int) ∧ (tys4 c4)[1]? = some (c4 1, .boolean) ∧ (tys4 c4)[2]? = some (c4 2, .long) ∧ (tys4 c4)[3]? = some (c4 3, .object RX2) := ⟨rfl, rfl, rfl, rfl⟩
theorem arr_nlt {N t : Nat} : ¬ 100 + 4 * N + t < 9 := by omega
theorem arr_mod {N t : Nat} (ht : t < 4) : (100 + 4 * N + t) % 4 = t := by omega
theorem arr_len {N t : Nat} (ht : t < 4) : (100 + 4 * N + t - 100) / 4 = N := by omega
theorem celE_i {c4 : Nat → ClassId} {ad : Nat → Nat} {p N t : Nat} (hK : mK S p = 100 + 4 * N + t) (ht : t < 2) : celE c4 ad S p = .inl (c4 t, N, .inl (mA S p)) := by
  rw [celE_arr hK arr_nlt, arr_mod (by omega), arr_len (by omega), if_neg (by omega), if_neg (by omega)]
theorem celE_l {c4 : Nat → ClassId} {ad : Nat → Nat} {p N : Nat} (hK : mK S p = 100 + 4 * N + 2) : celE c4 ad S p = .inl (c4 2, N, .inr (.inl (mL S p))) := by
  rw [celE_arr hK arr_nlt, arr_mod (by omega), arr_len (by omega), if_pos rfl]
theorem celE_q {c4 : Nat → ClassId} {ad : Nat → Nat} {p N : Nat} (hK : mK S p = 100 + 4 * N + 3) : celE c4 ad S p = .inl (c4 3, N, .inr (.inr (.inr (.inr (fun i => (mQ S p i).map ad))))) := by
  rw [celE_arr hK arr_nlt, arr_mod (by omega), arr_len (by omega), if_neg (by omega), if_pos rfl]
theorem g_ialdD (C : Cx own cc nL ret d ini Φ κ) {p N : Nat} {i : Int32} (hd : decode cc pc = .ok (.iaload, 1)) (hq : pc + 1 = q) (hK : mK S p = 100 + 4 * N + 0) (hin : vp_in i N) (k : G κ rc rs S q ls (.int (mA S p i.toNatClampNeg) :: st)) : G κ rc rs S pc ls (.int i :: .ref p :: st) := by
  subst hq
  intro ad H locs lsA cells slots hw hl hs
  have hp : p < mN S := rb_h (rb_t hs)
  exact va_iald (D := kD κ) C.1.1 C.1.2.1 C.2.1.1 hw.1 p 0 (by rw [wl_get hp, celE_i hK (by omega)]) rfl hin hd (k ad H locs lsA cells slots hw hl (rb_i (rb_t (rb_t hs))))
theorem g_zaldD (C : Cx own cc nL ret d ini Φ κ) {p N : Nat} {i : Int32} (hd : decode cc pc = .ok (.baload, 1)) (hq : pc + 1 = q) (hK : mK S p = 100 + 4 * N + 1) (hin : vp_in i N) (k : G κ rc rs S q ls (.int (mA S p i.toNatClampNeg) :: st)) : G κ rc rs S pc ls (.int i :: .ref p :: st) := by
  subst hq
  intro ad H locs lsA cells slots hw hl hs
  have hp : p < mN S := rb_h (rb_t hs)
  exact va_zald (D := kD κ) C.1.1 C.1.2.1 C.2.1.1 hw.1 p 1 (by rw [wl_get hp, celE_i hK (by omega)]) rfl hin hd (k ad H locs lsA cells slots hw hl (rb_i (rb_t (rb_t hs))))
theorem g_laldD (C : Cx own cc nL ret d ini Φ κ) {p N : Nat} {i : Int32} (hd : decode cc pc = .ok (.laload, 1)) (hq : pc + 1 = q) (hK : mK S p = 100 + 4 * N + 2) (hin : vp_in i N) (k : G κ rc rs S q ls (.long (mL S p i.toNatClampNeg) :: st)) : G κ rc rs S pc ls (.int i :: .ref p :: st) := by
  subst hq
  intro ad H locs lsA cells slots hw hl hs
  have hp : p < mN S := rb_h (rb_t hs)
  exact va_lald (D := kD κ) C.1.1 C.1.2.1 C.2.1.1 hw.1 p 2 (by rw [wl_get hp, celE_l hK]) rfl hin hd (k ad H locs lsA cells slots hw hl (rb_l (rb_t (rb_t hs))))
theorem g_aaldD (C : Cx own cc nL ret d ini Φ κ) {p N : Nat} {i : Int32} (hd : decode cc pc = .ok (.aaload, 1)) (hq : pc + 1 = q) (hK : mK S p = 100 + 4 * N + 3) (hin : vp_in i N) (k : G κ rc rs S q ls (va_rf (mQ S p i.toNatClampNeg) :: st)) : G κ rc rs S pc ls (.int i :: .ref p :: st) := by
  subst hq
  intro ad H locs lsA cells slots hw hl hs
  have hp : p < mN S := rb_h (rb_t hs)
  refine va_aldq (D := kD κ) C.1.1 C.1.2.1 C.2.1.1 hw.1 p 3 (by rw [wl_get hp, celE_q hK]) rfl hin hd ?_
  have h1 := k ad H locs lsA cells slots hw hl (rb_c (rb_rf (fun r e => (hw.2.2.2.1 p hp).2 _ r e)) (rb_t (rb_t hs)))
  rw [List.map_cons, cv_rf] at h1
  exact h1
theorem mA_sA_row {p j : Nat} {x : Int32} : mA (sA S p j x) p = upd (mA S p) j x := by
  funext b
  show u2 _ _ _ _ p b = _
  unfold u2 upd
  rw [if_pos rfl]
theorem g_iastD (C : Cx own cc nL ret d ini Φ κ) {p N : Nat} {i x : Int32} (hd : decode cc pc = .ok (.iastore, 1)) (hq : pc + 1 = q) (hK : mK S p = 100 + 4 * N + 0) (hin : vp_in i N) (k : G κ rc rs (sA S p i.toNatClampNeg x) q ls st) : G κ rc rs S pc ls (.int x :: .int i :: .ref p :: st) := by
  subst hq
  intro ad H locs lsA cells slots hw hl hs
  have hp : p < mN S := rb_h (rb_t (rb_t hs))
  refine va_iast (D := kD κ) C.1.1 C.1.2.1 C.2.1.1 hw.1 hw.2.1 hw.2.2.1 p 0 (by rw [wl_get hp, celE_i hK (by omega)]) rfl hin hd (fun H1 locs1 hP hD hS => ?_)
  have hws := wl_set (c4 := k4 κ) (ad := ad) (S := S) (S' := sA S p i.toNatClampNeg x) (p := p) (e := .inl (k4 κ 0, N, .inl (upd (mA S p) i.toNatClampNeg x))) rfl (by rw [celE_i (S := sA S p i.toNatClampNeg x) hK (by omega), mA_sA_row]) (fun a ha => celE_sA ha)
  rw [hws] at hP hD
  exact k ad H1 locs1 lsA cells slots (wd_same hw hP hD hS hw.2.2.2.1 rfl rfl) hl (rb_t (rb_t (rb_t hs)))
theorem nar_01 {x : Int32} (h : x = 0 ∨ x = 1) : vp_nar .boolean x = x := by
  rcases h with rfl | rfl <;> decide
theorem g_zastD (C : Cx own cc nL ret d ini Φ κ) {p N : Nat} {i x : Int32} (hd : decode cc pc = .ok (.bastore, 1)) (hq : pc + 1 = q) (hK : mK S p = 100 + 4 * N + 1) (hin : vp_in i N) (h01 : x = 0 ∨ x = 1) (k : G κ rc rs (sA S p i.toNatClampNeg x) q ls st) : G κ rc rs S pc ls (.int x :: .int i :: .ref p :: st) := by
  subst hq
  intro ad H locs lsA cells slots hw hl hs
  have hp : p < mN S := rb_h (rb_t (rb_t hs))
  refine va_zast (D := kD κ) C.1.1 C.1.2.1 C.2.1.1 hw.1 hw.2.1 hw.2.2.1 p 1 (by rw [wl_get hp, celE_i hK (by omega)]) rfl hin hd (fun H1 locs1 hP hD hS => ?_)
  have hws := wl_set (c4 := k4 κ) (ad := ad) (S := S) (S' := sA S p i.toNatClampNeg x) (p := p) (e := .inl (k4 κ 1, N, .inl (upd (mA S p) i.toNatClampNeg (vp_nar .boolean x)))) rfl (by rw [celE_i (S := sA S p i.toNatClampNeg x) hK (by omega), mA_sA_row, nar_01 h01]) (fun a ha => celE_sA ha)
  rw [hws] at hP hD
  exact k ad H1 locs1 lsA cells slots (wd_same hw hP hD hS hw.2.2.2.1 rfl rfl) hl (rb_t (rb_t (rb_t hs)))
theorem g_lastD (C : Cx own cc nL ret d ini Φ κ) {p N : Nat} {i : Int32} {x : Int64} (hd : decode cc pc = .ok (.lastore, 1)) (hq : pc + 1 = q) (hK : mK S p = 100 + 4 * N + 2) (hin : vp_in i N) (k : G κ rc rs (sL S p i.toNatClampNeg x) q ls st) : G κ rc rs S pc ls (.long x :: .int i :: .ref p :: st) := by
  subst hq
  intro ad H locs lsA cells slots hw hl hs
  have hp : p < mN S := rb_h (rb_t (rb_t hs))
  refine va_last (D := kD κ) C.1.1 C.1.2.1 C.2.1.1 hw.1 hw.2.1 hw.2.2.1 p 2 (by rw [wl_get hp, celE_l hK]) rfl hin hd (fun H1 locs1 hP hD hS => ?_)
  have hrow : mL (sL S p i.toNatClampNeg x) p = vp_updL (mL S p) i.toNatClampNeg x := by
    funext b
    show u2 _ _ _ _ p b = _
    unfold u2 vp_updL
    rw [if_pos rfl]
  have hws := wl_set (c4 := k4 κ) (ad := ad) (S := S) (S' := sL S p i.toNatClampNeg x) (p := p) (e := .inl (k4 κ 2, N, .inr (.inl (vp_updL (mL S p) i.toNatClampNeg x)))) rfl (by rw [celE_l (S := sL S p i.toNatClampNeg x) hK, hrow]) (fun a ha => celE_sL ha)
  rw [hws] at hP hD
  exact k ad H1 locs1 lsA cells slots (wd_same hw hP hD hS hw.2.2.2.1 rfl rfl) hl (rb_t (rb_t (rb_t hs)))
theorem q_row {ad : Nat → Nat} {p j : Nat} {x : Option Nat} : (fun i => (mQ (sQ S p j x) p i).map ad) = va_up (fun i => (mQ S p i).map ad) j (x.map ad) := by
  funext b
  show Option.map ad (u2 (mQ S) p j x p b) = _
  unfold u2 va_up
  rw [if_pos rfl]
  by_cases h : b = j
  · rw [if_pos h, if_pos h]
  · rw [if_neg h, if_neg h]
theorem g_aastD (C : Cx own cc nL ret d ini Φ κ) {p N y : Nat} {i : Int32} (hd : decode cc pc = .ok (.aastore, 1)) (hq : pc + 1 = q) (hK : mK S p = 100 + 4 * N + 3) (hy : mK S y = 2) (hin : vp_in i N) (k : G κ rc rs (sQ S p i.toNatClampNeg (some y)) q ls st) : G κ rc rs S pc ls (.ref y :: .int i :: .ref p :: st) := by
  subst hq
  intro ad H locs lsA cells slots hw hl hs
  have hp : p < mN S := rb_h (rb_t (rb_t hs))
  have hyn : y < mN S := rb_h hs
  refine va_astq (D := kD κ) C.1.1 C.1.2.1 C.2.1.1 hw.1 hw.2.1 hw.2.2.1 p 3 y 2 (by rw [wl_get hp, celE_q hK]) (r := (CN 2, FT 2, FN 2)) rfl (by rw [wl_get hyn, celE_obj hy (by omega)]) (CL_at (by omega)) hin hd (fun H1 locs1 hP hD hS => ?_)
  have hws := wl_set (c4 := k4 κ) (ad := ad) (S := S) (S' := sQ S p i.toNatClampNeg (some y)) (p := p) (e := .inl (k4 κ 3, N, .inr (.inr (.inr (.inr (va_up (fun i => (mQ S p i).map ad) i.toNatClampNeg (some (ad y)))))))) rfl (by rw [celE_q (S := sQ S p i.toNatClampNeg (some y)) hK, q_row]; rfl) (fun a ha => celE_sQ ha)
  rw [hws] at hP hD
  exact k ad H1 locs1 lsA cells slots (wd_same hw hP hD hS (mwf_sQ hw.2.2.2.1 (fun k e => by cases e; exact hyn)) rfl rfl) hl (rb_t (rb_t (rb_t hs)))
theorem g_aastN (C : Cx own cc nL ret d ini Φ κ) {p N : Nat} {i : Int32} (hd : decode cc pc = .ok (.aastore, 1)) (hq : pc + 1 = q) (hK : mK S p = 100 + 4 * N + 3) (hin : vp_in i N) (k : G κ rc rs (sQ S p i.toNatClampNeg none) q ls st) : G κ rc rs S pc ls (.null :: .int i :: .ref p :: st) := by
  subst hq
  intro ad H locs lsA cells slots hw hl hs
  have hp : p < mN S := rb_h (rb_t (rb_t hs))
  refine va_astqN (D := kD κ) (C := RX2) C.1.1 C.1.2.1 C.2.1.1 hw.1 hw.2.1 hw.2.2.1 p 3 (by rw [wl_get hp, celE_q hK]) rfl hin hd (fun H1 locs1 hP hD hS => ?_)
  have hws := wl_set (c4 := k4 κ) (ad := ad) (S := S) (S' := sQ S p i.toNatClampNeg none) (p := p) (e := .inl (k4 κ 3, N, .inr (.inr (.inr (.inr (va_up (fun i => (mQ S p i).map ad) i.toNatClampNeg none)))))) rfl (by rw [celE_q (S := sQ S p i.toNatClampNeg none) hK, q_row]; rfl) (fun a ha => celE_sQ ha)
  rw [hws] at hP hD
  exact k ad H1 locs1 lsA cells slots (wd_same hw hP hD hS (mwf_sQ hw.2.2.2.1 (fun k e => by cases e)) rfl rfl) hl (rb_t (rb_t (rb_t hs)))
theorem g_aastQ (C : Cx own cc nL ret d ini Φ κ) {p N : Nat} {y : Option Nat} {i : Int32} (hd : decode cc pc = .ok (.aastore, 1)) (hq : pc + 1 = q) (hK : mK S p = 100 + 4 * N + 3) (hy : ∀ z, y = some z → mK S z = 2) (hin : vp_in i N) (k : G κ rc rs (sQ S p i.toNatClampNeg y) q ls st) : G κ rc rs S pc ls (va_rf y :: .int i :: .ref p :: st) := by
  cases y with
  | none => exact g_aastN C hd hq hK hin k
  | some z => exact g_aastD C hd hq hK (hy z rfl) hin k
end MROWS
end
section
/-! rows at places that stand from the beginning; new cells; contracts and calls -/
section SROWS
variable {own : String} {cc : ByteArray} {nL : Nat} {ret : Option FieldType} {d : Nat} {ini : Bool} {Φ : Option Value → Mem → Prop} {κ : Kx} {rc rs : Nat} {S : Mem} {pc q : Nat} {ls st : List Value}
def ck1 (p j : Nat) : Bool := decide (p < 44) && (decide (K0 p < 9) && decide (j < FN (K0 p)))
theorem ck1_ok {p j : Nat} (h : ck1 p j = true) : p < 44 ∧ K0 p < 9 ∧ j < FN (K0 p) := by
  unfold ck1 at h
  simpa only [Bool.and_eq_true, decide_eq_true_eq] using h
def ck2 (p t : Nat) : Bool := decide (p < 44) && (decide (100 ≤ K0 p) && decide (K0 p % 4 = t))
theorem ck2_ok {p t : Nat} (h : ck2 p t = true) : p < 44 ∧ K0 p = 100 + 4 * ((K0 p - 100) / 4) + t := by
  unfold ck2 at h
  simp only [Bool.and_eq_true, decide_eq_true_eq] at h
  exact ⟨h.1, by omega⟩
theorem wk {ad : Nat → Nat} {H : Heap} {locs : List Loc} {cells slots p : Nat} (hw : Wd κ rc rs S ad H locs cells slots) (hp : p < mN S) (h : p < 44) : mK S p = K0 p := hw.2.2.2.2.2.2.1 p hp h
theorem g_geti (C : Cx own cc nL ret d ini Φ κ) {p : Nat} (j : Nat) {index : Nat} (hd : decode cc pc = .ok (.getfield index, 3)) (hq : pc + 3 = q) (hc : ck1 p j = true) (hf : fint (K0 p) j = true) (hu : Cond.fieldLink own index (FT (K0 p) j).1 (FT (K0 p) j).2.1 (FT (K0 p) j).2.2.1 ∈ UT) (k : G κ rc rs S q ls (.int (mI S p j) :: st)) : G κ rc rs S pc ls (.ref p :: st) :=
  fun ad H locs lsA cells slots hw hl hs => g_getD C hd hq (wk hw (rb_h hs) (ck1_ok hc).1) (ck1_ok hc).2.1 (ck1_ok hc).2.2 hu (if_pos hf) k ad H locs lsA cells slots hw hl hs
theorem g_getr (C : Cx own cc nL ret d ini Φ κ) {p : Nat} (j : Nat) {index r : Nat} (hd : decode cc pc = .ok (.getfield index, 3)) (hq : pc + 3 = q) (hc : ck1 p j = true) (hf : fint (K0 p) j = false) (hu : Cond.fieldLink own index (FT (K0 p) j).1 (FT (K0 p) j).2.1 (FT (K0 p) j).2.2.1 ∈ UT) (hr : mR S p j = some r) (k : G κ rc rs S q ls (.ref r :: st)) : G κ rc rs S pc ls (.ref p :: st) :=
  fun ad H locs lsA cells slots hw hl hs => g_getD C hd hq (wk hw (rb_h hs) (ck1_ok hc).1) (ck1_ok hc).2.1 (ck1_ok hc).2.2 hu (by rw [if_neg (by rw [hf]; decide), hr]; rfl) k ad H locs lsA cells slots hw hl hs
theorem g_getiD (C : Cx own cc nL ret d ini Φ κ) {p ci : Nat} (j : Nat) {index : Nat} (hd : decode cc pc = .ok (.getfield index, 3)) (hq : pc + 3 = q) (hK : mK S p = ci) (hc : ci < 9) (hj : j < FN ci) (hf : fint ci j = true) (hu : Cond.fieldLink own index (FT ci j).1 (FT ci j).2.1 (FT ci j).2.2.1 ∈ UT) (k : G κ rc rs S q ls (.int (mI S p j) :: st)) : G κ rc rs S pc ls (.ref p :: st) := g_getD C hd hq hK hc hj hu (if_pos hf) k
theorem g_getrD (C : Cx own cc nL ret d ini Φ κ) {p ci : Nat} (j : Nat) {index r : Nat} (hd : decode cc pc = .ok (.getfield index, 3)) (hq : pc + 3 = q) (hK : mK S p = ci) (hc : ci < 9) (hj : j < FN ci) (hf : fint ci j = false) (hu : Cond.fieldLink own index (FT ci j).1 (FT ci j).2.1 (FT ci j).2.2.1 ∈ UT) (hr : mR S p j = some r) (k : G κ rc rs S q ls (.ref r :: st)) : G κ rc rs S pc ls (.ref p :: st) := g_getD C hd hq hK hc hj hu (by rw [if_neg (by rw [hf]; decide), hr]; rfl) k
theorem g_puti (C : Cx own cc nL ret d ini Φ κ) {p : Nat} (j : Nat) {index : Nat} {x : Int32} (hd : decode cc pc = .ok (.putfield index, 3)) (hq : pc + 3 = q) (hc : ck1 p j = true) (hf : fint (K0 p) j = true) (hp9 : pOk own ini (K0 p) j) (hu : Cond.fieldLink own index (FT (K0 p) j).1 (FT (K0 p) j).2.1 (FT (K0 p) j).2.2.1 ∈ UT) (k : G κ rc rs (sI S p j x) q ls st) : G κ rc rs S pc ls (.int x :: .ref p :: st) :=
  fun ad H locs lsA cells slots hw hl hs => g_putiD C hd hq (wk hw (rb_h (rb_t hs)) (ck1_ok hc).1) (ck1_ok hc).2.1 (ck1_ok hc).2.2 hf hp9 hu k ad H locs lsA cells slots hw hl hs
theorem g_putr (C : Cx own cc nL ret d ini Φ κ) {p : Nat} (j : Nat) {index y : Nat} (hd : decode cc pc = .ok (.putfield index, 3)) (hq : pc + 3 = q) (hc : ck1 p j = true) (hf : fint (K0 p) j = false) (hp9 : pOk own ini (K0 p) j) (hu : Cond.fieldLink own index (FT (K0 p) j).1 (FT (K0 p) j).2.1 (FT (K0 p) j).2.2.1 ∈ UT) (k : G κ rc rs (sR S p j (some y)) q ls st) : G κ rc rs S pc ls (.ref y :: .ref p :: st) :=
  fun ad H locs lsA cells slots hw hl hs => g_putrD (x := some y) C hd hq (wk hw (rb_h (rb_t hs)) (ck1_ok hc).1) (ck1_ok hc).2.1 (ck1_ok hc).2.2 hf hp9 hu k ad H locs lsA cells slots hw hl hs
theorem g_iald (C : Cx own cc nL ret d ini Φ κ) {p : Nat} {i : Int32} (hd : decode cc pc = .ok (.iaload, 1)) (hq : pc + 1 = q) (hc : ck2 p 0 = true) (hin : vp_in i ((K0 p - 100) / 4)) (k : G κ rc rs S q ls (.int (mA S p i.toNatClampNeg) :: st)) : G κ rc rs S pc ls (.int i :: .ref p :: st) :=
  fun ad H locs lsA cells slots hw hl hs => g_ialdD C hd hq ((wk hw (rb_h (rb_t hs)) (ck2_ok hc).1).trans (ck2_ok hc).2) hin k ad H locs lsA cells slots hw hl hs
theorem g_zald (C : Cx own cc nL ret d ini Φ κ) {p : Nat} {i : Int32} (hd : decode cc pc = .ok (.baload, 1)) (hq : pc + 1 = q) (hc : ck2 p 1 = true) (hin : vp_in i ((K0 p - 100) / 4)) (k : G κ rc rs S q ls (.int (mA S p i.toNatClampNeg) :: st)) : G κ rc rs S pc ls (.int i :: .ref p :: st) :=
  fun ad H locs lsA cells slots hw hl hs => g_zaldD C hd hq ((wk hw (rb_h (rb_t hs)) (ck2_ok hc).1).trans (ck2_ok hc).2) hin k ad H locs lsA cells slots hw hl hs
theorem g_lald (C : Cx own cc nL ret d ini Φ κ) {p : Nat} {i : Int32} (hd : decode cc pc = .ok (.laload, 1)) (hq : pc + 1 = q) (hc : ck2 p 2 = true) (hin : vp_in i ((K0 p - 100) / 4)) (k : G κ rc rs S q ls (.long (mL S p i.toNatClampNeg) :: st)) : G κ rc rs S pc ls (.int i :: .ref p :: st) :=
  fun ad H locs lsA cells slots hw hl hs => g_laldD C hd hq ((wk hw (rb_h (rb_t hs)) (ck2_ok hc).1).trans (ck2_ok hc).2) hin k ad H locs lsA cells slots hw hl hs
theorem g_aald (C : Cx own cc nL ret d ini Φ κ) {p : Nat} {i : Int32} (hd : decode cc pc = .ok (.aaload, 1)) (hq : pc + 1 = q) (hc : ck2 p 3 = true) (hin : vp_in i ((K0 p - 100) / 4)) (k : G κ rc rs S q ls (va_rf (mQ S p i.toNatClampNeg) :: st)) : G κ rc rs S pc ls (.int i :: .ref p :: st) :=
  fun ad H locs lsA cells slots hw hl hs => g_aaldD C hd hq ((wk hw (rb_h (rb_t hs)) (ck2_ok hc).1).trans (ck2_ok hc).2) hin k ad H locs lsA cells slots hw hl hs
theorem g_iast (C : Cx own cc nL ret d ini Φ κ) {p : Nat} {i x : Int32} (hd : decode cc pc = .ok (.iastore, 1)) (hq : pc + 1 = q) (hc : ck2 p 0 = true) (hin : vp_in i ((K0 p - 100) / 4)) (k : G κ rc rs (sA S p i.toNatClampNeg x) q ls st) : G κ rc rs S pc ls (.int x :: .int i :: .ref p :: st) :=
  fun ad H locs lsA cells slots hw hl hs => g_iastD C hd hq ((wk hw (rb_h (rb_t (rb_t hs))) (ck2_ok hc).1).trans (ck2_ok hc).2) hin k ad H locs lsA cells slots hw hl hs
theorem g_zast (C : Cx own cc nL ret d ini Φ κ) {p : Nat} {i x : Int32} (hd : decode cc pc = .ok (.bastore, 1)) (hq : pc + 1 = q) (hc : ck2 p 1 = true) (hin : vp_in i ((K0 p - 100) / 4)) (h01 : x = 0 ∨ x = 1) (k : G κ rc rs (sA S p i.toNatClampNeg x) q ls st) : G κ rc rs S pc ls (.int x :: .int i :: .ref p :: st) :=
  fun ad H locs lsA cells slots hw hl hs => g_zastD C hd hq ((wk hw (rb_h (rb_t (rb_t hs))) (ck2_ok hc).1).trans (ck2_ok hc).2) hin h01 k ad H locs lsA cells slots hw hl hs
theorem g_last (C : Cx own cc nL ret d ini Φ κ) {p : Nat} {i : Int32} {x : Int64} (hd : decode cc pc = .ok (.lastore, 1)) (hq : pc + 1 = q) (hc : ck2 p 2 = true) (hin : vp_in i ((K0 p - 100) / 4)) (k : G κ rc rs (sL S p i.toNatClampNeg x) q ls st) : G κ rc rs S pc ls (.long x :: .int i :: .ref p :: st) :=
  fun ad H locs lsA cells slots hw hl hs => g_lastD C hd hq ((wk hw (rb_h (rb_t (rb_t hs))) (ck2_ok hc).1).trans (ck2_ok hc).2) hin k ad H locs lsA cells slots hw hl hs
theorem g_aast (C : Cx own cc nL ret d ini Φ κ) {p : Nat} {y : Option Nat} {i : Int32} (hd : decode cc pc = .ok (.aastore, 1)) (hq : pc + 1 = q) (hc : ck2 p 3 = true) (hin : vp_in i ((K0 p - 100) / 4)) (hy : ∀ z, y = some z → mK S z = 2) (k : G κ rc rs (sQ S p i.toNatClampNeg y) q ls st) : G κ rc rs S pc ls (va_rf y :: .int i :: .ref p :: st) :=
  fun ad H locs lsA cells slots hw hl hs => g_aastQ C hd hq ((wk hw (rb_h (rb_t (rb_t hs))) (ck2_ok hc).1).trans (ck2_ok hc).2) hy hin k ad H locs lsA cells slots hw hl hs
/-- the world with a cell more -/
theorem wd_new {ad : Nat → Nat} {H H1 : Heap} {locs : List Loc} {cells slots kk a z : Nat} {lsA : Array Slot} (hw : Wd κ (rc + 1) (rs + z) S ad H locs cells slots) (hk0 : mN S < 44 → K0 (mN S) = kk) (hP : va_P (kD κ) CL (wl (k4 κ) ad S ++ [(a, celE (k4 κ) (u1 ad (mN S) a) (sN S kk) (mN S))]) H1) (hD : va_D (kA κ) (wl (k4 κ) ad S ++ [(a, celE (k4 κ) (u1 ad (mN S) a) (sN S kk) (mN S))])) (hS : va_S (kA κ) (ks κ).heap H1 locs) (hl : Lo κ S ad lsA ls) (hs : ∀ v ∈ st, rb (mN S) v)
    (k : G κ rc rs (sN S kk) q ls (.ref (mN S) :: st)) : WW κ H1 locs (cells + 1) (slots + z) (F0 (km κ) q lsA (.ref a :: st.map (cv ad))) := by
  have hle : ∀ j, j < mN S → u1 ad (mN S) a j = ad j := fun j hj => by unfold u1; rw [if_neg (by omega)]
  rw [wl_push hw.2.2.2.1] at hP hD
  have h1 := k (u1 ad (mN S) a) H1 locs lsA (cells + 1) (slots + z) ⟨hP, hD, hS, mwf_sN hw.2.2.2.1 kk, fun j hj => by rw [hle j (Nat.lt_of_lt_of_le hj hw.2.2.2.2.2.1)]; exact hw.2.2.2.2.1 j hj, Nat.le_succ_of_le hw.2.2.2.2.2.1, fun p hp h44 => ?_, by have := hw.2.2.2.2.2.2.2.1; omega, by have := hw.2.2.2.2.2.2.2.2; omega⟩
    ⟨⟨hl.1.1, hl.1.2.1, hl.1.2.2.1, fun i v hv hf => by rw [cv_same hle (hl.2.1 v (List.mem_of_getElem? hv))]; exact hl.1.2.2.2 i v hv hf⟩, fun v hv => rb_mono (Nat.le_succ _) (hl.2.1 v hv), hl.2.2⟩
    (rb_c (Nat.lt_succ_self _) (fun v hv => rb_mono (Nat.le_succ _) (hs v hv)))
  · rw [List.map_cons, cv_sameL hle hs] at h1
    have e : cv (u1 ad (mN S) a) (.ref (mN S)) = .ref a := by show Value.ref (u1 ad (mN S) a (mN S)) = _; unfold u1; rw [if_pos rfl]
    rw [e] at h1
    exact h1
  · show u1 (mK S) (mN S) kk p = K0 p
    unfold u1
    by_cases e : p = mN S
    · rw [if_pos e, e]
      exact (hk0 (by omega)).symm
    · rw [if_neg e]
      have hp : p < mN S + 1 := hp
      exact hw.2.2.2.2.2.2.1 p (by omega) h44
theorem mK_sN {k : Nat} : mK (sN S k) (mN S) = k := by show u1 _ _ _ _ = _; unfold u1; rw [if_pos rfl]
theorem mI_sN {k : Nat} : mI (sN S k) (mN S) = fun _ => 0 := by show u1 _ _ _ _ = _; unfold u1; rw [if_pos rfl]
theorem mR_sN {k : Nat} : mR (sN S k) (mN S) = fun _ => none := by show u1 _ _ _ _ = _; unfold u1; rw [if_pos rfl]
theorem mA_sN {k : Nat} : mA (sN S k) (mN S) = fun _ => 0 := by show u1 _ _ _ _ = _; unfold u1; rw [if_pos rfl]
theorem mL_sN {k : Nat} : mL (sN S k) (mN S) = fun _ => 0 := by show u1 _ _ _ _ = _; unfold u1; rw [if_pos rfl]
theorem mQ_sN {k : Nat} : mQ (sN S k) (mN S) = fun _ => none := by show u1 _ _ _ _ = _; unfold u1; rw [if_pos rfl]
theorem def_ref {ty : FieldType} (h : isRefTy ty = true) : defaultValue ty = .null := by cases ty <;> first | rfl | cases h
theorem g_new (C : Cx own cc nL ret d ini Φ κ) (ci : Nat) {index : Nat} (hd : decode cc pc = .ok (.new index, 3)) (hq : pc + 3 = q) (hc : ci < 9) (hu1 : Cond.classLink own index (CN ci) ∈ UT) (hu2 : Cond.instantiable (CN ci) (FN ci) ∈ UT) (hu3 : Cond.initialized (CN ci) ∈ UT) (hk0 : mN S < 44 → K0 (mN S) = ci) (k : G κ rc rs (sN S ci) q ls (.ref (mN S) :: st)) : G κ (rc + 1) (rs + FN ci) S pc ls st := by
  subst hq
  intro ad H locs lsA cells slots hw hl hs
  have hcel : ∀ a, celE (k4 κ) (u1 ad (mN S) a) (sN S ci) (mN S) = .inr (ci, (List.range (FN ci)).map (fun j => if fint ci j = true then .int 0 else .null)) := fun a => by
    rw [celE_obj mK_sN hc, mI_sN, mR_sN]
    rfl
  refine va_new (D := kD κ) (ci := ci) (fs := (List.range (FN ci)).map (fun j => if fint ci j = true then .int 0 else .null)) C.1.1 C.1.2.1 C.1.2.2.2.2 (lay_ok ci hc) (FY ci) (ty_ok ci hc) C.1.2.2.2.1 (C.1.2.2.2.2 _ hu1) (C.1.2.2.2.2 _ hu2) (C.1.2.2.2.2 _ hu3) C.2.1.1 hw.1 hw.2.1 hw.2.2.1 C.2.2.1.1 (CL_at hc) (fun j hj => ?_) (by have h1 := hw.2.2.2.2.2.2.2.1; have h2 := C.2.2.1.2.1; omega) (by have h1 := hw.2.2.2.2.2.2.2.2; have h2 := C.2.2.1.2.2; omega) hd (fun a H1 hP hD hS => ?_)
  · unfold vp_V
    rw [List.getD_eq_getElem?_getD, List.getElem?_map, List.getElem?_range hj]
    show _ = (if fint ci j = true then Value.int 0 else Value.null)
    by_cases hf : fint ci j = true
    · rw [if_pos hf, fy_int hf]; rfl
    · rw [if_neg hf]; exact def_ref (fy_ref ci hc j hj (by simpa using hf))
  · rw [← hcel a] at hP hD
    exact wd_new hw hk0 hP hD hS hl hs k
theorem ra_fun {U : State} {a b : ClassId} {ty : FieldType} (h1 : va_RA U a ty) (h2 : va_RA U b ty) : a = b := by
  cases ty with
  | object C =>
    obtain ⟨_, _, _, _, _, e1⟩ := h1
    obtain ⟨_, _, _, _, _, e2⟩ := h2
    exact Option.some.inj (e1.symm.trans e2)
  | _ => exact Option.some.inj (Eq.trans (Eq.symm h1) h2)
theorem g_newi (C : Cx own cc nL ret d ini Φ κ) (N : Nat) {n : Int32} (hd : decode cc pc = .ok (.newarray .int, 2)) (hq : pc + 2 = q) (hn : ¬ n < 0) (hN : n.toNatClampNeg = N) (hb : N ≤ 1000) (hk0 : mN S < 44 → K0 (mN S) = 100 + 4 * N + 0) (k : G κ rc rs (sN S (100 + 4 * N + 0)) q ls (.ref (mN S) :: st)) : G κ (rc + 1) (rs + N) S pc ls (.int n :: st) := by
  subst hq
  intro ad H locs lsA cells slots hw hl hs
  refine va_newa (D := kD κ) (atype := .int) (ty := .int) (a0 := (N, .inl (fun _ => 0))) C.1.1 C.1.2.1 (C.1.2.2.2.2 _ ac_int) rfl C.2.1.1 hw.1 hw.2.1 hw.2.2.1 C.2.2.1.1 (fun cA => rfl) hn hN (by show N * 4 ≤ _; omega) (by have h1 := hw.2.2.2.2.2.2.2.1; have h2 := C.2.2.1.2.1; omega) (by have h1 := hw.2.2.2.2.2.2.2.2; have h2 := C.2.2.1.2.2; omega) hd (fun a cA H1 hK hP hD hS => ?_)
  have hA : cA = k4 κ 0 := ra_fun (hK.2 4 (cA, .int) rfl).2 (C.2.1.1.2 0 _ rfl).2
  subst hA
  have hcel : celE (k4 κ) (u1 ad (mN S) a) (sN S (100 + 4 * N + 0)) (mN S) = .inl (k4 κ 0, N, .inl (fun _ => 0)) := by rw [celE_i mK_sN (by omega), mA_sN]
  rw [← hcel] at hP hD
  exact wd_new hw hk0 hP hD hS hl (rb_t hs) k
theorem g_newz (C : Cx own cc nL ret d ini Φ κ) (N : Nat) {n : Int32} (hd : decode cc pc = .ok (.newarray .boolean, 2)) (hq : pc + 2 = q) (hn : ¬ n < 0) (hN : n.toNatClampNeg = N) (hb : N ≤ 1000) (hk0 : mN S < 44 → K0 (mN S) = 100 + 4 * N + 1) (k : G κ rc rs (sN S (100 + 4 * N + 1)) q ls (.ref (mN S) :: st)) : G κ (rc + 1) (rs + N) S pc ls (.int n :: st) := by
  subst hq
  intro ad H locs lsA cells slots hw hl hs
  refine va_newa (D := kD κ) (atype := .boolean) (ty := .boolean) (a0 := (N, .inl (fun _ => 0))) C.1.1 C.1.2.1 (C.1.2.2.2.2 _ ac_boolean) rfl C.2.1.1 hw.1 hw.2.1 hw.2.2.1 C.2.2.1.1 (fun cA => rfl) hn hN (by show N * 1 ≤ _; omega) (by have h1 := hw.2.2.2.2.2.2.2.1; have h2 := C.2.2.1.2.1; omega) (by have h1 := hw.2.2.2.2.2.2.2.2; have h2 := C.2.2.1.2.2; omega) hd (fun a cA H1 hK hP hD hS => ?_)
  have hA : cA = k4 κ 1 := ra_fun (hK.2 4 (cA, .boolean) rfl).2 (C.2.1.1.2 1 _ rfl).2
  subst hA
  have hcel : celE (k4 κ) (u1 ad (mN S) a) (sN S (100 + 4 * N + 1)) (mN S) = .inl (k4 κ 1, N, .inl (fun _ => 0)) := by rw [celE_i mK_sN (by omega), mA_sN]
  rw [← hcel] at hP hD
  exact wd_new hw hk0 hP hD hS hl (rb_t hs) k
theorem g_newl (C : Cx own cc nL ret d ini Φ κ) (N : Nat) {n : Int32} (hd : decode cc pc = .ok (.newarray .long, 2)) (hq : pc + 2 = q) (hn : ¬ n < 0) (hN : n.toNatClampNeg = N) (hb : N ≤ 1000) (hk0 : mN S < 44 → K0 (mN S) = 100 + 4 * N + 2) (k : G κ rc rs (sN S (100 + 4 * N + 2)) q ls (.ref (mN S) :: st)) : G κ (rc + 1) (rs + N) S pc ls (.int n :: st) := by
  subst hq
  intro ad H locs lsA cells slots hw hl hs
  refine va_newa (D := kD κ) (atype := .long) (ty := .long) (a0 := (N, .inr (.inl (fun _ => 0)))) C.1.1 C.1.2.1 (C.1.2.2.2.2 _ ac_long) rfl C.2.1.1 hw.1 hw.2.1 hw.2.2.1 C.2.2.1.1 (fun cA => rfl) hn hN (by show N * 8 ≤ _; omega) (by have h1 := hw.2.2.2.2.2.2.2.1; have h2 := C.2.2.1.2.1; omega) (by have h1 := hw.2.2.2.2.2.2.2.2; have h2 := C.2.2.1.2.2; omega) hd (fun a cA H1 hK hP hD hS => ?_)
  have hA : cA = k4 κ 2 := ra_fun (hK.2 4 (cA, .long) rfl).2 (C.2.1.1.2 2 _ rfl).2
  subst hA
  have hcel : celE (k4 κ) (u1 ad (mN S) a) (sN S (100 + 4 * N + 2)) (mN S) = .inl (k4 κ 2, N, .inr (.inl (fun _ => 0))) := by rw [celE_l mK_sN, mL_sN]
  rw [← hcel] at hP hD
  exact wd_new hw hk0 hP hD hS hl (rb_t hs) k
theorem g_newq (C : Cx own cc nL ret d ini Φ κ) (N : Nat) {index : Nat} {n : Int32} (hd : decode cc pc = .ok (.anewarray index, 3)) (hq : pc + 3 = q) (hu : Cond.classLink own index RX2 ∈ UT) (hn : ¬ n < 0) (hN : n.toNatClampNeg = N) (hb : N ≤ 1000) (hk0 : mN S < 44 → K0 (mN S) = 100 + 4 * N + 3) (k : G κ rc rs (sN S (100 + 4 * N + 3)) q ls (.ref (mN S) :: st)) : G κ (rc + 1) (rs + N) S pc ls (.int n :: st) := by
  subst hq
  intro ad H locs lsA cells slots hw hl hs
  refine va_newq (D := kD κ) (C := RX2) C.1.1 C.1.2.1 C.1.2.2.2.1 (C.1.2.2.2.2 _ hu) C.2.1.2.2 C.2.1.1 hw.1 hw.2.1 hw.2.2.1 C.2.2.1.1 hn hN (by omega) (by have h1 := hw.2.2.2.2.2.2.2.1; have h2 := C.2.2.1.2.1; omega) (by have h1 := hw.2.2.2.2.2.2.2.2; have h2 := C.2.2.1.2.2; omega) hd (fun a cA H1 hK hP hD hS => ?_)
  have hA : cA = k4 κ 3 := ra_fun (hK.2 4 (cA, .object RX2) rfl).2 (C.2.1.1.2 3 _ rfl).2
  subst hA
  have hcel : celE (k4 κ) (u1 ad (mN S) a) (sN S (100 + 4 * N + 3)) (mN S) = .inl (k4 κ 3, N, .inr (.inr (.inr (.inr (fun _ => none))))) := by rw [celE_q mK_sN, mQ_sN]; rfl
  rw [← hcel] at hP hD
  exact wd_new hw hk0 hP hD hS hl (rb_t hs) k
theorem cat_sum (ad : Nat → Nat) (l : List Value) : ((l.map (cv ad)).map fun v => v.category).sum = (l.map fun v => v.category).sum := by
  rw [List.map_map]
  exact congrArg List.sum (List.map_congr_left (fun v _ => cv_cat ad v))
theorem g_objInit (C : Cx own cc nL ret d ini Φ κ) {index p : Nat} (hd : decode cc pc = .ok (.invokespecial index, 3)) (hq : pc + 3 = q) (hu : Cond.methodLink own index objectInit ∈ UT) (hdp : 1 ≤ d) (hsm : (st.map fun v => v.category).sum ≤ 8) (k : G κ rc rs S q ls st) : G κ rc rs S pc ls (.ref p :: st) := by
  subst hq
  intro ad H locs lsA cells slots hw hl hs
  refine W.objInit C.1.1 C.1.2.1 C.1.2.2.2.1 (C.1.2.2.2.2 _ hu) (C.1.2.2.2.2 _ im_objectInit) (C.1.2.2.2.2 _ co_objectInit) rfl (hl.1.1) rfl hd (Nat.le_trans hdp C.2.2.2.1.1) ?_ ?_
  · have h1 := C.2.2.2.1.2
    rw [cat_sum]
    have h2 : (F0 (km κ) pc lsA ((Value.ref p :: st).map (cv ad))).monitorRoom = 0 := rfl
    omega
  · exact k ad H locs lsA cells slots hw hl (rb_t hs)
end SROWS
end
section
/-! contracts over the memory, and the rows of calls -/
def Wo (D : va_G) (c4 : Nat → ClassId) (ad : Nat → Nat) (S : Mem) (U : State) : Prop := va_P D CL (wl c4 ad S) U.heap ∧ va_K D CL (tys4 c4) U ∧ va_D (fun _ => True) (wl c4 ad S) ∧ mwf S ∧ (∀ p, p < mN S → p < 44 → mK S p = K0 p) ∧ (∀ q ∈ NW, va_Nw (.methodLinkNest q.1 q.2.1 q.2.2.1 q.2.2.2) U) ∧ va_AO RX2 U
def Po (c4 : Nat → ClassId) (D : va_G) (ad : Nat → Nat) (sz : Nat) (a : List Value) (S : Mem) : Array Value → State → Prop := va_Pc (a.map (cv ad)) (fun U => U.heap.size = sz ∧ Wo D c4 ad S U ∧ ∀ v ∈ a, rb (mN S) v)
def Qo (c4 : Nat → ClassId) (D : va_G) (ad : Nat → Nat) (sz : Nat) (S : Mem) (Φ : Option Value → Mem → Prop) : Array Value → State → Outcome → State → Prop := fun _ st oc t =>
  (∃ (r : Option Value) (ad' : Nat → Nat) (S' : Mem), oc = .returned (r.map (cv ad')) ∧ Φ r S' ∧ mN S ≤ mN S' ∧ (∀ k, k < mN S → ad' k = ad k) ∧ (∀ v ∈ r.toList, rb (mN S') v) ∧ mwf S' ∧ (∀ p, p < mN S' → p < 44 → mK S' p = K0 p) ∧ va_P D CL (wl c4 ad' S') t.heap ∧ va_D (va_A (wl c4 ad S) sz) (wl c4 ad' S')) ∧ va_F (va_A (wl c4 ad S) sz) st t
/-- the method y, called with a over the memory S, comes back with an answer and a memory of which Φ is so -/
def Ok (y : MethodName) (cc : ByteArray) (nL : Nat) (ret : Option FieldType) (d mc ms : Nat) (a : List Value) (S : Mem) (Φ : Option Value → Mem → Prop) : Prop :=
  ∀ (l : Launch) (D : va_G) (c4 : Nat → ClassId) (ad : Nat → Nat) (sz : Nat), Met l y (.code y cc nL ret :: UT) { frames := d, cells := mc, slots := ms, locals := 40 * d } (Po c4 D ad sz a S) (Qo c4 D ad sz S Φ) mc ms (va_A (wl c4 ad S) sz)
theorem Ok.weaken {y : MethodName} {cc : ByteArray} {nL : Nat} {ret : Option FieldType} {d mc ms : Nat} {a : List Value} {S : Mem} {Φ Ψ : Option Value → Mem → Prop} (h : Ok y cc nL ret d mc ms a S Φ) (hi : ∀ r S', Φ r S' → Ψ r S') : Ok y cc nL ret d mc ms a S Ψ := by
  intro l D c4 ad sz p e ha hc hk s m args below hf happ hP hx
  obtain ⟨n, o, h1, h2, h3, ⟨⟨r, ad', S', e1, e2, e3⟩, hF⟩, hL⟩ := h l D c4 ad sz p e ha hc hk s m args below hf happ hP hx
  exact ⟨n, o, h1, h2, h3, ⟨⟨r, ad', S', e1, hi _ _ e2, e3⟩, hF⟩, hL⟩
def entL (a : List Value) : List Value := a.flatMap (fun v => if v.category = 2 then [v, .float 0] else [v])
theorem entL_cons (v : Value) (a : List Value) : entL (v :: a) = (if v.category = 2 then [v, .float 0] else [v]) ++ entL a := by simp [entL]
theorem entL_len (ad : Nat → Nat) (a : List Value) : (lg_sl (a.map (cv ad))).length = (entL a).length := by
  induction a with
  | nil => rfl
  | cons v a ih =>
    have e : lg_sl ((v :: a).map (cv ad)) = (if (cv ad v).category = 2 then [.val (cv ad v), .second] else [.val (cv ad v)]) ++ lg_sl (a.map (cv ad)) := by simp [lg_sl]
    rw [e, entL_cons, cv_cat, List.length_append, List.length_append, ih]
    by_cases h : v.category = 2
    · rw [if_pos h, if_pos h]; rfl
    · rw [if_neg h, if_neg h]; rfl
theorem entL_at (ad : Nat → Nat) : ∀ (a : List Value) (i0 i : Nat) (v : Value), (entL a)[i]? = some v → isF v = false → (i0 + i, cv ad v) ∈ lv_args i0 (a.map (cv ad))
  | [], i0, i, v, h, _ => by simp [entL] at h
  | w :: a, i0, i, v, h, hf => by
    rw [entL_cons] at h
    rw [List.map_cons, lv_args, cv_cat]
    by_cases hc : w.category = 2
    · rw [if_pos hc] at h ⊢
      match i, h with
      | 0, h =>
        cases h
        exact List.mem_cons_self
      | 1, h =>
        cases h
        cases hf
      | i + 2, h =>
        have h : (entL a)[i]? = some v := h
        have := entL_at ad a (i0 + 2) i v h hf
        rw [show i0 + (i + 2) = i0 + 2 + i by omega]
        exact List.mem_cons_of_mem _ this
    · rw [if_neg hc] at h ⊢
      match i, h with
      | 0, h =>
        cases h
        exact List.mem_cons_self
      | i + 1, h =>
        have h : (entL a)[i]? = some v := h
        have := entL_at ad a (i0 + 1) i v h hf
        rw [show i0 + (i + 1) = i0 + 1 + i by omega]
        exact List.mem_cons_of_mem _ this
theorem entL_rb {n : Nat} {a : List Value} (h : ∀ v ∈ a, rb n v) : ∀ v ∈ entL a, rb n v := by
  intro v hv
  unfold entL at hv
  obtain ⟨w, hw, hv⟩ := List.mem_flatMap.mp hv
  by_cases hc : w.category = 2
  · rw [if_pos hc] at hv
    rcases List.mem_cons.mp hv with rfl | hv
    · exact h v hw
    · rcases List.mem_cons.mp hv with rfl | hv
      · trivial
      · cases hv
  · rw [if_neg hc] at hv
    rcases List.mem_cons.mp hv with rfl | hv
    · exact h v hw
    · cases hv
theorem Ok.of {y : MethodName} {cc : ByteArray} {nL : Nat} {ret : Option FieldType} {d mc ms : Nat} {a ls : List Value} {S : Mem} {Φ : Option Value → Mem → Prop} (hy : plainName y.cls = true) (hle : (entL a).length ≤ nL) (hls : entL a ++ List.replicate (nL - (entL a).length) (.float 0) = ls)
    (body : ∀ κ : Kx, Cx y.cls cc nL ret d (decide (y.name = "<init>")) Φ κ → kx κ = none → G κ mc ms S 0 ls []) : Ok y cc nL ret d mc ms a S Φ := by
  subst hls
  intro l D c4 ad sz
  refine Met.ofW (cc := cc) (maxL := nL) (ret := ret) hy rfl ?_
  intro p e s m args below meth c s₁ B hml hv
  obtain ⟨rfl, hsz, ⟨hP, hK, hD, hm, hk0, hN, hAO⟩, hrb⟩ := hv
  subst hsz
  have hx := B.exec
  have hb := B.bytes
  have hr := B.returns
  have hts := atoms_spec (ws := Cond.code y cc nL ret :: UT) B.pre
  have hown : s.vm.findClass y.cls = some m.cls := findClass_of_methodNamed B.named
  have hlocks := B.notSynchronized
  have hin : meth.name = y.name := (name_of_methodNamed B.named B.method).1
  have hG := body ((p, l, e, (headSpec (Cond.code y cc nL ret :: UT) { frames := d, cells := mc, slots := ms, locals := 40 * d }).room, s), (m, (a.map (cv ad)).toArray, below, meth, c), D, c4, va_A (wl c4 ad S) s.heap.size, MQ below (Qo c4 D ad s.heap.size S Φ) (a.map (cv ad)).toArray s mc ms (va_A (wl c4 ad S) s.heap.size), mN S, ad, mc, ms, none)
    ⟨⟨hx, hb, hml, hown, fun w hw => hts w (List.mem_cons_of_mem _ hw)⟩, ⟨hK, hN, hAO⟩, ⟨fun q h => Or.inr h, Nat.le_refl _, Nat.le_refl _⟩, ⟨Nat.le_refl _, Nat.le_refl _⟩, fun h => hin.trans (of_decide_eq_true h), ?_⟩ rfl
  · rw [lg_entry_eq]
    have hl := lv_entry (a.map (cv ad)) (n := nL) (by rw [entL_len]; exact hle)
    refine hG ad s.heap [] _ 0 0 ⟨hP, hD.self, va_S.rf, hm, fun _ _ => rfl, Nat.le_refl _, hk0, by show 0 + mc ≤ mc; omega, by show 0 + ms ≤ ms; omega⟩ ⟨⟨hl.1.trans hml.symm, hl.2.1, ?_, fun i v hi hf => ?_⟩, fun v hv => ?_, fun b hb => by cases hb⟩ (fun v hv => by cases hv)
    · rw [List.length_append, List.length_replicate]
      show _ ≤ c.maxLocals
      omega
    · by_cases hil : i < (entL a).length
      · rw [List.getElem?_append_left hil] at hi
        have := hl.2.2 _ (entL_at ad a 0 i v hi hf)
        rw [Nat.zero_add] at this
        exact this
      · rw [List.getElem?_append_right (by omega)] at hi
        have := List.eq_of_mem_replicate (List.mem_of_getElem? hi)
        subst this
        cases hf
    · rcases List.mem_append.mp hv with h | h
      · exact entL_rb hrb v h
      · have := List.eq_of_mem_replicate h
        subst this
        trivial
  · intro r S' ad' H locs lsA cells slots pc ins hw hrr hΦ hrt hdec
    obtain ⟨w1, w2, w3, w4, w5, w6, w7, w8, w9⟩ := hw
    refine W.widen (k := mc) (n := ms) w8 w9 ?_
    have hq : ∀ t : State, t.heap = H → s.WarmedH t.vm → Qo c4 D ad s.heap.size S Φ (a.map (cv ad)).toArray s (.returned (r.map (cv ad'))) t := fun t ht hW => ⟨⟨r, ad', S', rfl, hΦ, w6, w5, hrr, w4, w7, by rw [ht]; exact w1, w2⟩, va_S.F w3 ht⟩
    rcases hrt with ⟨e1, e2, e3⟩ | ⟨e1, ⟨v, e2⟩, e3⟩ | ⟨e1, ⟨v, e2, e4⟩, e3⟩ | ⟨⟨nm, e1⟩, ⟨x, e2⟩, e3⟩
    · subst e2; subst e3
      exact W.vret hx hb (hr.trans e1) hq w3.2.2 hdec hlocks
    · subst e2; subst e3
      exact W.iret hx hb (hr.trans e1) hq w3.2.2 hdec hlocks
    · subst e2; subst e3
      exact W.zret (ty := .boolean) hx hb (hr.trans e1) (by rcases e4 with rfl | rfl <;> decide) hq w3.2.2 hdec hlocks
    · subst e2; subst e3
      have hq2 : ∀ t : State, t.heap = H → s.WarmedH t.vm → Qo c4 D ad s.heap.size S Φ (a.map (cv ad)).toArray s (.returned (some (cv ad' (va_rf x)))) t := hq
      refine W.aret (v := cv ad' (va_rf x)) hx hb (hr.trans e1) (Or.inl ⟨nm, rfl⟩) ?_ hq2 w3.2.2 hdec hlocks
      cases x with
      | none => exact Or.inl rfl
      | some k => exact Or.inr ⟨_, rfl⟩
section CROWS
variable {own : String} {cc : ByteArray} {nL : Nat} {ret : Option FieldType} {d : Nat} {ini : Bool} {Φ : Option Value → Mem → Prop} {κ : Kx} {rc rs : Nat} {S : Mem} {pc q : Nat} {ls st : List Value}
variable {y : MethodName} {cc' : ByteArray} {nL' : Nat} {ret' : Option FieldType} {d' mc' ms' : Nat} {a : List Value} {Ψ : Option Value → Mem → Prop}
theorem g_callK (C : Cx own cc nL ret d ini Φ κ) {st0 : List Value} {av : (Nat → Nat) → Array Value} (hst : ∀ v ∈ st0, (v ∈ a ∨ v ∈ st)) (hs0 : ∀ v ∈ st, v ∈ st0)
    (hr : ∀ (ad : Nat → Nat) (H : Heap) (locs : List Loc) (lsA : Array Slot) (cells slots : Nat), Wd κ (rc + mc') (rs + ms') S ad H locs cells slots → Lo κ S ad lsA ls → (∀ v ∈ st0, rb (mN S) v) → va_Run (kp κ) (kl κ) (ke κ) (kR κ) (ks κ) (km κ) (ka κ) (kb κ) (kh κ) (kc κ) H locs cells slots mc' ms' (F0 (km κ) pc lsA (st0.map (cv ad))) (st.map (cv ad)) (Qo (k4 κ) (kD κ) ad H.size S Ψ (av ad)) (va_A (wl (k4 κ) ad S) H.size))
    (k : ∀ r S', Ψ r S' → mN S ≤ mN S' → G κ rc rs S' (pc + 3) ls (r.toList ++ st)) : G κ (rc + mc') (rs + ms') S pc ls st0 := by
  intro ad H locs lsA cells slots hw hl hs T hT X
  obtain ⟨v, st₀, t, T', L, h0, X', hL, e1, e2, ⟨⟨r, ad', S', hv, hΨ, hn, hag, hrb, hm, hk0, hP, hD⟩, hz, hkq⟩, stp⟩ := hr ad H locs lsA cells slots hw hl hs T hT X
  have hv : v = r.map (cv ad') := by cases hv; rfl
  subst hv
  have hfree : ∀ x, va_A (wl (k4 κ) ad S) H.size x → kA κ x := by
    intro x hx
    rcases hx with ⟨i, e, hx⟩ | hx
    · exact hw.2.1.2 i (x, e) hx
    · exact C.2.2.1.1 x (Nat.le_trans hw.2.2.1.1 hx)
  rw [h0] at hz hkq
  have hsS : ∀ v ∈ st, rb (mN S) v := fun v h => hs v (hs0 v h)
  have key := k r S' hΨ hn ad' T'.heap (locs ++ L) lsA (cells + mc') (slots + ms') ⟨by rw [e1]; exact hP, hD.weaken (fun _ _ _ h => hfree _ h), ⟨Nat.le_trans hw.2.2.1.1 (by rw [e1]; exact hz), fun x h1 h2 => by rw [e1, hkq x (Nat.lt_of_lt_of_le h1 hw.2.2.1.1) (fun z => h2 (hfree x z))]; exact hw.2.2.1.2.1 x h1 h2, fun x hx => by
      rcases List.mem_append.mp hx with h | h
      · exact hw.2.2.1.2.2 x h
      · exact hfree _ (hL x h)⟩, hm, fun j hj => by rw [hag j (Nat.lt_of_lt_of_le hj hw.2.2.2.2.2.1)]; exact hw.2.2.2.2.1 j hj, Nat.le_trans hw.2.2.2.2.2.1 hn, hk0, by have := hw.2.2.2.2.2.2.2.1; omega, by have := hw.2.2.2.2.2.2.2.2; omega⟩
    ⟨⟨hl.1.1, hl.1.2.1, hl.1.2.2.1, fun i v hv hf => by rw [cv_same hag (hl.2.1 v (List.mem_of_getElem? hv))]; exact hl.1.2.2.2 i v hv hf⟩, fun v hv => rb_mono hn (hl.2.1 v hv), hl.2.2⟩
    (fun v hv => by
      rcases List.mem_append.mp hv with h | h
      · exact hrb v h
      · exact rb_mono hn (hsS v h))
  have est : (r.toList ++ st).map (cv ad') = (r.map (cv ad')).toList ++ st.map (cv ad) := by
    rw [List.map_append, cv_sameL hag hsS]
    cases r <;> rfl
  rw [est] at key
  obtain ⟨t2, a1, b1⟩ := key T' rfl X'
  exact ⟨t2, stp t2 a1, b1⟩
/-- what the tables say of a method: an own one, a static one -/
def Mw (y : MethodName) (cc : ByteArray) (nL : Nat) (ret : Option FieldType) (n : Nat) : Prop := (Cond.code y cc nL ret ∈ UT ∧ Cond.initialized y.cls ∈ UT) ∧ (y.cls ≠ "java/lang/invoke/MethodHandle" ∧ y.cls ≠ "java/lang/invoke/VarHandle" ∧ (parseMethodDescriptor y.desc).map (fun d => d.parameters.length) = some n) ∧ nL ≤ 21
theorem ut_ws (hm : Cond.code y cc' nL' ret' ∈ UT) : GoodIn UT (.code y cc' nL' ret' :: UT) := fun w h => by
  rcases List.mem_cons.mp h with rfl | h
  · exact ut_good _ hm
  · exact ut_good _ h
theorem room_ok (C : Cx own cc nL ret d ini Φ κ) (hdp : d' < d) (hL : nL' ≤ 21) : d' + 1 ≤ (kR κ).frames ∧ 8 + (nL' + 11) + 40 * d' ≤ (kR κ).locals := by
  have h1 := C.2.2.2.1.1
  have h2 := C.2.2.2.1.2
  omega
theorem wo_of (C : Cx own cc nL ret d ini Φ κ) {ad : Nat → Nat} {H : Heap} {locs : List Loc} {cells slots : Nat} (hw : Wd κ rc rs S ad H locs cells slots) {U : State} (hU : U.heap = H) (hW : (ks κ).WarmedH U.vm) : Wo (kD κ) (k4 κ) ad S U := ⟨by rw [hU]; exact hw.1, va_K.moved hW.alike C.2.1.1, hw.2.1.weaken (fun _ _ _ _ => trivial), hw.2.2.2.1, hw.2.2.2.2.2.2.1, fun x hx => va_Nw.warmM hW (C.2.1.2.1 x hx), va_AO.moved hW.alike C.2.1.2.2⟩
theorem po_blind (c4 : Nat → ClassId) (D : va_G) (ad : Nat → Nat) (sz : Nat) (a : List Value) (S : Mem) : FrameBlind (Po c4 D ad sz a S) := by
  intro v U g mk h
  obtain ⟨h1, h2, ⟨hP, hK, hD, hm, hk0, hN, hAO⟩, h3⟩ := h
  exact ⟨h1, h2, ⟨hP, va_K.moved (u := U) (U := U.calling g mk v) (Vm.Alike.refl U.vm) hK, hD, hm, hk0, fun x hx => va_Nw.same rfl (u := U) (U := U.calling g mk v) rfl (hN x hx), va_AO.moved (u := U) (U := U.calling g mk v) (Vm.Alike.refl U.vm) hAO⟩, h3⟩
theorem g_callV (C : Cx own cc nL ret d ini Φ κ) {b ci n index : Nat} {As : List Value} (hd : decode cc pc = .ok (.invokevirtual index, 3)) (hu : Cond.methodLink own index y ∈ UT) (hm : Mw y cc' nL' ret' n) (hin : Cond.instanceMethod y ∈ UT) (hse : Cond.selects y.cls y y ∈ UT) (hO : Ok y cc' nL' ret' d' mc' ms' (.ref b :: As) S Ψ) (hdp : d' < d) (hn : As.length = n) (hK : mK S b = ci) (hc : ci < 9) (hcn : CN ci = y.cls) (hsm : (st.map fun v => v.category).sum ≤ 8)
    (k : ∀ r S', Ψ r S' → mN S ≤ mN S' → G κ rc rs S' (pc + 3) ls (r.toList ++ st)) : G κ (rc + mc') (rs + ms') S pc ls (As.reverse ++ .ref b :: st) := by
  refine g_callK (a := .ref b :: As) (av := fun ad => (Value.ref (ad b) :: As.map (cv ad)).toArray) C (fun v hv => ?_) (fun v hv => List.mem_append_right _ (List.mem_cons_of_mem _ hv)) (fun ad H locs lsA cells slots hw hl hs => ?_) k
  · rcases List.mem_append.mp hv with h | h
    · exact Or.inl (List.mem_cons_of_mem _ (List.mem_reverse.mp h))
    · rcases List.mem_cons.mp h with rfl | h
      · exact Or.inl List.mem_cons_self
      · exact Or.inr h
  · have hb : b < mN S := hs (.ref b) (List.mem_append_right _ List.mem_cons_self)
    have hrb : ∀ v ∈ (Value.ref b :: As), rb (mN S) v := fun v hv => by
      rcases List.mem_cons.mp hv with rfl | h
      · exact hb
      · exact hs v (List.mem_append_left _ (List.mem_reverse.mpr h))
    have hG : GoodIn UT (wsV own index y.cls y (.code y cc' nL' ret' :: UT)) := fun w h => by
      unfold wsV at h
      rcases List.mem_append.mp h with h | h
      · rcases List.mem_cons.mp h with rfl | h
        · exact ut_good _ hu
        · rcases List.mem_cons.mp h with rfl | h
          · exact ut_good _ hin
          · rcases List.mem_cons.mp h with rfl | h
            · exact ut_good _ hse
            · rcases List.mem_cons.mp h with rfl | h
              · exact ut_good _ hm.1.2
              · cases h
      · exact ut_ws hm.1.1 w h
    have h1 := C.2.2.1.2.1
    have h2 := C.2.2.1.2.2
    have h3 := hw.2.2.2.2.2.2.2.1
    have h4 := hw.2.2.2.2.2.2.2.2
    exact va_runV (C := y.cls) (b := ad b) (As := As.map (cv ad)) (rest := st.map (cv ad)) C.1 (hO (kl κ) (kD κ) (k4 κ) ad H.size) (cwV n C.1.2.2.2.2 hG rfl rfl rfl ⟨rfl, hm.2.1⟩ (room_ok C hdp hm.2.2)) ⟨po_blind _ _ _ _ _ _, by
        have := va_recv C.2.1.1 hw.1 (CL_at hc) (show (wl (k4 κ) ad S)[b]? = some (ad b, .inr (ci, _)) by rw [wl_get hb, celE_obj hK hc])
        rw [← hcn]
        exact this, fun U hU hW => ⟨rfl, by rw [hU], wo_of C hw hU hW, hrb⟩⟩ rfl (by rw [List.length_map]; exact hn) (hl.1.1.trans C.1.2.2.1) (by show _ = _; simp [List.map_append, cv]) (lv_room (by rw [cat_sum]; exact hsm)) hd ⟨by omega, by omega⟩
theorem g_callS (C : Cx own cc nL ret d ini Φ κ) {n index : Nat} {As : List Value} (hd : decode cc pc = .ok (.invokestatic index, 3)) (hu : Cond.methodLink own index y ∈ UT) (hm : Mw y cc' nL' ret' n) (hst : Cond.static y ∈ UT) (hO : Ok y cc' nL' ret' d' mc' ms' As S Ψ) (hdp : d' < d) (hn : As.length = n) (hsm : (st.map fun v => v.category).sum ≤ 8)
    (k : ∀ r S', Ψ r S' → mN S ≤ mN S' → G κ rc rs S' (pc + 3) ls (r.toList ++ st)) : G κ (rc + mc') (rs + ms') S pc ls (As.reverse ++ st) := by
  refine g_callK (a := As) (av := fun ad => (As.map (cv ad)).toArray) C (fun v hv => ?_) (fun v hv => List.mem_append_right _ hv) (fun ad H locs lsA cells slots hw hl hs => ?_) k
  · rcases List.mem_append.mp hv with h | h
    · exact Or.inl (List.mem_reverse.mp h)
    · exact Or.inr h
  · have hrb : ∀ v ∈ As, rb (mN S) v := fun v hv => hs v (List.mem_append_left _ (List.mem_reverse.mpr hv))
    have hG : GoodIn UT (va_wsS own index y (.code y cc' nL' ret' :: UT)) := fun w h => by
      unfold va_wsS at h
      rcases List.mem_append.mp h with h | h
      · rcases List.mem_cons.mp h with rfl | h
        · exact ut_good _ hu
        · rcases List.mem_cons.mp h with rfl | h
          · exact ut_good _ hst
          · rcases List.mem_cons.mp h with rfl | h
            · exact ut_good _ hm.1.2
            · cases h
      · exact ut_ws hm.1.1 w h
    have h1 := C.2.2.1.2.1
    have h2 := C.2.2.1.2.2
    have h3 := hw.2.2.2.2.2.2.2.1
    have h4 := hw.2.2.2.2.2.2.2.2
    exact va_runS (As := As.map (cv ad)) (rest := st.map (cv ad)) C.1 (hO (kl κ) (kD κ) (k4 κ) ad H.size) (va_cwS n C.1.2.2.2.2 hG rfl rfl rfl hm.2.1 (room_ok C hdp hm.2.2)) ⟨po_blind _ _ _ _ _ _, fun U hU hW => ⟨rfl, by rw [hU], wo_of C hw hU hW, hrb⟩⟩ rfl (by rw [List.length_map]; exact hn) (hl.1.1.trans C.1.2.2.1) (by show _ = _; simp [List.map_append]) (lv_room (by rw [cat_sum]; exact hsm)) hd ⟨by omega, by omega⟩
theorem g_callSN (C : Cx own cc nL ret d ini Φ κ) {n index : Nat} {host : String} {As : List Value} (hd : decode cc pc = .ok (.invokestatic index, 3)) (hu : (own, index, y, host) ∈ NW) (hm : Mw y cc' nL' ret' n) (hst : Cond.static y ∈ UT) (hO : Ok y cc' nL' ret' d' mc' ms' As S Ψ) (hdp : d' < d) (hn : As.length = n) (hsm : (st.map fun v => v.category).sum ≤ 8)
    (k : ∀ r S', Ψ r S' → mN S ≤ mN S' → G κ rc rs S' (pc + 3) ls (r.toList ++ st)) : G κ (rc + mc') (rs + ms') S pc ls (As.reverse ++ st) := by
  refine g_callK (a := As) (av := fun ad => (As.map (cv ad)).toArray) C (fun v hv => ?_) (fun v hv => List.mem_append_right _ hv) (fun ad H locs lsA cells slots hw hl hs => ?_) k
  · rcases List.mem_append.mp hv with h | h
    · exact Or.inl (List.mem_reverse.mp h)
    · exact Or.inr h
  · have hrb : ∀ v ∈ As, rb (mN S) v := fun v hv => hs v (List.mem_append_left _ (List.mem_reverse.mpr hv))
    have h1 := C.2.2.1.2.1
    have h2 := C.2.2.1.2.2
    have h3 := hw.2.2.2.2.2.2.2.1
    have h4 := hw.2.2.2.2.2.2.2.2
    exact va_runSN (As := As.map (cv ad)) (rest := st.map (cv ad)) C.1 (hO (kl κ) (kD κ) (k4 κ) ad H.size) ⟨va_cnB n C.1.2.2.2.2 (ut_ws hm.1.1) rfl rfl rfl (C.2.1.2.1 _ hu) (C.1.2.2.2.2 _ hm.1.2) hm.2.1 (room_ok C hdp hm.2.2), C.1.2.2.2.2 _ hst, trivial⟩ ⟨po_blind _ _ _ _ _ _, fun U hU hW => ⟨rfl, by rw [hU], wo_of C hw hU hW, hrb⟩⟩ rfl (by rw [List.length_map]; exact hn) (hl.1.1.trans C.1.2.2.1) (by show _ = _; simp [List.map_append]) (lv_room (by rw [cat_sum]; exact hsm)) hd ⟨by omega, by omega⟩
theorem g_callI (C : Cx own cc nL ret d ini Φ κ) {b n index : Nat} {As : List Value} (hd : decode cc pc = .ok (.invokespecial index, 3)) (hu : Cond.methodLink own index y ∈ UT) (hm : Mw y cc' nL' none n) (hin : Cond.instanceMethod y ∈ UT) (hy1 : y.name = "<init>") (hO : Ok y cc' nL' none d' mc' ms' (.ref b :: As) S Ψ) (hdp : d' < d) (hn : As.length = n) (hsm : (st.map fun v => v.category).sum ≤ 8)
    (k : ∀ r S', Ψ r S' → mN S ≤ mN S' → G κ rc rs S' (pc + 3) ls (r.toList ++ st)) : G κ (rc + mc') (rs + ms') S pc ls (As.reverse ++ .ref b :: st) := by
  refine g_callK (a := .ref b :: As) (av := fun ad => (Value.ref (ad b) :: As.map (cv ad)).toArray) C (fun v hv => ?_) (fun v hv => List.mem_append_right _ (List.mem_cons_of_mem _ hv)) (fun ad H locs lsA cells slots hw hl hs => ?_) k
  · rcases List.mem_append.mp hv with h | h
    · exact Or.inl (List.mem_cons_of_mem _ (List.mem_reverse.mp h))
    · rcases List.mem_cons.mp h with rfl | h
      · exact Or.inl List.mem_cons_self
      · exact Or.inr h
  · have hb : b < mN S := hs (.ref b) (List.mem_append_right _ List.mem_cons_self)
    have hrb : ∀ v ∈ (Value.ref b :: As), rb (mN S) v := fun v hv => by
      rcases List.mem_cons.mp hv with rfl | h
      · exact hb
      · exact hs v (List.mem_append_left _ (List.mem_reverse.mpr h))
    have h1 := C.2.2.1.2.1
    have h2 := C.2.2.1.2.2
    have h3 := hw.2.2.2.2.2.2.2.1
    have h4 := hw.2.2.2.2.2.2.2.2
    exact va_runI (b := ad b) (As := As.map (cv ad)) (rest := st.map (cv ad)) C.1 (hO (kl κ) (kD κ) (k4 κ) ad H.size) (cwI n C.1.2.2.2.2 (ut_ws hm.1.1) rfl rfl rfl (C.1.2.2.2.2 _ hm.1.2) (C.1.2.2.2.2 _ hu) (C.1.2.2.2.2 _ hin) hy1 hm.2.1 (room_ok C hdp hm.2.2)) ⟨po_blind _ _ _ _ _ _, fun U hU hW => ⟨rfl, by rw [hU], wo_of C hw hU hW, hrb⟩⟩ rfl (by rw [List.length_map]; exact hn) (hl.1.1.trans C.1.2.2.1) (by show _ = _; simp [List.map_append, cv]) (lv_room (by rw [cat_sum]; exact hsm)) hd ⟨by omega, by omega⟩
theorem g_callIN (C : Cx own cc nL ret d ini Φ κ) {b n index : Nat} {host : String} {As : List Value} (hd : decode cc pc = .ok (.invokespecial index, 3)) (hu : (own, index, y, host) ∈ NW) (hm : Mw y cc' nL' none n) (hin : Cond.instanceMethod y ∈ UT) (hy1 : y.name = "<init>") (hO : Ok y cc' nL' none d' mc' ms' (.ref b :: As) S Ψ) (hdp : d' < d) (hn : As.length = n) (hsm : (st.map fun v => v.category).sum ≤ 8)
    (k : ∀ r S', Ψ r S' → mN S ≤ mN S' → G κ rc rs S' (pc + 3) ls (r.toList ++ st)) : G κ (rc + mc') (rs + ms') S pc ls (As.reverse ++ .ref b :: st) := by
  refine g_callK (a := .ref b :: As) (av := fun ad => (Value.ref (ad b) :: As.map (cv ad)).toArray) C (fun v hv => ?_) (fun v hv => List.mem_append_right _ (List.mem_cons_of_mem _ hv)) (fun ad H locs lsA cells slots hw hl hs => ?_) k
  · rcases List.mem_append.mp hv with h | h
    · exact Or.inl (List.mem_cons_of_mem _ (List.mem_reverse.mp h))
    · rcases List.mem_cons.mp h with rfl | h
      · exact Or.inl List.mem_cons_self
      · exact Or.inr h
  · have hb : b < mN S := hs (.ref b) (List.mem_append_right _ List.mem_cons_self)
    have hrb : ∀ v ∈ (Value.ref b :: As), rb (mN S) v := fun v hv => by
      rcases List.mem_cons.mp hv with rfl | h
      · exact hb
      · exact hs v (List.mem_append_left _ (List.mem_reverse.mpr h))
    have h1 := C.2.2.1.2.1
    have h2 := C.2.2.1.2.2
    have h3 := hw.2.2.2.2.2.2.2.1
    have h4 := hw.2.2.2.2.2.2.2.2
    exact va_runIN (b := ad b) (As := As.map (cv ad)) (rest := st.map (cv ad)) C.1 (hO (kl κ) (kD κ) (k4 κ) ad H.size) ⟨va_cnB n C.1.2.2.2.2 (ut_ws hm.1.1) rfl rfl rfl (C.2.1.2.1 _ hu) (C.1.2.2.2.2 _ hm.1.2) hm.2.1 (room_ok C hdp hm.2.2), hy1, C.1.2.2.2.2 _ hin⟩ ⟨po_blind _ _ _ _ _ _, fun U hU hW => ⟨rfl, by rw [hU], wo_of C hw hU hW, hrb⟩⟩ rfl (by rw [List.length_map]; exact hn) (hl.1.1.trans C.1.2.2.1) (by show _ = _; simp [List.map_append, cv]) (lv_room (by rw [cat_sum]; exact hsm)) hd ⟨by omega, by omega⟩
theorem g_max (C : Cx own cc nL ret d ini Φ κ) {index : Nat} {x z : Int32} (hd : decode cc pc = .ok (.invokestatic index, 3)) (hq : pc + 3 = q) (hu : Cond.methodLink own index Lib.Math.max.name ∈ UT) (hdp : 1 ≤ d) (hsm : (st.map fun v => v.category).sum ≤ 8) (k : G κ rc rs S q ls (.int (if x < z then z else x) :: st)) : G κ rc rs S pc ls (.int z :: .int x :: st) := by
  subst hq
  intro ad H locs lsA cells slots hw hl hs
  have h1 := C.2.2.1.2.1
  have h2 := C.2.2.1.2.2
  have h3 := hw.2.2.2.2.2.2.2.1
  have h4 := hw.2.2.2.2.2.2.2.2
  have h5 := C.2.2.2.1.1
  have h6 := C.2.2.2.1.2
  exact va_mmax C.1.1 C.1.2.1 (hl.1.1.symm) C.1.2.2.2.1 (C.1.2.2.2.2 _ hu) (C.1.2.2.2.2 _ sm_Lib_Math_max_name) (C.1.2.2.2.2 _ in_J9) (C.1.2.2.2.2 _ co_Lib_Math_max_name) (by omega) (by rw [cat_sum]; omega) (by omega) (by omega) hd (k ad H locs lsA cells slots hw hl (rb_i (rb_t (rb_t hs))))
theorem g_min (C : Cx own cc nL ret d ini Φ κ) {index : Nat} {x z : Int32} (hd : decode cc pc = .ok (.invokestatic index, 3)) (hq : pc + 3 = q) (hu : Cond.methodLink own index Lib.Math.min.name ∈ UT) (hdp : 1 ≤ d) (hsm : (st.map fun v => v.category).sum ≤ 8) (k : G κ rc rs S q ls (.int (if z < x then z else x) :: st)) : G κ rc rs S pc ls (.int z :: .int x :: st) := by
  subst hq
  intro ad H locs lsA cells slots hw hl hs
  have h1 := C.2.2.1.2.1
  have h2 := C.2.2.1.2.2
  have h3 := hw.2.2.2.2.2.2.2.1
  have h4 := hw.2.2.2.2.2.2.2.2
  have h5 := C.2.2.2.1.1
  have h6 := C.2.2.2.1.2
  exact va_mmin C.1.1 C.1.2.1 (hl.1.1.symm) C.1.2.2.2.1 (C.1.2.2.2.2 _ hu) (C.1.2.2.2.2 _ sm_Lib_Math_min_name) (C.1.2.2.2.2 _ in_J9) (C.1.2.2.2.2 _ co_Lib_Math_min_name) (by omega) (by rw [cat_sum]; omega) (by omega) (by omega) hd (k ad H locs lsA cells slots hw hl (rb_i (rb_t (rb_t hs))))
end CROWS
end
section
/-! the references that never change; rows of calls by the number of words given and the kind of the answer -/
def R0 : Nat → Nat → Option Nat := fun p => match p with
  | 0 => fun j => match j with | 0 => some 1 | 1 => some 3 | 2 => some 5 | 3 => some 9 | 4 => some 12 | 5 => some 13 | 6 => some 14 | 7 => some 15 | _ => none
  | 1 => fun j => match j with | 0 => some 2 | _ => none
  | 3 => fun j => match j with | 0 => some 4 | _ => none
  | 5 => fun j => match j with | 0 => some 6 | 1 => some 7 | 2 => some 8 | _ => none
  | 9 => fun j => match j with | 0 => some 10 | 1 => some 11 | _ => none
  | 16 => fun j => match j with | 0 => some 17 | 1 => some 18 | 2 => some 19 | _ => none
  | 20 => fun j => match j with | 0 => some 21 | 1 => some 22 | 2 => some 23 | _ => none
  | 25 => fun j => match j with | 2 => some 26 | 3 => some 27 | 4 => some 28 | 5 => some 29 | 7 => some 30 | 15 => some 31 | 16 => some 32 | 17 => some 33 | 20 => some 34 | 21 => some 35 | 23 => some 36 | 24 => some 37 | 25 => some 38 | 26 => some 39 | 28 => some 40 | 29 => some 41 | 30 => some 42 | 31 => some 43 | _ => none
  | _ => fun _ => none
def Rs (S : Mem) : Prop := ∀ p j r, R0 p j = some r → mR S p j = some r
def RI (v : Int32) (S1 : Mem) : Option Value → Mem → Prop := fun r S' => r = some (.int v) ∧ S' = S1
def RV (S1 : Mem) : Option Value → Mem → Prop := fun r S' => r = none ∧ S' = S1
def RR (x : Option Nat) (S1 : Mem) : Option Value → Mem → Prop := fun r S' => r = some (va_rf x) ∧ S' = S1
def bI (b : Bool) : Int32 := if b = true then 1 else 0
theorem bI_01 (b : Bool) : bI b = 0 ∨ bI b = 1 := by cases b <;> decide
def Mv (y : MethodName) (cc : ByteArray) (nL : Nat) (ret : Option FieldType) (n : Nat) : Prop := Mw y cc nL ret n ∧ Cond.instanceMethod y ∈ UT ∧ Cond.selects y.cls y y ∈ UT
def Ms (y : MethodName) (cc : ByteArray) (nL : Nat) (ret : Option FieldType) (n : Nat) : Prop := Mw y cc nL ret n ∧ Cond.static y ∈ UT
def Mc (y : MethodName) (cc : ByteArray) (nL : Nat) (n : Nat) : Prop := Mw y cc nL none n ∧ Cond.instanceMethod y ∈ UT ∧ y.name = "<init>"
section CALLN
variable {own : String} {cc : ByteArray} {nL : Nat} {ret : Option FieldType} {d : Nat} {ini : Bool} {Φ : Option Value → Mem → Prop} {κ : Kx} {rc rs rc0 rs0 : Nat} {S S1 : Mem} {pc q : Nat} {ls st : List Value}
variable {y : MethodName} {cc' : ByteArray} {nL' : Nat} {ret' : Option FieldType} {d' mc' ms' : Nat}
theorem g_cV0i (C : Cx own cc nL ret d ini Φ κ) {b index : Nat} {v : Int32} (hd : decode cc pc = .ok (.invokevirtual index, 3)) (hq : pc + 3 = q) (hu : Cond.methodLink own index y ∈ UT) (hm : Mv y cc' nL' ret' 0) (hO : Ok y cc' nL' ret' d' mc' ms' [.ref b] S (RI v S1)) (hdp : d' < d) (hrc : rc + mc' = rc0) (hrs : rs + ms' = rs0) (hb : ck1 b 0 = true) (hcn : CN (K0 b) = y.cls) (hsm : (st.map fun v => v.category).sum ≤ 8) (k : mN S ≤ mN S1 → G κ rc rs S1 q ls (.int v :: st)) : G κ rc0 rs0 S pc ls (.ref b :: st) := by
  subst hq; subst hrc; subst hrs
  intro ad H locs lsA cells slots hw hl hs
  have hbn : b < mN S := hs (.ref b) (by simp)
  exact g_callV (As := []) C hd hu hm.1 hm.2.1 hm.2.2 hO hdp rfl (wk hw hbn (ck1_ok hb).1) (ck1_ok hb).2.1 hcn hsm (fun r S' h hn => by obtain ⟨rfl, rfl⟩ := h; exact k hn) ad H locs lsA cells slots hw hl hs
theorem g_cD0i (C : Cx own cc nL ret d ini Φ κ) {b ci index : Nat} {v : Int32} (hd : decode cc pc = .ok (.invokevirtual index, 3)) (hq : pc + 3 = q) (hu : Cond.methodLink own index y ∈ UT) (hm : Mv y cc' nL' ret' 0) (hO : Ok y cc' nL' ret' d' mc' ms' [.ref b] S (RI v S1)) (hdp : d' < d) (hrc : rc + mc' = rc0) (hrs : rs + ms' = rs0) (hb : mK S b = ci) (hc : ci < 9) (hcn : CN ci = y.cls) (hsm : (st.map fun v => v.category).sum ≤ 8) (k : mN S ≤ mN S1 → G κ rc rs S1 q ls (.int v :: st)) : G κ rc0 rs0 S pc ls (.ref b :: st) := by
  subst hq; subst hrc; subst hrs
  exact g_callV (As := []) C hd hu hm.1 hm.2.1 hm.2.2 hO hdp rfl hb hc hcn hsm (fun r S' h hn => by obtain ⟨rfl, rfl⟩ := h; exact k hn)
theorem g_cS0i (C : Cx own cc nL ret d ini Φ κ) {index : Nat} {v : Int32} (hd : decode cc pc = .ok (.invokestatic index, 3)) (hq : pc + 3 = q) (hu : Cond.methodLink own index y ∈ UT) (hm : Ms y cc' nL' ret' 0) (hO : Ok y cc' nL' ret' d' mc' ms' [] S (RI v S1)) (hdp : d' < d) (hrc : rc + mc' = rc0) (hrs : rs + ms' = rs0) (hsm : (st.map fun v => v.category).sum ≤ 8) (k : mN S ≤ mN S1 → G κ rc rs S1 q ls (.int v :: st)) : G κ rc0 rs0 S pc ls (st) := by
  subst hq; subst hrc; subst hrs
  exact g_callS (As := []) C hd hu hm.1 hm.2 hO hdp rfl hsm (fun r S' h hn => by obtain ⟨rfl, rfl⟩ := h; exact k hn)
theorem g_cN0i (C : Cx own cc nL ret d ini Φ κ) {index : Nat} {host : String} {v : Int32} (hd : decode cc pc = .ok (.invokestatic index, 3)) (hq : pc + 3 = q) (hu : (own, index, y, host) ∈ NW) (hm : Ms y cc' nL' ret' 0) (hO : Ok y cc' nL' ret' d' mc' ms' [] S (RI v S1)) (hdp : d' < d) (hrc : rc + mc' = rc0) (hrs : rs + ms' = rs0) (hsm : (st.map fun v => v.category).sum ≤ 8) (k : mN S ≤ mN S1 → G κ rc rs S1 q ls (.int v :: st)) : G κ rc0 rs0 S pc ls (st) := by
  subst hq; subst hrc; subst hrs
  exact g_callSN (As := []) C hd hu hm.1 hm.2 hO hdp rfl hsm (fun r S' h hn => by obtain ⟨rfl, rfl⟩ := h; exact k hn)
theorem g_cV0v (C : Cx own cc nL ret d ini Φ κ) {b index : Nat}  (hd : decode cc pc = .ok (.invokevirtual index, 3)) (hq : pc + 3 = q) (hu : Cond.methodLink own index y ∈ UT) (hm : Mv y cc' nL' ret' 0) (hO : Ok y cc' nL' ret' d' mc' ms' [.ref b] S (RV S1)) (hdp : d' < d) (hrc : rc + mc' = rc0) (hrs : rs + ms' = rs0) (hb : ck1 b 0 = true) (hcn : CN (K0 b) = y.cls) (hsm : (st.map fun v => v.category).sum ≤ 8) (k : mN S ≤ mN S1 → G κ rc rs S1 q ls st) : G κ rc0 rs0 S pc ls (.ref b :: st) := by
  subst hq; subst hrc; subst hrs
  intro ad H locs lsA cells slots hw hl hs
  have hbn : b < mN S := hs (.ref b) (by simp)
  exact g_callV (As := []) C hd hu hm.1 hm.2.1 hm.2.2 hO hdp rfl (wk hw hbn (ck1_ok hb).1) (ck1_ok hb).2.1 hcn hsm (fun r S' h hn => by obtain ⟨rfl, rfl⟩ := h; exact k hn) ad H locs lsA cells slots hw hl hs
theorem g_cD0v (C : Cx own cc nL ret d ini Φ κ) {b ci index : Nat}  (hd : decode cc pc = .ok (.invokevirtual index, 3)) (hq : pc + 3 = q) (hu : Cond.methodLink own index y ∈ UT) (hm : Mv y cc' nL' ret' 0) (hO : Ok y cc' nL' ret' d' mc' ms' [.ref b] S (RV S1)) (hdp : d' < d) (hrc : rc + mc' = rc0) (hrs : rs + ms' = rs0) (hb : mK S b = ci) (hc : ci < 9) (hcn : CN ci = y.cls) (hsm : (st.map fun v => v.category).sum ≤ 8) (k : mN S ≤ mN S1 → G κ rc rs S1 q ls st) : G κ rc0 rs0 S pc ls (.ref b :: st) := by
  subst hq; subst hrc; subst hrs
  exact g_callV (As := []) C hd hu hm.1 hm.2.1 hm.2.2 hO hdp rfl hb hc hcn hsm (fun r S' h hn => by obtain ⟨rfl, rfl⟩ := h; exact k hn)
theorem g_cS0v (C : Cx own cc nL ret d ini Φ κ) {index : Nat}  (hd : decode cc pc = .ok (.invokestatic index, 3)) (hq : pc + 3 = q) (hu : Cond.methodLink own index y ∈ UT) (hm : Ms y cc' nL' ret' 0) (hO : Ok y cc' nL' ret' d' mc' ms' [] S (RV S1)) (hdp : d' < d) (hrc : rc + mc' = rc0) (hrs : rs + ms' = rs0) (hsm : (st.map fun v => v.category).sum ≤ 8) (k : mN S ≤ mN S1 → G κ rc rs S1 q ls st) : G κ rc0 rs0 S pc ls (st) := by
  subst hq; subst hrc; subst hrs
  exact g_callS (As := []) C hd hu hm.1 hm.2 hO hdp rfl hsm (fun r S' h hn => by obtain ⟨rfl, rfl⟩ := h; exact k hn)
theorem g_cN0v (C : Cx own cc nL ret d ini Φ κ) {index : Nat} {host : String}  (hd : decode cc pc = .ok (.invokestatic index, 3)) (hq : pc + 3 = q) (hu : (own, index, y, host) ∈ NW) (hm : Ms y cc' nL' ret' 0) (hO : Ok y cc' nL' ret' d' mc' ms' [] S (RV S1)) (hdp : d' < d) (hrc : rc + mc' = rc0) (hrs : rs + ms' = rs0) (hsm : (st.map fun v => v.category).sum ≤ 8) (k : mN S ≤ mN S1 → G κ rc rs S1 q ls st) : G κ rc0 rs0 S pc ls (st) := by
  subst hq; subst hrc; subst hrs
  exact g_callSN (As := []) C hd hu hm.1 hm.2 hO hdp rfl hsm (fun r S' h hn => by obtain ⟨rfl, rfl⟩ := h; exact k hn)
theorem g_cI0 (C : Cx own cc nL ret d ini Φ κ) {b index : Nat} (hd : decode cc pc = .ok (.invokespecial index, 3)) (hq : pc + 3 = q) (hu : Cond.methodLink own index y ∈ UT) (hm : Mc y cc' nL' 0) (hO : Ok y cc' nL' none d' mc' ms' [.ref b] S (RV S1)) (hdp : d' < d) (hrc : rc + mc' = rc0) (hrs : rs + ms' = rs0) (hsm : (st.map fun v => v.category).sum ≤ 8) (k : mN S ≤ mN S1 → G κ rc rs S1 q ls st) : G κ rc0 rs0 S pc ls (.ref b :: st) := by
  subst hq; subst hrc; subst hrs
  exact g_callI (As := []) C hd hu hm.1 hm.2.1 hm.2.2 hO hdp rfl hsm (fun r S' h hn => by obtain ⟨rfl, rfl⟩ := h; exact k hn)
theorem g_cJ0 (C : Cx own cc nL ret d ini Φ κ) {b index : Nat} {host : String} (hd : decode cc pc = .ok (.invokespecial index, 3)) (hq : pc + 3 = q) (hu : (own, index, y, host) ∈ NW) (hm : Mc y cc' nL' 0) (hO : Ok y cc' nL' none d' mc' ms' [.ref b] S (RV S1)) (hdp : d' < d) (hrc : rc + mc' = rc0) (hrs : rs + ms' = rs0) (hsm : (st.map fun v => v.category).sum ≤ 8) (k : mN S ≤ mN S1 → G κ rc rs S1 q ls st) : G κ rc0 rs0 S pc ls (.ref b :: st) := by
  subst hq; subst hrc; subst hrs
  exact g_callIN (As := []) C hd hu hm.1 hm.2.1 hm.2.2 hO hdp rfl hsm (fun r S' h hn => by obtain ⟨rfl, rfl⟩ := h; exact k hn)
theorem g_cV0r (C : Cx own cc nL ret d ini Φ κ) {b index : Nat} {x : Option Nat} (hd : decode cc pc = .ok (.invokevirtual index, 3)) (hq : pc + 3 = q) (hu : Cond.methodLink own index y ∈ UT) (hm : Mv y cc' nL' ret' 0) (hO : Ok y cc' nL' ret' d' mc' ms' [.ref b] S (RR x S1)) (hdp : d' < d) (hrc : rc + mc' = rc0) (hrs : rs + ms' = rs0) (hb : ck1 b 0 = true) (hcn : CN (K0 b) = y.cls) (hsm : (st.map fun v => v.category).sum ≤ 8) (k : mN S ≤ mN S1 → G κ rc rs S1 q ls (va_rf x :: st)) : G κ rc0 rs0 S pc ls (.ref b :: st) := by
  subst hq; subst hrc; subst hrs
  intro ad H locs lsA cells slots hw hl hs
  have hbn : b < mN S := hs (.ref b) (by simp)
  exact g_callV (As := []) C hd hu hm.1 hm.2.1 hm.2.2 hO hdp rfl (wk hw hbn (ck1_ok hb).1) (ck1_ok hb).2.1 hcn hsm (fun r S' h hn => by obtain ⟨rfl, rfl⟩ := h; exact k hn) ad H locs lsA cells slots hw hl hs
theorem g_cD0r (C : Cx own cc nL ret d ini Φ κ) {b ci index : Nat} {x : Option Nat} (hd : decode cc pc = .ok (.invokevirtual index, 3)) (hq : pc + 3 = q) (hu : Cond.methodLink own index y ∈ UT) (hm : Mv y cc' nL' ret' 0) (hO : Ok y cc' nL' ret' d' mc' ms' [.ref b] S (RR x S1)) (hdp : d' < d) (hrc : rc + mc' = rc0) (hrs : rs + ms' = rs0) (hb : mK S b = ci) (hc : ci < 9) (hcn : CN ci = y.cls) (hsm : (st.map fun v => v.category).sum ≤ 8) (k : mN S ≤ mN S1 → G κ rc rs S1 q ls (va_rf x :: st)) : G κ rc0 rs0 S pc ls (.ref b :: st) := by
  subst hq; subst hrc; subst hrs
  exact g_callV (As := []) C hd hu hm.1 hm.2.1 hm.2.2 hO hdp rfl hb hc hcn hsm (fun r S' h hn => by obtain ⟨rfl, rfl⟩ := h; exact k hn)
theorem g_cV1i (C : Cx own cc nL ret d ini Φ κ) {b index : Nat} {a1 : Value} {v : Int32} (hd : decode cc pc = .ok (.invokevirtual index, 3)) (hq : pc + 3 = q) (hu : Cond.methodLink own index y ∈ UT) (hm : Mv y cc' nL' ret' 1) (hO : Ok y cc' nL' ret' d' mc' ms' [.ref b, a1] S (RI v S1)) (hdp : d' < d) (hrc : rc + mc' = rc0) (hrs : rs + ms' = rs0) (hb : ck1 b 0 = true) (hcn : CN (K0 b) = y.cls) (hsm : (st.map fun v => v.category).sum ≤ 8) (k : mN S ≤ mN S1 → G κ rc rs S1 q ls (.int v :: st)) : G κ rc0 rs0 S pc ls (a1 :: .ref b :: st) := by
  subst hq; subst hrc; subst hrs
  intro ad H locs lsA cells slots hw hl hs
  have hbn : b < mN S := hs (.ref b) (by simp)
  exact g_callV (As := [a1]) C hd hu hm.1 hm.2.1 hm.2.2 hO hdp rfl (wk hw hbn (ck1_ok hb).1) (ck1_ok hb).2.1 hcn hsm (fun r S' h hn => by obtain ⟨rfl, rfl⟩ := h; exact k hn) ad H locs lsA cells slots hw hl hs
theorem g_cD1i (C : Cx own cc nL ret d ini Φ κ) {b ci index : Nat} {a1 : Value} {v : Int32} (hd : decode cc pc = .ok (.invokevirtual index, 3)) (hq : pc + 3 = q) (hu : Cond.methodLink own index y ∈ UT) (hm : Mv y cc' nL' ret' 1) (hO : Ok y cc' nL' ret' d' mc' ms' [.ref b, a1] S (RI v S1)) (hdp : d' < d) (hrc : rc + mc' = rc0) (hrs : rs + ms' = rs0) (hb : mK S b = ci) (hc : ci < 9) (hcn : CN ci = y.cls) (hsm : (st.map fun v => v.category).sum ≤ 8) (k : mN S ≤ mN S1 → G κ rc rs S1 q ls (.int v :: st)) : G κ rc0 rs0 S pc ls (a1 :: .ref b :: st) := by
  subst hq; subst hrc; subst hrs
  exact g_callV (As := [a1]) C hd hu hm.1 hm.2.1 hm.2.2 hO hdp rfl hb hc hcn hsm (fun r S' h hn => by obtain ⟨rfl, rfl⟩ := h; exact k hn)
theorem g_cS1i (C : Cx own cc nL ret d ini Φ κ) {index : Nat} {a1 : Value} {v : Int32} (hd : decode cc pc = .ok (.invokestatic index, 3)) (hq : pc + 3 = q) (hu : Cond.methodLink own index y ∈ UT) (hm : Ms y cc' nL' ret' 1) (hO : Ok y cc' nL' ret' d' mc' ms' [a1] S (RI v S1)) (hdp : d' < d) (hrc : rc + mc' = rc0) (hrs : rs + ms' = rs0) (hsm : (st.map fun v => v.category).sum ≤ 8) (k : mN S ≤ mN S1 → G κ rc rs S1 q ls (.int v :: st)) : G κ rc0 rs0 S pc ls (a1 :: st) := by
  subst hq; subst hrc; subst hrs
  exact g_callS (As := [a1]) C hd hu hm.1 hm.2 hO hdp rfl hsm (fun r S' h hn => by obtain ⟨rfl, rfl⟩ := h; exact k hn)
theorem g_cN1i (C : Cx own cc nL ret d ini Φ κ) {index : Nat} {host : String} {a1 : Value} {v : Int32} (hd : decode cc pc = .ok (.invokestatic index, 3)) (hq : pc + 3 = q) (hu : (own, index, y, host) ∈ NW) (hm : Ms y cc' nL' ret' 1) (hO : Ok y cc' nL' ret' d' mc' ms' [a1] S (RI v S1)) (hdp : d' < d) (hrc : rc + mc' = rc0) (hrs : rs + ms' = rs0) (hsm : (st.map fun v => v.category).sum ≤ 8) (k : mN S ≤ mN S1 → G κ rc rs S1 q ls (.int v :: st)) : G κ rc0 rs0 S pc ls (a1 :: st) := by
  subst hq; subst hrc; subst hrs
  exact g_callSN (As := [a1]) C hd hu hm.1 hm.2 hO hdp rfl hsm (fun r S' h hn => by obtain ⟨rfl, rfl⟩ := h; exact k hn)
theorem g_cV1v (C : Cx own cc nL ret d ini Φ κ) {b index : Nat} {a1 : Value}  (hd : decode cc pc = .ok (.invokevirtual index, 3)) (hq : pc + 3 = q) (hu : Cond.methodLink own index y ∈ UT) (hm : Mv y cc' nL' ret' 1) (hO : Ok y cc' nL' ret' d' mc' ms' [.ref b, a1] S (RV S1)) (hdp : d' < d) (hrc : rc + mc' = rc0) (hrs : rs + ms' = rs0) (hb : ck1 b 0 = true) (hcn : CN (K0 b) = y.cls) (hsm : (st.map fun v => v.category).sum ≤ 8) (k : mN S ≤ mN S1 → G κ rc rs S1 q ls st) : G κ rc0 rs0 S pc ls (a1 :: .ref b :: st) := by
  subst hq; subst hrc; subst hrs
  intro ad H locs lsA cells slots hw hl hs
  have hbn : b < mN S := hs (.ref b) (by simp)
  exact g_callV (As := [a1]) C hd hu hm.1 hm.2.1 hm.2.2 hO hdp rfl (wk hw hbn (ck1_ok hb).1) (ck1_ok hb).2.1 hcn hsm (fun r S' h hn => by obtain ⟨rfl, rfl⟩ := h; exact k hn) ad H locs lsA cells slots hw hl hs
theorem g_cD1v (C : Cx own cc nL ret d ini Φ κ) {b ci index : Nat} {a1 : Value}  (hd : decode cc pc = .ok (.invokevirtual index, 3)) (hq : pc + 3 = q) (hu : Cond.methodLink own index y ∈ UT) (hm : Mv y cc' nL' ret' 1) (hO : Ok y cc' nL' ret' d' mc' ms' [.ref b, a1] S (RV S1)) (hdp : d' < d) (hrc : rc + mc' = rc0) (hrs : rs + ms' = rs0) (hb : mK S b = ci) (hc : ci < 9) (hcn : CN ci = y.cls) (hsm : (st.map fun v => v.category).sum ≤ 8) (k : mN S ≤ mN S1 → G κ rc rs S1 q ls st) : G κ rc0 rs0 S pc ls (a1 :: .ref b :: st) := by
  subst hq; subst hrc; subst hrs
  exact g_callV (As := [a1]) C hd hu hm.1 hm.2.1 hm.2.2 hO hdp rfl hb hc hcn hsm (fun r S' h hn => by obtain ⟨rfl, rfl⟩ := h; exact k hn)
theorem g_cS1v (C : Cx own cc nL ret d ini Φ κ) {index : Nat} {a1 : Value}  (hd : decode cc pc = .ok (.invokestatic index, 3)) (hq : pc + 3 = q) (hu : Cond.methodLink own index y ∈ UT) (hm : Ms y cc' nL' ret' 1) (hO : Ok y cc' nL' ret' d' mc' ms' [a1] S (RV S1)) (hdp : d' < d) (hrc : rc + mc' = rc0) (hrs : rs + ms' = rs0) (hsm : (st.map fun v => v.category).sum ≤ 8) (k : mN S ≤ mN S1 → G κ rc rs S1 q ls st) : G κ rc0 rs0 S pc ls (a1 :: st) := by
  subst hq; subst hrc; subst hrs
  exact g_callS (As := [a1]) C hd hu hm.1 hm.2 hO hdp rfl hsm (fun r S' h hn => by obtain ⟨rfl, rfl⟩ := h; exact k hn)
theorem g_cN1v (C : Cx own cc nL ret d ini Φ κ) {index : Nat} {host : String} {a1 : Value}  (hd : decode cc pc = .ok (.invokestatic index, 3)) (hq : pc + 3 = q) (hu : (own, index, y, host) ∈ NW) (hm : Ms y cc' nL' ret' 1) (hO : Ok y cc' nL' ret' d' mc' ms' [a1] S (RV S1)) (hdp : d' < d) (hrc : rc + mc' = rc0) (hrs : rs + ms' = rs0) (hsm : (st.map fun v => v.category).sum ≤ 8) (k : mN S ≤ mN S1 → G κ rc rs S1 q ls st) : G κ rc0 rs0 S pc ls (a1 :: st) := by
  subst hq; subst hrc; subst hrs
  exact g_callSN (As := [a1]) C hd hu hm.1 hm.2 hO hdp rfl hsm (fun r S' h hn => by obtain ⟨rfl, rfl⟩ := h; exact k hn)
theorem g_cI1 (C : Cx own cc nL ret d ini Φ κ) {b index : Nat} {a1 : Value} (hd : decode cc pc = .ok (.invokespecial index, 3)) (hq : pc + 3 = q) (hu : Cond.methodLink own index y ∈ UT) (hm : Mc y cc' nL' 1) (hO : Ok y cc' nL' none d' mc' ms' [.ref b, a1] S (RV S1)) (hdp : d' < d) (hrc : rc + mc' = rc0) (hrs : rs + ms' = rs0) (hsm : (st.map fun v => v.category).sum ≤ 8) (k : mN S ≤ mN S1 → G κ rc rs S1 q ls st) : G κ rc0 rs0 S pc ls (a1 :: .ref b :: st) := by
  subst hq; subst hrc; subst hrs
  exact g_callI (As := [a1]) C hd hu hm.1 hm.2.1 hm.2.2 hO hdp rfl hsm (fun r S' h hn => by obtain ⟨rfl, rfl⟩ := h; exact k hn)
theorem g_cJ1 (C : Cx own cc nL ret d ini Φ κ) {b index : Nat} {host : String} {a1 : Value} (hd : decode cc pc = .ok (.invokespecial index, 3)) (hq : pc + 3 = q) (hu : (own, index, y, host) ∈ NW) (hm : Mc y cc' nL' 1) (hO : Ok y cc' nL' none d' mc' ms' [.ref b, a1] S (RV S1)) (hdp : d' < d) (hrc : rc + mc' = rc0) (hrs : rs + ms' = rs0) (hsm : (st.map fun v => v.category).sum ≤ 8) (k : mN S ≤ mN S1 → G κ rc rs S1 q ls st) : G κ rc0 rs0 S pc ls (a1 :: .ref b :: st) := by
  subst hq; subst hrc; subst hrs
  exact g_callIN (As := [a1]) C hd hu hm.1 hm.2.1 hm.2.2 hO hdp rfl hsm (fun r S' h hn => by obtain ⟨rfl, rfl⟩ := h; exact k hn)
theorem g_cV1r (C : Cx own cc nL ret d ini Φ κ) {b index : Nat} {a1 : Value} {x : Option Nat} (hd : decode cc pc = .ok (.invokevirtual index, 3)) (hq : pc + 3 = q) (hu : Cond.methodLink own index y ∈ UT) (hm : Mv y cc' nL' ret' 1) (hO : Ok y cc' nL' ret' d' mc' ms' [.ref b, a1] S (RR x S1)) (hdp : d' < d) (hrc : rc + mc' = rc0) (hrs : rs + ms' = rs0) (hb : ck1 b 0 = true) (hcn : CN (K0 b) = y.cls) (hsm : (st.map fun v => v.category).sum ≤ 8) (k : mN S ≤ mN S1 → G κ rc rs S1 q ls (va_rf x :: st)) : G κ rc0 rs0 S pc ls (a1 :: .ref b :: st) := by
  subst hq; subst hrc; subst hrs
  intro ad H locs lsA cells slots hw hl hs
  have hbn : b < mN S := hs (.ref b) (by simp)
  exact g_callV (As := [a1]) C hd hu hm.1 hm.2.1 hm.2.2 hO hdp rfl (wk hw hbn (ck1_ok hb).1) (ck1_ok hb).2.1 hcn hsm (fun r S' h hn => by obtain ⟨rfl, rfl⟩ := h; exact k hn) ad H locs lsA cells slots hw hl hs
theorem g_cD1r (C : Cx own cc nL ret d ini Φ κ) {b ci index : Nat} {a1 : Value} {x : Option Nat} (hd : decode cc pc = .ok (.invokevirtual index, 3)) (hq : pc + 3 = q) (hu : Cond.methodLink own index y ∈ UT) (hm : Mv y cc' nL' ret' 1) (hO : Ok y cc' nL' ret' d' mc' ms' [.ref b, a1] S (RR x S1)) (hdp : d' < d) (hrc : rc + mc' = rc0) (hrs : rs + ms' = rs0) (hb : mK S b = ci) (hc : ci < 9) (hcn : CN ci = y.cls) (hsm : (st.map fun v => v.category).sum ≤ 8) (k : mN S ≤ mN S1 → G κ rc rs S1 q ls (va_rf x :: st)) : G κ rc0 rs0 S pc ls (a1 :: .ref b :: st) := by
  subst hq; subst hrc; subst hrs
  exact g_callV (As := [a1]) C hd hu hm.1 hm.2.1 hm.2.2 hO hdp rfl hb hc hcn hsm (fun r S' h hn => by obtain ⟨rfl, rfl⟩ := h; exact k hn)
theorem g_cV2i (C : Cx own cc nL ret d ini Φ κ) {b index : Nat} {a1 a2 : Value} {v : Int32} (hd : decode cc pc = .ok (.invokevirtual index, 3)) (hq : pc + 3 = q) (hu : Cond.methodLink own index y ∈ UT) (hm : Mv y cc' nL' ret' 2) (hO : Ok y cc' nL' ret' d' mc' ms' [.ref b, a1, a2] S (RI v S1)) (hdp : d' < d) (hrc : rc + mc' = rc0) (hrs : rs + ms' = rs0) (hb : ck1 b 0 = true) (hcn : CN (K0 b) = y.cls) (hsm : (st.map fun v => v.category).sum ≤ 8) (k : mN S ≤ mN S1 → G κ rc rs S1 q ls (.int v :: st)) : G κ rc0 rs0 S pc ls (a2 :: a1 :: .ref b :: st) := by
  subst hq; subst hrc; subst hrs
  intro ad H locs lsA cells slots hw hl hs
  have hbn : b < mN S := hs (.ref b) (by simp)
  exact g_callV (As := [a1, a2]) C hd hu hm.1 hm.2.1 hm.2.2 hO hdp rfl (wk hw hbn (ck1_ok hb).1) (ck1_ok hb).2.1 hcn hsm (fun r S' h hn => by obtain ⟨rfl, rfl⟩ := h; exact k hn) ad H locs lsA cells slots hw hl hs
theorem g_cD2i (C : Cx own cc nL ret d ini Φ κ) {b ci index : Nat} {a1 a2 : Value} {v : Int32} (hd : decode cc pc = .ok (.invokevirtual index, 3)) (hq : pc + 3 = q) (hu : Cond.methodLink own index y ∈ UT) (hm : Mv y cc' nL' ret' 2) (hO : Ok y cc' nL' ret' d' mc' ms' [.ref b, a1, a2] S (RI v S1)) (hdp : d' < d) (hrc : rc + mc' = rc0) (hrs : rs + ms' = rs0) (hb : mK S b = ci) (hc : ci < 9) (hcn : CN ci = y.cls) (hsm : (st.map fun v => v.category).sum ≤ 8) (k : mN S ≤ mN S1 → G κ rc rs S1 q ls (.int v :: st)) : G κ rc0 rs0 S pc ls (a2 :: a1 :: .ref b :: st) := by
  subst hq; subst hrc; subst hrs
  exact g_callV (As := [a1, a2]) C hd hu hm.1 hm.2.1 hm.2.2 hO hdp rfl hb hc hcn hsm (fun r S' h hn => by obtain ⟨rfl, rfl⟩ := h; exact k hn)
theorem g_cS2i (C : Cx own cc nL ret d ini Φ κ) {index : Nat} {a1 a2 : Value} {v : Int32} (hd : decode cc pc = .ok (.invokestatic index, 3)) (hq : pc + 3 = q) (hu : Cond.methodLink own index y ∈ UT) (hm : Ms y cc' nL' ret' 2) (hO : Ok y cc' nL' ret' d' mc' ms' [a1, a2] S (RI v S1)) (hdp : d' < d) (hrc : rc + mc' = rc0) (hrs : rs + ms' = rs0) (hsm : (st.map fun v => v.category).sum ≤ 8) (k : mN S ≤ mN S1 → G κ rc rs S1 q ls (.int v :: st)) : G κ rc0 rs0 S pc ls (a2 :: a1 :: st) := by
  subst hq; subst hrc; subst hrs
  exact g_callS (As := [a1, a2]) C hd hu hm.1 hm.2 hO hdp rfl hsm (fun r S' h hn => by obtain ⟨rfl, rfl⟩ := h; exact k hn)
theorem g_cN2i (C : Cx own cc nL ret d ini Φ κ) {index : Nat} {host : String} {a1 a2 : Value} {v : Int32} (hd : decode cc pc = .ok (.invokestatic index, 3)) (hq : pc + 3 = q) (hu : (own, index, y, host) ∈ NW) (hm : Ms y cc' nL' ret' 2) (hO : Ok y cc' nL' ret' d' mc' ms' [a1, a2] S (RI v S1)) (hdp : d' < d) (hrc : rc + mc' = rc0) (hrs : rs + ms' = rs0) (hsm : (st.map fun v => v.category).sum ≤ 8) (k : mN S ≤ mN S1 → G κ rc rs S1 q ls (.int v :: st)) : G κ rc0 rs0 S pc ls (a2 :: a1 :: st) := by
  subst hq; subst hrc; subst hrs
  exact g_callSN (As := [a1, a2]) C hd hu hm.1 hm.2 hO hdp rfl hsm (fun r S' h hn => by obtain ⟨rfl, rfl⟩ := h; exact k hn)
theorem g_cV2v (C : Cx own cc nL ret d ini Φ κ) {b index : Nat} {a1 a2 : Value}  (hd : decode cc pc = .ok (.invokevirtual index, 3)) (hq : pc + 3 = q) (hu : Cond.methodLink own index y ∈ UT) (hm : Mv y cc' nL' ret' 2) (hO : Ok y cc' nL' ret' d' mc' ms' [.ref b, a1, a2] S (RV S1)) (hdp : d' < d) (hrc : rc + mc' = rc0) (hrs : rs + ms' = rs0) (hb : ck1 b 0 = true) (hcn : CN (K0 b) = y.cls) (hsm : (st.map fun v => v.category).sum ≤ 8) (k : mN S ≤ mN S1 → G κ rc rs S1 q ls st) : G κ rc0 rs0 S pc ls (a2 :: a1 :: .ref b :: st) := by
  subst hq; subst hrc; subst hrs
  intro ad H locs lsA cells slots hw hl hs
  have hbn : b < mN S := hs (.ref b) (by simp)
  exact g_callV (As := [a1, a2]) C hd hu hm.1 hm.2.1 hm.2.2 hO hdp rfl (wk hw hbn (ck1_ok hb).1) (ck1_ok hb).2.1 hcn hsm (fun r S' h hn => by obtain ⟨rfl, rfl⟩ := h; exact k hn) ad H locs lsA cells slots hw hl hs
theorem g_cD2v (C : Cx own cc nL ret d ini Φ κ) {b ci index : Nat} {a1 a2 : Value}  (hd : decode cc pc = .ok (.invokevirtual index, 3)) (hq : pc + 3 = q) (hu : Cond.methodLink own index y ∈ UT) (hm : Mv y cc' nL' ret' 2) (hO : Ok y cc' nL' ret' d' mc' ms' [.ref b, a1, a2] S (RV S1)) (hdp : d' < d) (hrc : rc + mc' = rc0) (hrs : rs + ms' = rs0) (hb : mK S b = ci) (hc : ci < 9) (hcn : CN ci = y.cls) (hsm : (st.map fun v => v.category).sum ≤ 8) (k : mN S ≤ mN S1 → G κ rc rs S1 q ls st) : G κ rc0 rs0 S pc ls (a2 :: a1 :: .ref b :: st) := by
  subst hq; subst hrc; subst hrs
  exact g_callV (As := [a1, a2]) C hd hu hm.1 hm.2.1 hm.2.2 hO hdp rfl hb hc hcn hsm (fun r S' h hn => by obtain ⟨rfl, rfl⟩ := h; exact k hn)
theorem g_cS2v (C : Cx own cc nL ret d ini Φ κ) {index : Nat} {a1 a2 : Value}  (hd : decode cc pc = .ok (.invokestatic index, 3)) (hq : pc + 3 = q) (hu : Cond.methodLink own index y ∈ UT) (hm : Ms y cc' nL' ret' 2) (hO : Ok y cc' nL' ret' d' mc' ms' [a1, a2] S (RV S1)) (hdp : d' < d) (hrc : rc + mc' = rc0) (hrs : rs + ms' = rs0) (hsm : (st.map fun v => v.category).sum ≤ 8) (k : mN S ≤ mN S1 → G κ rc rs S1 q ls st) : G κ rc0 rs0 S pc ls (a2 :: a1 :: st) := by
  subst hq; subst hrc; subst hrs
  exact g_callS (As := [a1, a2]) C hd hu hm.1 hm.2 hO hdp rfl hsm (fun r S' h hn => by obtain ⟨rfl, rfl⟩ := h; exact k hn)
theorem g_cN2v (C : Cx own cc nL ret d ini Φ κ) {index : Nat} {host : String} {a1 a2 : Value}  (hd : decode cc pc = .ok (.invokestatic index, 3)) (hq : pc + 3 = q) (hu : (own, index, y, host) ∈ NW) (hm : Ms y cc' nL' ret' 2) (hO : Ok y cc' nL' ret' d' mc' ms' [a1, a2] S (RV S1)) (hdp : d' < d) (hrc : rc + mc' = rc0) (hrs : rs + ms' = rs0) (hsm : (st.map fun v => v.category).sum ≤ 8) (k : mN S ≤ mN S1 → G κ rc rs S1 q ls st) : G κ rc0 rs0 S pc ls (a2 :: a1 :: st) := by
  subst hq; subst hrc; subst hrs
  exact g_callSN (As := [a1, a2]) C hd hu hm.1 hm.2 hO hdp rfl hsm (fun r S' h hn => by obtain ⟨rfl, rfl⟩ := h; exact k hn)
theorem g_cI2 (C : Cx own cc nL ret d ini Φ κ) {b index : Nat} {a1 a2 : Value} (hd : decode cc pc = .ok (.invokespecial index, 3)) (hq : pc + 3 = q) (hu : Cond.methodLink own index y ∈ UT) (hm : Mc y cc' nL' 2) (hO : Ok y cc' nL' none d' mc' ms' [.ref b, a1, a2] S (RV S1)) (hdp : d' < d) (hrc : rc + mc' = rc0) (hrs : rs + ms' = rs0) (hsm : (st.map fun v => v.category).sum ≤ 8) (k : mN S ≤ mN S1 → G κ rc rs S1 q ls st) : G κ rc0 rs0 S pc ls (a2 :: a1 :: .ref b :: st) := by
  subst hq; subst hrc; subst hrs
  exact g_callI (As := [a1, a2]) C hd hu hm.1 hm.2.1 hm.2.2 hO hdp rfl hsm (fun r S' h hn => by obtain ⟨rfl, rfl⟩ := h; exact k hn)
theorem g_cJ2 (C : Cx own cc nL ret d ini Φ κ) {b index : Nat} {host : String} {a1 a2 : Value} (hd : decode cc pc = .ok (.invokespecial index, 3)) (hq : pc + 3 = q) (hu : (own, index, y, host) ∈ NW) (hm : Mc y cc' nL' 2) (hO : Ok y cc' nL' none d' mc' ms' [.ref b, a1, a2] S (RV S1)) (hdp : d' < d) (hrc : rc + mc' = rc0) (hrs : rs + ms' = rs0) (hsm : (st.map fun v => v.category).sum ≤ 8) (k : mN S ≤ mN S1 → G κ rc rs S1 q ls st) : G κ rc0 rs0 S pc ls (a2 :: a1 :: .ref b :: st) := by
  subst hq; subst hrc; subst hrs
  exact g_callIN (As := [a1, a2]) C hd hu hm.1 hm.2.1 hm.2.2 hO hdp rfl hsm (fun r S' h hn => by obtain ⟨rfl, rfl⟩ := h; exact k hn)
theorem g_cV2r (C : Cx own cc nL ret d ini Φ κ) {b index : Nat} {a1 a2 : Value} {x : Option Nat} (hd : decode cc pc = .ok (.invokevirtual index, 3)) (hq : pc + 3 = q) (hu : Cond.methodLink own index y ∈ UT) (hm : Mv y cc' nL' ret' 2) (hO : Ok y cc' nL' ret' d' mc' ms' [.ref b, a1, a2] S (RR x S1)) (hdp : d' < d) (hrc : rc + mc' = rc0) (hrs : rs + ms' = rs0) (hb : ck1 b 0 = true) (hcn : CN (K0 b) = y.cls) (hsm : (st.map fun v => v.category).sum ≤ 8) (k : mN S ≤ mN S1 → G κ rc rs S1 q ls (va_rf x :: st)) : G κ rc0 rs0 S pc ls (a2 :: a1 :: .ref b :: st) := by
  subst hq; subst hrc; subst hrs
  intro ad H locs lsA cells slots hw hl hs
  have hbn : b < mN S := hs (.ref b) (by simp)
  exact g_callV (As := [a1, a2]) C hd hu hm.1 hm.2.1 hm.2.2 hO hdp rfl (wk hw hbn (ck1_ok hb).1) (ck1_ok hb).2.1 hcn hsm (fun r S' h hn => by obtain ⟨rfl, rfl⟩ := h; exact k hn) ad H locs lsA cells slots hw hl hs
theorem g_cD2r (C : Cx own cc nL ret d ini Φ κ) {b ci index : Nat} {a1 a2 : Value} {x : Option Nat} (hd : decode cc pc = .ok (.invokevirtual index, 3)) (hq : pc + 3 = q) (hu : Cond.methodLink own index y ∈ UT) (hm : Mv y cc' nL' ret' 2) (hO : Ok y cc' nL' ret' d' mc' ms' [.ref b, a1, a2] S (RR x S1)) (hdp : d' < d) (hrc : rc + mc' = rc0) (hrs : rs + ms' = rs0) (hb : mK S b = ci) (hc : ci < 9) (hcn : CN ci = y.cls) (hsm : (st.map fun v => v.category).sum ≤ 8) (k : mN S ≤ mN S1 → G κ rc rs S1 q ls (va_rf x :: st)) : G κ rc0 rs0 S pc ls (a2 :: a1 :: .ref b :: st) := by
  subst hq; subst hrc; subst hrs
  exact g_callV (As := [a1, a2]) C hd hu hm.1 hm.2.1 hm.2.2 hO hdp rfl hb hc hcn hsm (fun r S' h hn => by obtain ⟨rfl, rfl⟩ := h; exact k hn)
theorem g_cV3i (C : Cx own cc nL ret d ini Φ κ) {b index : Nat} {a1 a2 a3 : Value} {v : Int32} (hd : decode cc pc = .ok (.invokevirtual index, 3)) (hq : pc + 3 = q) (hu : Cond.methodLink own index y ∈ UT) (hm : Mv y cc' nL' ret' 3) (hO : Ok y cc' nL' ret' d' mc' ms' [.ref b, a1, a2, a3] S (RI v S1)) (hdp : d' < d) (hrc : rc + mc' = rc0) (hrs : rs + ms' = rs0) (hb : ck1 b 0 = true) (hcn : CN (K0 b) = y.cls) (hsm : (st.map fun v => v.category).sum ≤ 8) (k : mN S ≤ mN S1 → G κ rc rs S1 q ls (.int v :: st)) : G κ rc0 rs0 S pc ls (a3 :: a2 :: a1 :: .ref b :: st) := by
  subst hq; subst hrc; subst hrs
  intro ad H locs lsA cells slots hw hl hs
  have hbn : b < mN S := hs (.ref b) (by simp)
  exact g_callV (As := [a1, a2, a3]) C hd hu hm.1 hm.2.1 hm.2.2 hO hdp rfl (wk hw hbn (ck1_ok hb).1) (ck1_ok hb).2.1 hcn hsm (fun r S' h hn => by obtain ⟨rfl, rfl⟩ := h; exact k hn) ad H locs lsA cells slots hw hl hs
theorem g_cD3i (C : Cx own cc nL ret d ini Φ κ) {b ci index : Nat} {a1 a2 a3 : Value} {v : Int32} (hd : decode cc pc = .ok (.invokevirtual index, 3)) (hq : pc + 3 = q) (hu : Cond.methodLink own index y ∈ UT) (hm : Mv y cc' nL' ret' 3) (hO : Ok y cc' nL' ret' d' mc' ms' [.ref b, a1, a2, a3] S (RI v S1)) (hdp : d' < d) (hrc : rc + mc' = rc0) (hrs : rs + ms' = rs0) (hb : mK S b = ci) (hc : ci < 9) (hcn : CN ci = y.cls) (hsm : (st.map fun v => v.category).sum ≤ 8) (k : mN S ≤ mN S1 → G κ rc rs S1 q ls (.int v :: st)) : G κ rc0 rs0 S pc ls (a3 :: a2 :: a1 :: .ref b :: st) := by
  subst hq; subst hrc; subst hrs
  exact g_callV (As := [a1, a2, a3]) C hd hu hm.1 hm.2.1 hm.2.2 hO hdp rfl hb hc hcn hsm (fun r S' h hn => by obtain ⟨rfl, rfl⟩ := h; exact k hn)
theorem g_cS3i (C : Cx own cc nL ret d ini Φ κ) {index : Nat} {a1 a2 a3 : Value} {v : Int32} (hd : decode cc pc = .ok (.invokestatic index, 3)) (hq : pc + 3 = q) (hu : Cond.methodLink own index y ∈ UT) (hm : Ms y cc' nL' ret' 3) (hO : Ok y cc' nL' ret' d' mc' ms' [a1, a2, a3] S (RI v S1)) (hdp : d' < d) (hrc : rc + mc' = rc0) (hrs : rs + ms' = rs0) (hsm : (st.map fun v => v.category).sum ≤ 8) (k : mN S ≤ mN S1 → G κ rc rs S1 q ls (.int v :: st)) : G κ rc0 rs0 S pc ls (a3 :: a2 :: a1 :: st) := by
  subst hq; subst hrc; subst hrs
  exact g_callS (As := [a1, a2, a3]) C hd hu hm.1 hm.2 hO hdp rfl hsm (fun r S' h hn => by obtain ⟨rfl, rfl⟩ := h; exact k hn)
theorem g_cN3i (C : Cx own cc nL ret d ini Φ κ) {index : Nat} {host : String} {a1 a2 a3 : Value} {v : Int32} (hd : decode cc pc = .ok (.invokestatic index, 3)) (hq : pc + 3 = q) (hu : (own, index, y, host) ∈ NW) (hm : Ms y cc' nL' ret' 3) (hO : Ok y cc' nL' ret' d' mc' ms' [a1, a2, a3] S (RI v S1)) (hdp : d' < d) (hrc : rc + mc' = rc0) (hrs : rs + ms' = rs0) (hsm : (st.map fun v => v.category).sum ≤ 8) (k : mN S ≤ mN S1 → G κ rc rs S1 q ls (.int v :: st)) : G κ rc0 rs0 S pc ls (a3 :: a2 :: a1 :: st) := by
  subst hq; subst hrc; subst hrs
  exact g_callSN (As := [a1, a2, a3]) C hd hu hm.1 hm.2 hO hdp rfl hsm (fun r S' h hn => by obtain ⟨rfl, rfl⟩ := h; exact k hn)
theorem g_cV3v (C : Cx own cc nL ret d ini Φ κ) {b index : Nat} {a1 a2 a3 : Value}  (hd : decode cc pc = .ok (.invokevirtual index, 3)) (hq : pc + 3 = q) (hu : Cond.methodLink own index y ∈ UT) (hm : Mv y cc' nL' ret' 3) (hO : Ok y cc' nL' ret' d' mc' ms' [.ref b, a1, a2, a3] S (RV S1)) (hdp : d' < d) (hrc : rc + mc' = rc0) (hrs : rs + ms' = rs0) (hb : ck1 b 0 = true) (hcn : CN (K0 b) = y.cls) (hsm : (st.map fun v => v.category).sum ≤ 8) (k : mN S ≤ mN S1 → G κ rc rs S1 q ls st) : G κ rc0 rs0 S pc ls (a3 :: a2 :: a1 :: .ref b :: st) := by
  subst hq; subst hrc; subst hrs
  intro ad H locs lsA cells slots hw hl hs
  have hbn : b < mN S := hs (.ref b) (by simp)
  exact g_callV (As := [a1, a2, a3]) C hd hu hm.1 hm.2.1 hm.2.2 hO hdp rfl (wk hw hbn (ck1_ok hb).1) (ck1_ok hb).2.1 hcn hsm (fun r S' h hn => by obtain ⟨rfl, rfl⟩ := h; exact k hn) ad H locs lsA cells slots hw hl hs
theorem g_cD3v (C : Cx own cc nL ret d ini Φ κ) {b ci index : Nat} {a1 a2 a3 : Value}  (hd : decode cc pc = .ok (.invokevirtual index, 3)) (hq : pc + 3 = q) (hu : Cond.methodLink own index y ∈ UT) (hm : Mv y cc' nL' ret' 3) (hO : Ok y cc' nL' ret' d' mc' ms' [.ref b, a1, a2, a3] S (RV S1)) (hdp : d' < d) (hrc : rc + mc' = rc0) (hrs : rs + ms' = rs0) (hb : mK S b = ci) (hc : ci < 9) (hcn : CN ci = y.cls) (hsm : (st.map fun v => v.category).sum ≤ 8) (k : mN S ≤ mN S1 → G κ rc rs S1 q ls st) : G κ rc0 rs0 S pc ls (a3 :: a2 :: a1 :: .ref b :: st) := by
  subst hq; subst hrc; subst hrs
  exact g_callV (As := [a1, a2, a3]) C hd hu hm.1 hm.2.1 hm.2.2 hO hdp rfl hb hc hcn hsm (fun r S' h hn => by obtain ⟨rfl, rfl⟩ := h; exact k hn)
theorem g_cS3v (C : Cx own cc nL ret d ini Φ κ) {index : Nat} {a1 a2 a3 : Value}  (hd : decode cc pc = .ok (.invokestatic index, 3)) (hq : pc + 3 = q) (hu : Cond.methodLink own index y ∈ UT) (hm : Ms y cc' nL' ret' 3) (hO : Ok y cc' nL' ret' d' mc' ms' [a1, a2, a3] S (RV S1)) (hdp : d' < d) (hrc : rc + mc' = rc0) (hrs : rs + ms' = rs0) (hsm : (st.map fun v => v.category).sum ≤ 8) (k : mN S ≤ mN S1 → G κ rc rs S1 q ls st) : G κ rc0 rs0 S pc ls (a3 :: a2 :: a1 :: st) := by
  subst hq; subst hrc; subst hrs
  exact g_callS (As := [a1, a2, a3]) C hd hu hm.1 hm.2 hO hdp rfl hsm (fun r S' h hn => by obtain ⟨rfl, rfl⟩ := h; exact k hn)
theorem g_cN3v (C : Cx own cc nL ret d ini Φ κ) {index : Nat} {host : String} {a1 a2 a3 : Value}  (hd : decode cc pc = .ok (.invokestatic index, 3)) (hq : pc + 3 = q) (hu : (own, index, y, host) ∈ NW) (hm : Ms y cc' nL' ret' 3) (hO : Ok y cc' nL' ret' d' mc' ms' [a1, a2, a3] S (RV S1)) (hdp : d' < d) (hrc : rc + mc' = rc0) (hrs : rs + ms' = rs0) (hsm : (st.map fun v => v.category).sum ≤ 8) (k : mN S ≤ mN S1 → G κ rc rs S1 q ls st) : G κ rc0 rs0 S pc ls (a3 :: a2 :: a1 :: st) := by
  subst hq; subst hrc; subst hrs
  exact g_callSN (As := [a1, a2, a3]) C hd hu hm.1 hm.2 hO hdp rfl hsm (fun r S' h hn => by obtain ⟨rfl, rfl⟩ := h; exact k hn)
theorem g_cI3 (C : Cx own cc nL ret d ini Φ κ) {b index : Nat} {a1 a2 a3 : Value} (hd : decode cc pc = .ok (.invokespecial index, 3)) (hq : pc + 3 = q) (hu : Cond.methodLink own index y ∈ UT) (hm : Mc y cc' nL' 3) (hO : Ok y cc' nL' none d' mc' ms' [.ref b, a1, a2, a3] S (RV S1)) (hdp : d' < d) (hrc : rc + mc' = rc0) (hrs : rs + ms' = rs0) (hsm : (st.map fun v => v.category).sum ≤ 8) (k : mN S ≤ mN S1 → G κ rc rs S1 q ls st) : G κ rc0 rs0 S pc ls (a3 :: a2 :: a1 :: .ref b :: st) := by
  subst hq; subst hrc; subst hrs
  exact g_callI (As := [a1, a2, a3]) C hd hu hm.1 hm.2.1 hm.2.2 hO hdp rfl hsm (fun r S' h hn => by obtain ⟨rfl, rfl⟩ := h; exact k hn)
theorem g_cJ3 (C : Cx own cc nL ret d ini Φ κ) {b index : Nat} {host : String} {a1 a2 a3 : Value} (hd : decode cc pc = .ok (.invokespecial index, 3)) (hq : pc + 3 = q) (hu : (own, index, y, host) ∈ NW) (hm : Mc y cc' nL' 3) (hO : Ok y cc' nL' none d' mc' ms' [.ref b, a1, a2, a3] S (RV S1)) (hdp : d' < d) (hrc : rc + mc' = rc0) (hrs : rs + ms' = rs0) (hsm : (st.map fun v => v.category).sum ≤ 8) (k : mN S ≤ mN S1 → G κ rc rs S1 q ls st) : G κ rc0 rs0 S pc ls (a3 :: a2 :: a1 :: .ref b :: st) := by
  subst hq; subst hrc; subst hrs
  exact g_callIN (As := [a1, a2, a3]) C hd hu hm.1 hm.2.1 hm.2.2 hO hdp rfl hsm (fun r S' h hn => by obtain ⟨rfl, rfl⟩ := h; exact k hn)
theorem g_cV3r (C : Cx own cc nL ret d ini Φ κ) {b index : Nat} {a1 a2 a3 : Value} {x : Option Nat} (hd : decode cc pc = .ok (.invokevirtual index, 3)) (hq : pc + 3 = q) (hu : Cond.methodLink own index y ∈ UT) (hm : Mv y cc' nL' ret' 3) (hO : Ok y cc' nL' ret' d' mc' ms' [.ref b, a1, a2, a3] S (RR x S1)) (hdp : d' < d) (hrc : rc + mc' = rc0) (hrs : rs + ms' = rs0) (hb : ck1 b 0 = true) (hcn : CN (K0 b) = y.cls) (hsm : (st.map fun v => v.category).sum ≤ 8) (k : mN S ≤ mN S1 → G κ rc rs S1 q ls (va_rf x :: st)) : G κ rc0 rs0 S pc ls (a3 :: a2 :: a1 :: .ref b :: st) := by
  subst hq; subst hrc; subst hrs
  intro ad H locs lsA cells slots hw hl hs
  have hbn : b < mN S := hs (.ref b) (by simp)
  exact g_callV (As := [a1, a2, a3]) C hd hu hm.1 hm.2.1 hm.2.2 hO hdp rfl (wk hw hbn (ck1_ok hb).1) (ck1_ok hb).2.1 hcn hsm (fun r S' h hn => by obtain ⟨rfl, rfl⟩ := h; exact k hn) ad H locs lsA cells slots hw hl hs
theorem g_cD3r (C : Cx own cc nL ret d ini Φ κ) {b ci index : Nat} {a1 a2 a3 : Value} {x : Option Nat} (hd : decode cc pc = .ok (.invokevirtual index, 3)) (hq : pc + 3 = q) (hu : Cond.methodLink own index y ∈ UT) (hm : Mv y cc' nL' ret' 3) (hO : Ok y cc' nL' ret' d' mc' ms' [.ref b, a1, a2, a3] S (RR x S1)) (hdp : d' < d) (hrc : rc + mc' = rc0) (hrs : rs + ms' = rs0) (hb : mK S b = ci) (hc : ci < 9) (hcn : CN ci = y.cls) (hsm : (st.map fun v => v.category).sum ≤ 8) (k : mN S ≤ mN S1 → G κ rc rs S1 q ls (va_rf x :: st)) : G κ rc0 rs0 S pc ls (a3 :: a2 :: a1 :: .ref b :: st) := by
  subst hq; subst hrc; subst hrs
  exact g_callV (As := [a1, a2, a3]) C hd hu hm.1 hm.2.1 hm.2.2 hO hdp rfl hb hc hcn hsm (fun r S' h hn => by obtain ⟨rfl, rfl⟩ := h; exact k hn)
theorem g_cV4i (C : Cx own cc nL ret d ini Φ κ) {b index : Nat} {a1 a2 a3 a4 : Value} {v : Int32} (hd : decode cc pc = .ok (.invokevirtual index, 3)) (hq : pc + 3 = q) (hu : Cond.methodLink own index y ∈ UT) (hm : Mv y cc' nL' ret' 4) (hO : Ok y cc' nL' ret' d' mc' ms' [.ref b, a1, a2, a3, a4] S (RI v S1)) (hdp : d' < d) (hrc : rc + mc' = rc0) (hrs : rs + ms' = rs0) (hb : ck1 b 0 = true) (hcn : CN (K0 b) = y.cls) (hsm : (st.map fun v => v.category).sum ≤ 8) (k : mN S ≤ mN S1 → G κ rc rs S1 q ls (.int v :: st)) : G κ rc0 rs0 S pc ls (a4 :: a3 :: a2 :: a1 :: .ref b :: st) := by
  subst hq; subst hrc; subst hrs
  intro ad H locs lsA cells slots hw hl hs
  have hbn : b < mN S := hs (.ref b) (by simp)
  exact g_callV (As := [a1, a2, a3, a4]) C hd hu hm.1 hm.2.1 hm.2.2 hO hdp rfl (wk hw hbn (ck1_ok hb).1) (ck1_ok hb).2.1 hcn hsm (fun r S' h hn => by obtain ⟨rfl, rfl⟩ := h; exact k hn) ad H locs lsA cells slots hw hl hs
theorem g_cD4i (C : Cx own cc nL ret d ini Φ κ) {b ci index : Nat} {a1 a2 a3 a4 : Value} {v : Int32} (hd : decode cc pc = .ok (.invokevirtual index, 3)) (hq : pc + 3 = q) (hu : Cond.methodLink own index y ∈ UT) (hm : Mv y cc' nL' ret' 4) (hO : Ok y cc' nL' ret' d' mc' ms' [.ref b, a1, a2, a3, a4] S (RI v S1)) (hdp : d' < d) (hrc : rc + mc' = rc0) (hrs : rs + ms' = rs0) (hb : mK S b = ci) (hc : ci < 9) (hcn : CN ci = y.cls) (hsm : (st.map fun v => v.category).sum ≤ 8) (k : mN S ≤ mN S1 → G κ rc rs S1 q ls (.int v :: st)) : G κ rc0 rs0 S pc ls (a4 :: a3 :: a2 :: a1 :: .ref b :: st) := by
  subst hq; subst hrc; subst hrs
  exact g_callV (As := [a1, a2, a3, a4]) C hd hu hm.1 hm.2.1 hm.2.2 hO hdp rfl hb hc hcn hsm (fun r S' h hn => by obtain ⟨rfl, rfl⟩ := h; exact k hn)
theorem g_cV4v (C : Cx own cc nL ret d ini Φ κ) {b index : Nat} {a1 a2 a3 a4 : Value}  (hd : decode cc pc = .ok (.invokevirtual index, 3)) (hq : pc + 3 = q) (hu : Cond.methodLink own index y ∈ UT) (hm : Mv y cc' nL' ret' 4) (hO : Ok y cc' nL' ret' d' mc' ms' [.ref b, a1, a2, a3, a4] S (RV S1)) (hdp : d' < d) (hrc : rc + mc' = rc0) (hrs : rs + ms' = rs0) (hb : ck1 b 0 = true) (hcn : CN (K0 b) = y.cls) (hsm : (st.map fun v => v.category).sum ≤ 8) (k : mN S ≤ mN S1 → G κ rc rs S1 q ls st) : G κ rc0 rs0 S pc ls (a4 :: a3 :: a2 :: a1 :: .ref b :: st) := by
  subst hq; subst hrc; subst hrs
  intro ad H locs lsA cells slots hw hl hs
  have hbn : b < mN S := hs (.ref b) (by simp)
  exact g_callV (As := [a1, a2, a3, a4]) C hd hu hm.1 hm.2.1 hm.2.2 hO hdp rfl (wk hw hbn (ck1_ok hb).1) (ck1_ok hb).2.1 hcn hsm (fun r S' h hn => by obtain ⟨rfl, rfl⟩ := h; exact k hn) ad H locs lsA cells slots hw hl hs
theorem g_cD4v (C : Cx own cc nL ret d ini Φ κ) {b ci index : Nat} {a1 a2 a3 a4 : Value}  (hd : decode cc pc = .ok (.invokevirtual index, 3)) (hq : pc + 3 = q) (hu : Cond.methodLink own index y ∈ UT) (hm : Mv y cc' nL' ret' 4) (hO : Ok y cc' nL' ret' d' mc' ms' [.ref b, a1, a2, a3, a4] S (RV S1)) (hdp : d' < d) (hrc : rc + mc' = rc0) (hrs : rs + ms' = rs0) (hb : mK S b = ci) (hc : ci < 9) (hcn : CN ci = y.cls) (hsm : (st.map fun v => v.category).sum ≤ 8) (k : mN S ≤ mN S1 → G κ rc rs S1 q ls st) : G κ rc0 rs0 S pc ls (a4 :: a3 :: a2 :: a1 :: .ref b :: st) := by
  subst hq; subst hrc; subst hrs
  exact g_callV (As := [a1, a2, a3, a4]) C hd hu hm.1 hm.2.1 hm.2.2 hO hdp rfl hb hc hcn hsm (fun r S' h hn => by obtain ⟨rfl, rfl⟩ := h; exact k hn)
theorem g_cI4 (C : Cx own cc nL ret d ini Φ κ) {b index : Nat} {a1 a2 a3 a4 : Value} (hd : decode cc pc = .ok (.invokespecial index, 3)) (hq : pc + 3 = q) (hu : Cond.methodLink own index y ∈ UT) (hm : Mc y cc' nL' 4) (hO : Ok y cc' nL' none d' mc' ms' [.ref b, a1, a2, a3, a4] S (RV S1)) (hdp : d' < d) (hrc : rc + mc' = rc0) (hrs : rs + ms' = rs0) (hsm : (st.map fun v => v.category).sum ≤ 8) (k : mN S ≤ mN S1 → G κ rc rs S1 q ls st) : G κ rc0 rs0 S pc ls (a4 :: a3 :: a2 :: a1 :: .ref b :: st) := by
  subst hq; subst hrc; subst hrs
  exact g_callI (As := [a1, a2, a3, a4]) C hd hu hm.1 hm.2.1 hm.2.2 hO hdp rfl hsm (fun r S' h hn => by obtain ⟨rfl, rfl⟩ := h; exact k hn)
theorem g_cJ4 (C : Cx own cc nL ret d ini Φ κ) {b index : Nat} {host : String} {a1 a2 a3 a4 : Value} (hd : decode cc pc = .ok (.invokespecial index, 3)) (hq : pc + 3 = q) (hu : (own, index, y, host) ∈ NW) (hm : Mc y cc' nL' 4) (hO : Ok y cc' nL' none d' mc' ms' [.ref b, a1, a2, a3, a4] S (RV S1)) (hdp : d' < d) (hrc : rc + mc' = rc0) (hrs : rs + ms' = rs0) (hsm : (st.map fun v => v.category).sum ≤ 8) (k : mN S ≤ mN S1 → G κ rc rs S1 q ls st) : G κ rc0 rs0 S pc ls (a4 :: a3 :: a2 :: a1 :: .ref b :: st) := by
  subst hq; subst hrc; subst hrs
  exact g_callIN (As := [a1, a2, a3, a4]) C hd hu hm.1 hm.2.1 hm.2.2 hO hdp rfl hsm (fun r S' h hn => by obtain ⟨rfl, rfl⟩ := h; exact k hn)
theorem g_cV4r (C : Cx own cc nL ret d ini Φ κ) {b index : Nat} {a1 a2 a3 a4 : Value} {x : Option Nat} (hd : decode cc pc = .ok (.invokevirtual index, 3)) (hq : pc + 3 = q) (hu : Cond.methodLink own index y ∈ UT) (hm : Mv y cc' nL' ret' 4) (hO : Ok y cc' nL' ret' d' mc' ms' [.ref b, a1, a2, a3, a4] S (RR x S1)) (hdp : d' < d) (hrc : rc + mc' = rc0) (hrs : rs + ms' = rs0) (hb : ck1 b 0 = true) (hcn : CN (K0 b) = y.cls) (hsm : (st.map fun v => v.category).sum ≤ 8) (k : mN S ≤ mN S1 → G κ rc rs S1 q ls (va_rf x :: st)) : G κ rc0 rs0 S pc ls (a4 :: a3 :: a2 :: a1 :: .ref b :: st) := by
  subst hq; subst hrc; subst hrs
  intro ad H locs lsA cells slots hw hl hs
  have hbn : b < mN S := hs (.ref b) (by simp)
  exact g_callV (As := [a1, a2, a3, a4]) C hd hu hm.1 hm.2.1 hm.2.2 hO hdp rfl (wk hw hbn (ck1_ok hb).1) (ck1_ok hb).2.1 hcn hsm (fun r S' h hn => by obtain ⟨rfl, rfl⟩ := h; exact k hn) ad H locs lsA cells slots hw hl hs
theorem g_cD4r (C : Cx own cc nL ret d ini Φ κ) {b ci index : Nat} {a1 a2 a3 a4 : Value} {x : Option Nat} (hd : decode cc pc = .ok (.invokevirtual index, 3)) (hq : pc + 3 = q) (hu : Cond.methodLink own index y ∈ UT) (hm : Mv y cc' nL' ret' 4) (hO : Ok y cc' nL' ret' d' mc' ms' [.ref b, a1, a2, a3, a4] S (RR x S1)) (hdp : d' < d) (hrc : rc + mc' = rc0) (hrs : rs + ms' = rs0) (hb : mK S b = ci) (hc : ci < 9) (hcn : CN ci = y.cls) (hsm : (st.map fun v => v.category).sum ≤ 8) (k : mN S ≤ mN S1 → G κ rc rs S1 q ls (va_rf x :: st)) : G κ rc0 rs0 S pc ls (a4 :: a3 :: a2 :: a1 :: .ref b :: st) := by
  subst hq; subst hrc; subst hrs
  exact g_callV (As := [a1, a2, a3, a4]) C hd hu hm.1 hm.2.1 hm.2.2 hO hdp rfl hb hc hcn hsm (fun r S' h hn => by obtain ⟨rfl, rfl⟩ := h; exact k hn)
end CALLN
theorem mz_X0_init : Mc yX0_init cX0_init 1 0 := ⟨⟨⟨co_yX0_init, in_X0⟩, by decide +kernel, by decide⟩, im_yX0_init, rfl⟩
theorem mz_X0_size : Mv yX0_size cX0_size 1 (some .int) 0 := ⟨⟨⟨co_yX0_size, in_X0⟩, by decide +kernel, by decide⟩, im_yX0_size, se_yX0_size⟩
theorem mz_X0_clear : Mv yX0_clear cX0_clear 1 none 0 := ⟨⟨⟨co_yX0_clear, in_X0⟩, by decide +kernel, by decide⟩, im_yX0_clear, se_yX0_clear⟩
theorem mz_X0_add : Mv yX0_add cX0_add 3 (some .boolean) 2 := ⟨⟨⟨co_yX0_add, in_X0⟩, by decide +kernel, by decide⟩, im_yX0_add, se_yX0_add⟩
theorem mz_X7_has : Ms yX7_has cX7_has 2 (some .boolean) 2 := ⟨⟨⟨co_yX7_has, in_X7⟩, by decide +kernel, by decide⟩, sm_yX7_has⟩
theorem mz_X0_firstWrong : Mv yX0_firstWrong cX0_firstWrong 3 (some .int) 1 := ⟨⟨⟨co_yX0_firstWrong, in_X0⟩, by decide +kernel, by decide⟩, im_yX0_firstWrong, se_yX0_firstWrong⟩
theorem mz_X1_init : Mc yX1_init cX1_init 1 0 := ⟨⟨⟨co_yX1_init, in_X1⟩, by decide +kernel, by decide⟩, im_yX1_init, rfl⟩
theorem mz_X1_size : Mv yX1_size cX1_size 1 (some .int) 0 := ⟨⟨⟨co_yX1_size, in_X1⟩, by decide +kernel, by decide⟩, im_yX1_size, se_yX1_size⟩
theorem mz_X1_clear : Mv yX1_clear cX1_clear 1 none 0 := ⟨⟨⟨co_yX1_clear, in_X1⟩, by decide +kernel, by decide⟩, im_yX1_clear, se_yX1_clear⟩
theorem mz_X1_loseOldest : Mv yX1_loseOldest cX1_loseOldest 2 none 0 := ⟨⟨⟨co_yX1_loseOldest, in_X1⟩, by decide +kernel, by decide⟩, im_yX1_loseOldest, se_yX1_loseOldest⟩
theorem mz_X1_add : Mv yX1_add cX1_add 2 none 1 := ⟨⟨⟨co_yX1_add, in_X1⟩, by decide +kernel, by decide⟩, im_yX1_add, se_yX1_add⟩
theorem mz_X1_takeLatest : Mv yX1_takeLatest cX1_takeLatest 1 (some (.object "BarrelMoon$Moment")) 0 := ⟨⟨⟨co_yX1_takeLatest, in_X1⟩, by decide +kernel, by decide⟩, im_yX1_takeLatest, se_yX1_takeLatest⟩
theorem mz_X2_init : Mc yX2_init cX2_init 5 4 := ⟨⟨⟨co_yX2_init, in_X2⟩, by decide +kernel, by decide⟩, im_yX2_init, rfl⟩
theorem mz_X3_init : Mc yX3_init cX3_init 1 0 := ⟨⟨⟨co_yX3_init, in_X3⟩, by decide +kernel, by decide⟩, im_yX3_init, rfl⟩
theorem mz_X3_size : Mv yX3_size cX3_size 1 (some .int) 0 := ⟨⟨⟨co_yX3_size, in_X3⟩, by decide +kernel, by decide⟩, im_yX3_size, se_yX3_size⟩
theorem mz_X3_clear : Mv yX3_clear cX3_clear 1 none 0 := ⟨⟨⟨co_yX3_clear, in_X3⟩, by decide +kernel, by decide⟩, im_yX3_clear, se_yX3_clear⟩
theorem mz_X3_add : Mv yX3_add cX3_add 4 (some .boolean) 3 := ⟨⟨⟨co_yX3_add, in_X3⟩, by decide +kernel, by decide⟩, im_yX3_add, se_yX3_add⟩
theorem mz_X4_allRules : Mv yX4_allRules cX4_allRules 1 (some .int) 0 := ⟨⟨⟨co_yX4_allRules, in_X4⟩, by decide +kernel, by decide⟩, im_yX4_allRules, se_yX4_allRules⟩
theorem mz_X4_closure : Mv yX4_closure cX4_closure 8 (some .int) 2 := ⟨⟨⟨co_yX4_closure, in_X4⟩, by decide +kernel, by decide⟩, im_yX4_closure, se_yX4_closure⟩
theorem mz_X3_fit : Mv yX3_fit cX3_fit 4 (some .boolean) 2 := ⟨⟨⟨co_yX3_fit, in_X3⟩, by decide +kernel, by decide⟩, im_yX3_fit, se_yX3_fit⟩
theorem mz_X4_init : Mc yX4_init cX4_init 1 0 := ⟨⟨⟨co_yX4_init, in_X4⟩, by decide +kernel, by decide⟩, im_yX4_init, rfl⟩
theorem mz_X4_clear : Mv yX4_clear cX4_clear 1 none 0 := ⟨⟨⟨co_yX4_clear, in_X4⟩, by decide +kernel, by decide⟩, im_yX4_clear, se_yX4_clear⟩
theorem mz_X4_isNone : Mv yX4_isNone cX4_isNone 1 (some .boolean) 0 := ⟨⟨⟨co_yX4_isNone, in_X4⟩, by decide +kernel, by decide⟩, im_yX4_isNone, se_yX4_isNone⟩
theorem mz_X4_isFull : Mv yX4_isFull cX4_isFull 1 (some .boolean) 0 := ⟨⟨⟨co_yX4_isFull, in_X4⟩, by decide +kernel, by decide⟩, im_yX4_isFull, se_yX4_isFull⟩
theorem mz_X4_addRule : Mv yX4_addRule cX4_addRule 4 none 3 := ⟨⟨⟨co_yX4_addRule, in_X4⟩, by decide +kernel, by decide⟩, im_yX4_addRule, se_yX4_addRule⟩
theorem mz_X4_sayings : Mv yX4_sayings cX4_sayings 1 (some .int) 0 := ⟨⟨⟨co_yX4_sayings, in_X4⟩, by decide +kernel, by decide⟩, im_yX4_sayings, se_yX4_sayings⟩
theorem mz_X4_allSayings : Mv yX4_allSayings cX4_allSayings 1 (some .int) 0 := ⟨⟨⟨co_yX4_allSayings, in_X4⟩, by decide +kernel, by decide⟩, im_yX4_allSayings, se_yX4_allSayings⟩
theorem mz_X4_hasSaying : Mv yX4_hasSaying cX4_hasSaying 2 (some .boolean) 1 := ⟨⟨⟨co_yX4_hasSaying, in_X4⟩, by decide +kernel, by decide⟩, im_yX4_hasSaying, se_yX4_hasSaying⟩
theorem mz_X4_hasSayings : Mv yX4_hasSayings cX4_hasSayings 2 (some .boolean) 1 := ⟨⟨⟨co_yX4_hasSayings, in_X4⟩, by decide +kernel, by decide⟩, im_yX4_hasSayings, se_yX4_hasSayings⟩
theorem mz_X4_hasRule : Mv yX4_hasRule cX4_hasRule 2 (some .boolean) 1 := ⟨⟨⟨co_yX4_hasRule, in_X4⟩, by decide +kernel, by decide⟩, im_yX4_hasRule, se_yX4_hasRule⟩
theorem mz_X4_quarrelsIn : Mv yX4_quarrelsIn cX4_quarrelsIn 4 (some .int) 1 := ⟨⟨⟨co_yX4_quarrelsIn, in_X4⟩, by decide +kernel, by decide⟩, im_yX4_quarrelsIn, se_yX4_quarrelsIn⟩
theorem mz_X4_costOf : Mv yX4_costOf cX4_costOf 4 (some .int) 1 := ⟨⟨⟨co_yX4_costOf, in_X4⟩, by decide +kernel, by decide⟩, im_yX4_costOf, se_yX4_costOf⟩
theorem mz_X4_concludedBy : Mv yX4_concludedBy cX4_concludedBy 4 (some .int) 1 := ⟨⟨⟨co_yX4_concludedBy, in_X4⟩, by decide +kernel, by decide⟩, im_yX4_concludedBy, se_yX4_concludedBy⟩
theorem mz_X5_init : Mc yX5_init cX5_init 1 0 := ⟨⟨⟨co_yX5_init, in_X5⟩, by decide +kernel, by decide⟩, im_yX5_init, rfl⟩
theorem mz_X5_append : Mv yX5_append cX5_append 2 (some .boolean) 1 := ⟨⟨⟨co_yX5_append, in_X5⟩, by decide +kernel, by decide⟩, im_yX5_append, se_yX5_append⟩
theorem mz_X5_length : Mv yX5_length cX5_length 1 (some .int) 0 := ⟨⟨⟨co_yX5_length, in_X5⟩, by decide +kernel, by decide⟩, im_yX5_length, se_yX5_length⟩
theorem mz_X5_forgetText : Mv yX5_forgetText cX5_forgetText 1 none 0 := ⟨⟨⟨co_yX5_forgetText, in_X5⟩, by decide +kernel, by decide⟩, im_yX5_forgetText, se_yX5_forgetText⟩
theorem mz_X5_faultKind : Mv yX5_faultKind cX5_faultKind 1 (some .int) 0 := ⟨⟨⟨co_yX5_faultKind, in_X5⟩, by decide +kernel, by decide⟩, im_yX5_faultKind, se_yX5_faultKind⟩
theorem mz_X5_faultAt : Mv yX5_faultAt cX5_faultAt 1 (some .int) 0 := ⟨⟨⟨co_yX5_faultAt, in_X5⟩, by decide +kernel, by decide⟩, im_yX5_faultAt, se_yX5_faultAt⟩
theorem mz_X5_peek : Mv yX5_peek cX5_peek 1 (some .int) 0 := ⟨⟨⟨co_yX5_peek, in_X5⟩, by decide +kernel, by decide⟩, im_yX5_peek, se_yX5_peek⟩
theorem mz_X5_stop : Mv yX5_stop cX5_stop 3 none 2 := ⟨⟨⟨co_yX5_stop, in_X5⟩, by decide +kernel, by decide⟩, im_yX5_stop, se_yX5_stop⟩
theorem mz_X5_take : Mv yX5_take cX5_take 2 (some .boolean) 1 := ⟨⟨⟨co_yX5_take, in_X5⟩, by decide +kernel, by decide⟩, im_yX5_take, se_yX5_take⟩
theorem mz_X5_isFigure : Ms yX5_isFigure cX5_isFigure 1 (some .boolean) 1 := ⟨⟨⟨co_yX5_isFigure, in_X5⟩, by decide +kernel, by decide⟩, sm_yX5_isFigure⟩
theorem mz_X5_number : Mv yX5_number cX5_number 4 (some .int) 2 := ⟨⟨⟨co_yX5_number, in_X5⟩, by decide +kernel, by decide⟩, im_yX5_number, se_yX5_number⟩
theorem mz_X5_readThings : Mv yX5_readThings cX5_readThings 3 none 1 := ⟨⟨⟨co_yX5_readThings, in_X5⟩, by decide +kernel, by decide⟩, im_yX5_readThings, se_yX5_readThings⟩
theorem mz_X5_readPremises : Mv yX5_readPremises cX5_readPremises 6 (some .int) 2 := ⟨⟨⟨co_yX5_readPremises, in_X5⟩, by decide +kernel, by decide⟩, im_yX5_readPremises, se_yX5_readPremises⟩
theorem mz_X5_readRule : Mv yX5_readRule cX5_readRule 5 none 1 := ⟨⟨⟨co_yX5_readRule, in_X5⟩, by decide +kernel, by decide⟩, im_yX5_readRule, se_yX5_readRule⟩
theorem mz_X5_readSeen : Mv yX5_readSeen cX5_readSeen 3 none 1 := ⟨⟨⟨co_yX5_readSeen, in_X5⟩, by decide +kernel, by decide⟩, im_yX5_readSeen, se_yX5_readSeen⟩
theorem mz_X5_readClause : Mv yX5_readClause cX5_readClause 3 none 1 := ⟨⟨⟨co_yX5_readClause, in_X5⟩, by decide +kernel, by decide⟩, im_yX5_readClause, se_yX5_readClause⟩
theorem mz_X5_readInto : Mv yX5_readInto cX5_readInto 3 none 1 := ⟨⟨⟨co_yX5_readInto, in_X5⟩, by decide +kernel, by decide⟩, im_yX5_readInto, se_yX5_readInto⟩
theorem mz_X6_init : Mc yX6_init cX6_init 4 3 := ⟨⟨⟨co_yX6_init, in_X6⟩, by decide +kernel, by decide⟩, im_yX6_init, rfl⟩
theorem mz_X6_conclusions : Mv yX6_conclusions cX6_conclusions 1 (some .int) 0 := ⟨⟨⟨co_yX6_conclusions, in_X6⟩, by decide +kernel, by decide⟩, im_yX6_conclusions, se_yX6_conclusions⟩
theorem mz_X6_concludesBy : Mv yX6_concludesBy cX6_concludesBy 3 (some .boolean) 2 := ⟨⟨⟨co_yX6_concludesBy, in_X6⟩, by decide +kernel, by decide⟩, im_yX6_concludesBy, se_yX6_concludesBy⟩
theorem mz_J6_bitCount_0f7a4 : Ms yJ6_bitCount_0f7a4 cJ6_bitCount_0f7a4 1 (some .int) 1 := ⟨⟨⟨co_yJ6_bitCount_0f7a4, in_J6⟩, by decide +kernel, by decide⟩, sm_yJ6_bitCount_0f7a4⟩
theorem mz_X6_isAllowed : Mv yX6_isAllowed cX6_isAllowed 2 (some .boolean) 1 := ⟨⟨⟨co_yX6_isAllowed, in_X6⟩, by decide +kernel, by decide⟩, im_yX6_isAllowed, se_yX6_isAllowed⟩
theorem mz_X6_leastProof : Mv yX6_leastProof cX6_leastProof 6 (some .int) 1 := ⟨⟨⟨co_yX6_leastProof, in_X6⟩, by decide +kernel, by decide⟩, im_yX6_leastProof, se_yX6_leastProof⟩
theorem mz_X6_isPeaceWithout : Mv yX6_isPeaceWithout cX6_isPeaceWithout 2 (some .boolean) 1 := ⟨⟨⟨co_yX6_isPeaceWithout, in_X6⟩, by decide +kernel, by decide⟩, im_yX6_isPeaceWithout, se_yX6_isPeaceWithout⟩
theorem mz_X6_cheapestPeace : Mv yX6_cheapestPeace cX6_cheapestPeace 4 (some .int) 0 := ⟨⟨⟨co_yX6_cheapestPeace, in_X6⟩, by decide +kernel, by decide⟩, im_yX6_cheapestPeace, se_yX6_cheapestPeace⟩
theorem mz_X6_bringTo : Mv yX6_bringTo cX6_bringTo 4 (some .boolean) 2 := ⟨⟨⟨co_yX6_bringTo, in_X6⟩, by decide +kernel, by decide⟩, im_yX6_bringTo, se_yX6_bringTo⟩
theorem mz_X7_denialOf : Ms yX7_denialOf cX7_denialOf 1 (some .int) 1 := ⟨⟨⟨co_yX7_denialOf, in_X7⟩, by decide +kernel, by decide⟩, sm_yX7_denialOf⟩
theorem mz_X6_leastWords : Mv yX6_leastWords cX6_leastWords 7 (some .int) 4 := ⟨⟨⟨co_yX6_leastWords, in_X6⟩, by decide +kernel, by decide⟩, im_yX6_leastWords, se_yX6_leastWords⟩
theorem mz_X6_fewestWords : Mv yX6_fewestWords cX6_fewestWords 4 (some .int) 1 := ⟨⟨⟨co_yX6_fewestWords, in_X6⟩, by decide +kernel, by decide⟩, im_yX6_fewestWords, se_yX6_fewestWords⟩
theorem mz_X7_put : Ms yX7_put cX7_put 3 (some .int) 3 := ⟨⟨⟨co_yX7_put, in_X7⟩, by decide +kernel, by decide⟩, sm_yX7_put⟩
theorem mz_X6_neededRules : Mv yX6_neededRules cX6_neededRules 4 (some .int) 1 := ⟨⟨⟨co_yX6_neededRules, in_X6⟩, by decide +kernel, by decide⟩, im_yX6_neededRules, se_yX6_neededRules⟩
theorem mz_X6_fewestBars : Mv yX6_fewestBars cX6_fewestBars 6 (some .int) 1 := ⟨⟨⟨co_yX6_fewestBars, in_X6⟩, by decide +kernel, by decide⟩, im_yX6_fewestBars, se_yX6_fewestBars⟩
theorem mz_X6_returnsTo : Mv yX6_returnsTo cX6_returnsTo 4 (some .boolean) 1 := ⟨⟨⟨co_yX6_returnsTo, in_X6⟩, by decide +kernel, by decide⟩, im_yX6_returnsTo, se_yX6_returnsTo⟩
theorem mz_X6_circles : Mv yX6_circles cX6_circles 3 (some .int) 0 := ⟨⟨⟨co_yX6_circles, in_X6⟩, by decide +kernel, by decide⟩, im_yX6_circles, se_yX6_circles⟩
theorem mz_X7_init : Mc yX7_init cX7_init 1 0 := ⟨⟨⟨co_yX7_init, in_X7⟩, by decide +kernel, by decide⟩, im_yX7_init, rfl⟩
theorem mz_X7_feed : Mv yX7_feed cX7_feed 2 (some .int) 1 := ⟨⟨⟨co_yX7_feed, in_X7⟩, by decide +kernel, by decide⟩, im_yX7_feed, se_yX7_feed⟩
theorem mz_X7_beginAnew : Mv yX7_beginAnew cX7_beginAnew 2 none 0 := ⟨⟨⟨co_yX7_beginAnew, in_X7⟩, by decide +kernel, by decide⟩, im_yX7_beginAnew, se_yX7_beginAnew⟩
theorem mz_X7_town : Mv yX7_town cX7_town 2 (some .int) 0 := ⟨⟨⟨co_yX7_town, in_X7⟩, by decide +kernel, by decide⟩, im_yX7_town, se_yX7_town⟩
theorem mz_X7_fault : Mv yX7_fault cX7_fault 1 (some .int) 0 := ⟨⟨⟨co_yX7_fault, in_X7⟩, by decide +kernel, by decide⟩, im_yX7_fault, se_yX7_fault⟩
theorem mz_X7_rulesGoneBy : Mv yX7_rulesGoneBy cX7_rulesGoneBy 1 (some .int) 0 := ⟨⟨⟨co_yX7_rulesGoneBy, in_X7⟩, by decide +kernel, by decide⟩, im_yX7_rulesGoneBy, se_yX7_rulesGoneBy⟩
theorem mz_X7_trialNow : Mv yX7_trialNow cX7_trialNow 1 (some (.object "BarrelMoon$Trial")) 0 := ⟨⟨⟨co_yX7_trialNow, in_X7⟩, by decide +kernel, by decide⟩, im_yX7_trialNow, se_yX7_trialNow⟩
theorem mz_X7_told : Mv yX7_told cX7_told 2 (some .int) 1 := ⟨⟨⟨co_yX7_told, in_X7⟩, by decide +kernel, by decide⟩, im_yX7_told, se_yX7_told⟩
theorem mz_X7_rule : Mv yX7_rule cX7_rule 3 (some .int) 2 := ⟨⟨⟨co_yX7_rule, in_X7⟩, by decide +kernel, by decide⟩, im_yX7_rule, se_yX7_rule⟩
theorem mz_X7_change : Mv yX7_change cX7_change 2 none 1 := ⟨⟨⟨co_yX7_change, in_X7⟩, by decide +kernel, by decide⟩, im_yX7_change, se_yX7_change⟩
theorem mz_X7_see : Mv yX7_see cX7_see 4 (some .int) 2 := ⟨⟨⟨co_yX7_see, in_X7⟩, by decide +kernel, by decide⟩, im_yX7_see, se_yX7_see⟩
theorem mz_X7_forbid : Mv yX7_forbid cX7_forbid 4 (some .int) 2 := ⟨⟨⟨co_yX7_forbid, in_X7⟩, by decide +kernel, by decide⟩, im_yX7_forbid, se_yX7_forbid⟩
theorem mz_X7_debate : Mv yX7_debate cX7_debate 2 (some .int) 0 := ⟨⟨⟨co_yX7_debate, in_X7⟩, by decide +kernel, by decide⟩, im_yX7_debate, se_yX7_debate⟩
theorem mz_X7_drop : Mv yX7_drop cX7_drop 2 (some .int) 0 := ⟨⟨⟨co_yX7_drop, in_X7⟩, by decide +kernel, by decide⟩, im_yX7_drop, se_yX7_drop⟩
theorem mz_X7_draw : Mv yX7_draw cX7_draw 2 (some .int) 1 := ⟨⟨⟨co_yX7_draw, in_X7⟩, by decide +kernel, by decide⟩, im_yX7_draw, se_yX7_draw⟩
theorem mz_X7_drift : Mv yX7_drift cX7_drift 7 (some .int) 1 := ⟨⟨⟨co_yX7_drift, in_X7⟩, by decide +kernel, by decide⟩, im_yX7_drift, se_yX7_drift⟩
theorem mz_X7_undo : Mv yX7_undo cX7_undo 2 (some .int) 0 := ⟨⟨⟨co_yX7_undo, in_X7⟩, by decide +kernel, by decide⟩, im_yX7_undo, se_yX7_undo⟩
theorem mz_X7_follows : Mv yX7_follows cX7_follows 2 (some .int) 1 := ⟨⟨⟨co_yX7_follows, in_X7⟩, by decide +kernel, by decide⟩, im_yX7_follows, se_yX7_follows⟩
theorem mz_X7_proof : Mv yX7_proof cX7_proof 4 (some .int) 2 := ⟨⟨⟨co_yX7_proof, in_X7⟩, by decide +kernel, by decide⟩, im_yX7_proof, se_yX7_proof⟩
theorem mz_X7_giveUp : Mv yX7_giveUp cX7_giveUp 3 (some .int) 1 := ⟨⟨⟨co_yX7_giveUp, in_X7⟩, by decide +kernel, by decide⟩, im_yX7_giveUp, se_yX7_giveUp⟩
theorem mz_X7_words : Mv yX7_words cX7_words 2 (some .int) 1 := ⟨⟨⟨co_yX7_words, in_X7⟩, by decide +kernel, by decide⟩, im_yX7_words, se_yX7_words⟩
theorem mz_X7_step : Mv yX7_step cX7_step 2 (some .int) 1 := ⟨⟨⟨co_yX7_step, in_X7⟩, by decide +kernel, by decide⟩, im_yX7_step, se_yX7_step⟩
theorem mz_X7_barred : Mv yX7_barred cX7_barred 2 (some .int) 1 := ⟨⟨⟨co_yX7_barred, in_X7⟩, by decide +kernel, by decide⟩, im_yX7_barred, se_yX7_barred⟩
theorem mz_X7_never : Mv yX7_never cX7_never 1 (some .int) 0 := ⟨⟨⟨co_yX7_never, in_X7⟩, by decide +kernel, by decide⟩, im_yX7_never, se_yX7_never⟩
theorem mz_X7_round : Mv yX7_round cX7_round 1 (some .int) 0 := ⟨⟨⟨co_yX7_round, in_X7⟩, by decide +kernel, by decide⟩, im_yX7_round, se_yX7_round⟩
theorem mz_X7_shareVotes : Mv yX7_shareVotes cX7_shareVotes 7 none 2 := ⟨⟨⟨co_yX7_shareVotes, in_X7⟩, by decide +kernel, by decide⟩, im_yX7_shareVotes, se_yX7_shareVotes⟩
theorem mz_X7_vote : Mv yX7_vote cX7_vote 6 (some .int) 2 := ⟨⟨⟨co_yX7_vote, in_X7⟩, by decide +kernel, by decide⟩, im_yX7_vote, se_yX7_vote⟩
theorem mz_X7_ask : Mv yX7_ask cX7_ask 4 (some .int) 3 := ⟨⟨⟨co_yX7_ask, in_X7⟩, by decide +kernel, by decide⟩, im_yX7_ask, se_yX7_ask⟩
theorem mz_X7_believed : Mv yX7_believed cX7_believed 6 (some .int) 1 := ⟨⟨⟨co_yX7_believed, in_X7⟩, by decide +kernel, by decide⟩, im_yX7_believed, se_yX7_believed⟩
theorem mz_X7_countYes : Mv yX7_countYes cX7_countYes 3 none 1 := ⟨⟨⟨co_yX7_countYes, in_X7⟩, by decide +kernel, by decide⟩, im_yX7_countYes, se_yX7_countYes⟩
theorem mz_X7_countAnswers : Mv yX7_countAnswers cX7_countAnswers 3 (some .int) 0 := ⟨⟨⟨co_yX7_countAnswers, in_X7⟩, by decide +kernel, by decide⟩, im_yX7_countAnswers, se_yX7_countAnswers⟩
theorem mz_X7_askNext : Mv yX7_askNext cX7_askNext 6 (some .int) 0 := ⟨⟨⟨co_yX7_askNext, in_X7⟩, by decide +kernel, by decide⟩, im_yX7_askNext, se_yX7_askNext⟩
theorem mz_X7_write : Mv yX7_write cX7_write 3 (some .int) 2 := ⟨⟨⟨co_yX7_write, in_X7⟩, by decide +kernel, by decide⟩, im_yX7_write, se_yX7_write⟩
theorem mz_X7_tear : Mv yX7_tear cX7_tear 2 (some .int) 0 := ⟨⟨⟨co_yX7_tear, in_X7⟩, by decide +kernel, by decide⟩, im_yX7_tear, se_yX7_tear⟩
theorem mz_X7_judge : Mv yX7_judge cX7_judge 1 (some .int) 0 := ⟨⟨⟨co_yX7_judge, in_X7⟩, by decide +kernel, by decide⟩, im_yX7_judge, se_yX7_judge⟩
theorem mz_X7_seed : Mv yX7_seed cX7_seed 3 (some .int) 1 := ⟨⟨⟨co_yX7_seed, in_X7⟩, by decide +kernel, by decide⟩, im_yX7_seed, se_yX7_seed⟩
theorem mz_X7_keep : Mv yX7_keep cX7_keep 2 (some .int) 1 := ⟨⟨⟨co_yX7_keep, in_X7⟩, by decide +kernel, by decide⟩, im_yX7_keep, se_yX7_keep⟩
theorem mz_X7_goBack : Mv yX7_goBack cX7_goBack 3 (some .int) 1 := ⟨⟨⟨co_yX7_goBack, in_X7⟩, by decide +kernel, by decide⟩, im_yX7_goBack, se_yX7_goBack⟩
theorem mz_X8_init : Mc yX8_init cX8_init 1 0 := ⟨⟨⟨co_yX8_init, in_X8⟩, by decide +kernel, by decide⟩, im_yX8_init, rfl⟩
theorem mz_X8_in : Ms yX8_in cX8_in 6 (some .boolean) 3 := ⟨⟨⟨co_yX8_in, in_X8⟩, by decide +kernel, by decide⟩, sm_yX8_in⟩
theorem mz_X8_has : Ms yX8_has cX8_has 2 (some .boolean) 2 := ⟨⟨⟨co_yX8_has, in_X8⟩, by decide +kernel, by decide⟩, sm_yX8_has⟩
theorem mz_X8_bits : Ms yX8_bits cX8_bits 3 (some .int) 1 := ⟨⟨⟨co_yX8_bits, in_X8⟩, by decide +kernel, by decide⟩, sm_yX8_bits⟩
theorem mz_X8_isSaying : Mv yX8_isSaying cX8_isSaying 2 (some .boolean) 1 := ⟨⟨⟨co_yX8_isSaying, in_X8⟩, by decide +kernel, by decide⟩, im_yX8_isSaying, se_yX8_isSaying⟩
theorem mz_X8_isSet : Mv yX8_isSet cX8_isSet 2 (some .boolean) 1 := ⟨⟨⟨co_yX8_isSet, in_X8⟩, by decide +kernel, by decide⟩, im_yX8_isSet, se_yX8_isSet⟩
theorem mz_X8_isRule : Mv yX8_isRule cX8_isRule 2 (some .boolean) 1 := ⟨⟨⟨co_yX8_isRule, in_X8⟩, by decide +kernel, by decide⟩, im_yX8_isRule, se_yX8_isRule⟩
theorem mz_X8_denial : Ms yX8_denial cX8_denial 1 (some .int) 1 := ⟨⟨⟨co_yX8_denial, in_X8⟩, by decide +kernel, by decide⟩, sm_yX8_denial⟩
theorem mz_X8_feed : Mv yX8_feed cX8_feed 2 (some .int) 1 := ⟨⟨⟨co_yX8_feed, in_X8⟩, by decide +kernel, by decide⟩, im_yX8_feed, se_yX8_feed⟩
theorem mz_X8_here : Mv yX8_here cX8_here 1 (some .int) 0 := ⟨⟨⟨co_yX8_here, in_X8⟩, by decide +kernel, by decide⟩, im_yX8_here, se_yX8_here⟩
theorem mz_X8_fails : Mv yX8_fails cX8_fails 3 (some .int) 2 := ⟨⟨⟨co_yX8_fails, in_X8⟩, by decide +kernel, by decide⟩, im_yX8_fails, se_yX8_fails⟩
theorem mz_X8_takeNumber : Mv yX8_takeNumber cX8_takeNumber 4 (some .int) 2 := ⟨⟨⟨co_yX8_takeNumber, in_X8⟩, by decide +kernel, by decide⟩, im_yX8_takeNumber, se_yX8_takeNumber⟩
theorem mz_X8_takeThings : Mv yX8_takeThings cX8_takeThings 2 (some .int) 0 := ⟨⟨⟨co_yX8_takeThings, in_X8⟩, by decide +kernel, by decide⟩, im_yX8_takeThings, se_yX8_takeThings⟩
theorem mz_X8_takeSaying : Mv yX8_takeSaying cX8_takeSaying 3 (some .int) 1 := ⟨⟨⟨co_yX8_takeSaying, in_X8⟩, by decide +kernel, by decide⟩, im_yX8_takeSaying, se_yX8_takeSaying⟩
theorem mz_X8_takeRule : Mv yX8_takeRule cX8_takeRule 4 (some .int) 0 := ⟨⟨⟨co_yX8_takeRule, in_X8⟩, by decide +kernel, by decide⟩, im_yX8_takeRule, se_yX8_takeRule⟩
theorem mz_X8_takeSeen : Mv yX8_takeSeen cX8_takeSeen 2 (some .int) 0 := ⟨⟨⟨co_yX8_takeSeen, in_X8⟩, by decide +kernel, by decide⟩, im_yX8_takeSeen, se_yX8_takeSeen⟩
theorem mz_X8_takeClause : Mv yX8_takeClause cX8_takeClause 4 (some .int) 0 := ⟨⟨⟨co_yX8_takeClause, in_X8⟩, by decide +kernel, by decide⟩, im_yX8_takeClause, se_yX8_takeClause⟩
theorem mz_X8_town : Mv yX8_town cX8_town 3 (some .int) 0 := ⟨⟨⟨co_yX8_town, in_X8⟩, by decide +kernel, by decide⟩, im_yX8_town, se_yX8_town⟩
theorem mz_X8_fault : Mv yX8_fault cX8_fault 1 (some .int) 0 := ⟨⟨⟨co_yX8_fault, in_X8⟩, by decide +kernel, by decide⟩, im_yX8_fault, se_yX8_fault⟩
theorem mz_X8_close : Mv yX8_close cX8_close 6 (some .int) 2 := ⟨⟨⟨co_yX8_close, in_X8⟩, by decide +kernel, by decide⟩, im_yX8_close, se_yX8_close⟩
theorem mz_X8_allowed : Mv yX8_allowed cX8_allowed 1 (some .int) 0 := ⟨⟨⟨co_yX8_allowed, in_X8⟩, by decide +kernel, by decide⟩, im_yX8_allowed, se_yX8_allowed⟩
theorem mz_X8_followsNow : Mv yX8_followsNow cX8_followsNow 1 (some .int) 0 := ⟨⟨⟨co_yX8_followsNow, in_X8⟩, by decide +kernel, by decide⟩, im_yX8_followsNow, se_yX8_followsNow⟩
theorem mz_X8_quarrels : Ms yX8_quarrels cX8_quarrels 3 (some .int) 1 := ⟨⟨⟨co_yX8_quarrels, in_X8⟩, by decide +kernel, by decide⟩, sm_yX8_quarrels⟩
theorem mz_X8_told : Mv yX8_told cX8_told 2 (some .int) 1 := ⟨⟨⟨co_yX8_told, in_X8⟩, by decide +kernel, by decide⟩, im_yX8_told, se_yX8_told⟩
theorem mz_X8_rule : Mv yX8_rule cX8_rule 3 (some .int) 2 := ⟨⟨⟨co_yX8_rule, in_X8⟩, by decide +kernel, by decide⟩, im_yX8_rule, se_yX8_rule⟩
theorem mz_X8_remember : Mv yX8_remember cX8_remember 2 none 0 := ⟨⟨⟨co_yX8_remember, in_X8⟩, by decide +kernel, by decide⟩, im_yX8_remember, se_yX8_remember⟩
theorem mz_X8_with : Ms yX8_with cX8_with 3 (some .int) 3 := ⟨⟨⟨co_yX8_with, in_X8⟩, by decide +kernel, by decide⟩, sm_yX8_with⟩
theorem mz_X8_see : Mv yX8_see cX8_see 4 (some .int) 2 := ⟨⟨⟨co_yX8_see, in_X8⟩, by decide +kernel, by decide⟩, im_yX8_see, se_yX8_see⟩
theorem mz_X8_forbid : Mv yX8_forbid cX8_forbid 4 (some .int) 2 := ⟨⟨⟨co_yX8_forbid, in_X8⟩, by decide +kernel, by decide⟩, im_yX8_forbid, se_yX8_forbid⟩
theorem mz_X8_debateNow : Mv yX8_debateNow cX8_debateNow 1 none 0 := ⟨⟨⟨co_yX8_debateNow, in_X8⟩, by decide +kernel, by decide⟩, im_yX8_debateNow, se_yX8_debateNow⟩
theorem mz_X8_debate : Mv yX8_debate cX8_debate 1 (some .int) 0 := ⟨⟨⟨co_yX8_debate, in_X8⟩, by decide +kernel, by decide⟩, im_yX8_debate, se_yX8_debate⟩
theorem mz_X8_drop : Mv yX8_drop cX8_drop 2 (some .int) 0 := ⟨⟨⟨co_yX8_drop, in_X8⟩, by decide +kernel, by decide⟩, im_yX8_drop, se_yX8_drop⟩
theorem mz_X8_draw : Mv yX8_draw cX8_draw 2 (some .int) 1 := ⟨⟨⟨co_yX8_draw, in_X8⟩, by decide +kernel, by decide⟩, im_yX8_draw, se_yX8_draw⟩
theorem mz_X8_drift : Mv yX8_drift cX8_drift 4 (some .int) 1 := ⟨⟨⟨co_yX8_drift, in_X8⟩, by decide +kernel, by decide⟩, im_yX8_drift, se_yX8_drift⟩
theorem mz_X8_undo : Mv yX8_undo cX8_undo 2 (some .int) 0 := ⟨⟨⟨co_yX8_undo, in_X8⟩, by decide +kernel, by decide⟩, im_yX8_undo, se_yX8_undo⟩
theorem mz_X8_follows : Mv yX8_follows cX8_follows 2 (some .int) 1 := ⟨⟨⟨co_yX8_follows, in_X8⟩, by decide +kernel, by decide⟩, im_yX8_follows, se_yX8_follows⟩
theorem mz_X8_proof : Mv yX8_proof cX8_proof 6 (some .int) 2 := ⟨⟨⟨co_yX8_proof, in_X8⟩, by decide +kernel, by decide⟩, im_yX8_proof, se_yX8_proof⟩
theorem mz_X8_costOf : Mv yX8_costOf cX8_costOf 4 (some .int) 1 := ⟨⟨⟨co_yX8_costOf, in_X8⟩, by decide +kernel, by decide⟩, im_yX8_costOf, se_yX8_costOf⟩
theorem mz_X8_giveUp : Mv yX8_giveUp cX8_giveUp 6 (some .int) 1 := ⟨⟨⟨co_yX8_giveUp, in_X8⟩, by decide +kernel, by decide⟩, im_yX8_giveUp, se_yX8_giveUp⟩
theorem mz_X8_doWords : Mv yX8_doWords cX8_doWords 4 (some .boolean) 2 := ⟨⟨⟨co_yX8_doWords, in_X8⟩, by decide +kernel, by decide⟩, im_yX8_doWords, se_yX8_doWords⟩
theorem mz_X8_words : Mv yX8_words cX8_words 7 (some .int) 1 := ⟨⟨⟨co_yX8_words, in_X8⟩, by decide +kernel, by decide⟩, im_yX8_words, se_yX8_words⟩
theorem mz_X8_step : Mv yX8_step cX8_step 5 (some .int) 1 := ⟨⟨⟨co_yX8_step, in_X8⟩, by decide +kernel, by decide⟩, im_yX8_step, se_yX8_step⟩
theorem mz_X8_barred : Mv yX8_barred cX8_barred 5 (some .int) 1 := ⟨⟨⟨co_yX8_barred, in_X8⟩, by decide +kernel, by decide⟩, im_yX8_barred, se_yX8_barred⟩
theorem mz_X8_never : Mv yX8_never cX8_never 3 (some .int) 0 := ⟨⟨⟨co_yX8_never, in_X8⟩, by decide +kernel, by decide⟩, im_yX8_never, se_yX8_never⟩
theorem mz_X8_round : Mv yX8_round cX8_round 4 (some .int) 0 := ⟨⟨⟨co_yX8_round, in_X8⟩, by decide +kernel, by decide⟩, im_yX8_round, se_yX8_round⟩
theorem mz_X8_vote : Mv yX8_vote cX8_vote 7 (some .int) 2 := ⟨⟨⟨co_yX8_vote, in_X8⟩, by decide +kernel, by decide⟩, im_yX8_vote, se_yX8_vote⟩
theorem mz_X8_ask : Mv yX8_ask cX8_ask 4 (some .int) 3 := ⟨⟨⟨co_yX8_ask, in_X8⟩, by decide +kernel, by decide⟩, im_yX8_ask, se_yX8_ask⟩
theorem mz_X8_isBelieved : Mv yX8_isBelieved cX8_isBelieved 4 (some .boolean) 1 := ⟨⟨⟨co_yX8_isBelieved, in_X8⟩, by decide +kernel, by decide⟩, im_yX8_isBelieved, se_yX8_isBelieved⟩
theorem mz_X8_believed : Mv yX8_believed cX8_believed 6 (some .int) 1 := ⟨⟨⟨co_yX8_believed, in_X8⟩, by decide +kernel, by decide⟩, im_yX8_believed, se_yX8_believed⟩
theorem mz_X8_askNext : Mv yX8_askNext cX8_askNext 6 (some .int) 0 := ⟨⟨⟨co_yX8_askNext, in_X8⟩, by decide +kernel, by decide⟩, im_yX8_askNext, se_yX8_askNext⟩
theorem mz_X8_write : Mv yX8_write cX8_write 3 (some .int) 2 := ⟨⟨⟨co_yX8_write, in_X8⟩, by decide +kernel, by decide⟩, im_yX8_write, se_yX8_write⟩
theorem mz_X8_tear : Mv yX8_tear cX8_tear 2 (some .int) 0 := ⟨⟨⟨co_yX8_tear, in_X8⟩, by decide +kernel, by decide⟩, im_yX8_tear, se_yX8_tear⟩
theorem mz_X8_judge : Mv yX8_judge cX8_judge 3 (some .int) 0 := ⟨⟨⟨co_yX8_judge, in_X8⟩, by decide +kernel, by decide⟩, im_yX8_judge, se_yX8_judge⟩
theorem mz_X8_seed : Mv yX8_seed cX8_seed 3 (some .int) 1 := ⟨⟨⟨co_yX8_seed, in_X8⟩, by decide +kernel, by decide⟩, im_yX8_seed, se_yX8_seed⟩
theorem mz_X8_keep : Mv yX8_keep cX8_keep 3 (some .int) 1 := ⟨⟨⟨co_yX8_keep, in_X8⟩, by decide +kernel, by decide⟩, im_yX8_keep, se_yX8_keep⟩
theorem mz_X8_goBack : Mv yX8_goBack cX8_goBack 3 (some .int) 1 := ⟨⟨⟨co_yX8_goBack, in_X8⟩, by decide +kernel, by decide⟩, im_yX8_goBack, se_yX8_goBack⟩
end
section
/-! pure rows: numbers and bits -/
theorem n_lt {a b : Nat} (h : ¬ (nI b ≤ nI a)) (ha : a < 2147483648) (hb : b < 2147483648) : a < b := by
  have := mt (nI_leI (a := b) (b := a) hb ha).mpr h
  omega
theorem n_ge {a b : Nat} (h : nI b ≤ nI a) (ha : a < 2147483648) (hb : b < 2147483648) : b ≤ a := (nI_leI (a := b) (b := a) hb ha).mp h
theorem n_lt' {a b : Nat} (h : nI a < nI b) (ha : a < 2147483648) (hb : b < 2147483648) : a < b := (nI_ltI ha hb).mp h
theorem n_nlt {a b : Nat} (h : ¬ nI a < nI b) (ha : a < 2147483648) (hb : b < 2147483648) : b ≤ a := by
  have := mt (nI_ltI ha hb).mpr h
  omega
theorem n_eq {a b : Nat} (h : nI a = nI b) (ha : a < 2147483648) (hb : b < 2147483648) : a = b := (nI_eq ha hb).mp h
theorem n_in {k N : Nat} (h : k < N) (hN : N < 2147483648) : vp_in (nI k) N := vp_in_nI h hN
theorem nf_t {x : Bool} (h : ¬ x = false) : x = true := by
  cases x
  · exact absurd rfl h
  · rfl
def bt (x : Int32) (i : Nat) : Bool := x.toBitVec.getLsbD i
theorem b_ext {x y : Int32} (h : ∀ i, i < 32 → bt x i = bt y i) : x = y := Int32.toBitVec_inj.mp (BitVec.eq_of_getLsbD_eq (fun i hi => h i hi))
theorem b_or (x y : Int32) (i : Nat) : bt (x ||| y) i = (bt x i || bt y i) := by unfold bt; rw [Int32.toBitVec_or, BitVec.getLsbD_or]
theorem b_and (x y : Int32) (i : Nat) : bt (x &&& y) i = (bt x i && bt y i) := by unfold bt; rw [Int32.toBitVec_and, BitVec.getLsbD_and]
theorem b_xor (x y : Int32) (i : Nat) : bt (x ^^^ y) i = (bt x i ^^ bt y i) := by unfold bt; rw [Int32.toBitVec_xor, BitVec.getLsbD_xor]
theorem b_big {x : Int32} {i : Nat} (h : 32 ≤ i) : bt x i = false := BitVec.getLsbD_of_ge _ _ h
theorem b_m1 : ∀ i, i < 32 → bt (-1) i = true := by decide +kernel
theorem b_0 (i : Nat) : bt 0 i = false := BitVec.getLsbD_zero
theorem b_1 : ∀ i, i < 32 → bt 1 i = decide (i = 0) := by decide +kernel
theorem s_l : ∀ n, n < 32 → ((nI n &&& 31).toBitVec.smod 32).toNat = n := by decide +kernel
theorem b_shl (n : Nat) (hn : n < 32) (x : Int32) {i : Nat} (hi : i < 32) : bt (x <<< (nI n &&& 31)) i = (decide (n ≤ i) && bt x (i - n)) := by
  unfold bt
  rw [Int32.toBitVec_shiftLeft]
  show (x.toBitVec <<< ((nI n &&& 31).toBitVec.smod 32).toNat).getLsbD i = _
  rw [s_l n hn, BitVec.getLsbD_shiftLeft]
  rcases Nat.lt_or_ge i n with h | h
  · simp [h, Nat.not_le.mpr h]
  · simp [hi, h, Nat.not_lt.mpr h]
theorem b_sshr (n : Nat) (hn : n < 32) (x : Int32) {i : Nat} (hi : i < 32) : bt (x >>> (nI n &&& 31)) i = if n + i < 32 then bt x (n + i) else bt x 31 := by
  unfold bt
  rw [Int32.toBitVec_shiftRight]
  show (x.toBitVec.sshiftRight ((nI n &&& 31).toBitVec.smod 32).toNat).getLsbD i = _
  rw [s_l n hn, BitVec.getLsbD_sshiftRight, BitVec.msb_eq_getLsbD_last]
  simp [hi]
/-- bit k of x as a number -/
def bitI (x k : Int32) : Int32 := (x >>> (k &&& 31)) &&& 1
def hasB (x k : Int32) : Bool := decide (bitI x k = 1)
theorem bitI_bt {x : Int32} {n : Nat} (hn : n < 32) : bitI x (nI n) = bI (bt x n) := by
  apply b_ext
  intro i hi
  unfold bitI
  rw [b_and, b_sshr n hn x hi, b_1 i hi]
  have hz : ∀ b : Bool, bt (bI b) i = (b && decide (i = 0)) := by
    intro b
    cases b
    · show bt 0 i = _
      rw [b_0]; rfl
    · show bt 1 i = _
      rw [b_1 i hi]; rfl
  rw [hz]
  by_cases h0 : i = 0
  · subst h0
    rw [Nat.add_zero, if_pos hn]
  · simp [h0]
theorem bI_1 (b : Bool) : (bI b = 1) ↔ b = true := by cases b <;> decide
theorem bI_0 (b : Bool) : (bI b = 0) ↔ b = false := by cases b <;> decide
theorem bI_inj {a b : Bool} (h : bI a = bI b) : a = b := by cases a <;> cases b <;> first | rfl | exact absurd h (by decide)
theorem hasB_bt {x : Int32} {n : Nat} (hn : n < 32) : hasB x (nI n) = bt x n := by
  unfold hasB
  rw [bitI_bt hn]
  cases bt x n <;> decide
/-- the word of one bit -/
def one (k : Int32) : Int32 := 1 <<< (k &&& 31)
theorem bt_one {n i : Nat} (hn : n < 32) (hi : i < 32) : bt (one (nI n)) i = decide (i = n) := by
  unfold one
  rw [b_shl n hn 1 hi, b_1 _ (by omega)]
  by_cases h : n ≤ i
  · simp [h]
    constructor <;> intro h2 <;> omega
  · simp [h]
    omega
/-- x is a part of y -/
def sub (x y : Int32) : Prop := x &&& (y ^^^ (-1)) = 0
theorem sub_iff {x y : Int32} : sub x y ↔ ∀ i, i < 32 → bt x i = true → bt y i = true := by
  constructor
  · intro h i hi hx
    have h1 : bt (x &&& (y ^^^ (-1))) i = false := by rw [show x &&& (y ^^^ (-1)) = 0 from h]; exact b_0 i
    rw [b_and, b_xor, b_m1 i hi, hx] at h1
    cases hb : bt y i
    · rw [hb] at h1; cases h1
    · rfl
  · intro h
    apply b_ext
    intro i hi
    rw [b_and, b_xor, b_m1 i hi, b_0]
    cases hx : bt x i
    · rfl
    · rw [h i hi hx]; rfl
theorem sub_refl (x : Int32) : sub x x := sub_iff.mpr (fun _ _ h => h)
theorem sub_trans {x y z : Int32} (h1 : sub x y) (h2 : sub y z) : sub x z := sub_iff.mpr (fun i hi h => sub_iff.mp h2 i hi (sub_iff.mp h1 i hi h))
theorem sub_anti {x y : Int32} (h1 : sub x y) (h2 : sub y x) : x = y := b_ext (fun i hi => by
  cases hx : bt x i
  · cases hy : bt y i
    · rfl
    · rw [sub_iff.mp h2 i hi hy] at hx; cases hx
  · rw [sub_iff.mp h1 i hi hx])
theorem sub_or_left (x y : Int32) : sub x (x ||| y) := sub_iff.mpr (fun i _ h => by rw [b_or, h]; rfl)
theorem sub_or_right (x y : Int32) : sub y (x ||| y) := sub_iff.mpr (fun i _ h => by rw [b_or, h, Bool.or_true])
theorem or_sub {x y z : Int32} (h1 : sub x z) (h2 : sub y z) : sub (x ||| y) z := sub_iff.mpr (fun i hi h => by
  rw [b_or] at h
  rcases Bool.or_eq_true _ _ |>.mp h with h | h
  · exact sub_iff.mp h1 i hi h
  · exact sub_iff.mp h2 i hi h)
theorem sub_one {n : Nat} (hn : n < 32) {y : Int32} : sub (one (nI n)) y ↔ bt y n = true := by
  rw [sub_iff]
  constructor
  · intro h
    exact h n hn (by rw [bt_one hn hn]; simp)
  · intro h i hi hb
    rw [bt_one hn hi] at hb
    have : i = n := of_decide_eq_true hb
    rw [this]; exact h
/-- the bits below n, counted -/
def cntI (x : Int32) : Nat → Int32
  | 0 => 0
  | n + 1 => cntI x n + bitI x (nI n)
theorem l32_le {a b : Int32} : a.toInt64 ≤ b.toInt64 ↔ a ≤ b := by
  rw [Int64.le_iff_toInt_le, Int32.le_iff_toInt_le]
  simp
theorem lg_lt (x y : Int64) : lg_cmp x y < 0 ↔ ¬ y ≤ x := by
  rw [← lg_cmp_ge, Int32.lt_iff_toInt_lt, Int32.le_iff_toInt_le]
  omega
theorem lg_gt (x y : Int64) : 0 < lg_cmp x y ↔ ¬ x ≤ y := by
  unfold lg_cmp
  by_cases h1 : x > y
  · rw [if_pos h1]
    constructor
    · intro _ h2
      rw [gt_iff_lt, Int64.lt_iff_toInt_lt] at h1
      rw [Int64.le_iff_toInt_le] at h2
      omega
    · intro _; decide
  · rw [if_neg h1]
    have h3 : x ≤ y := by
      rw [gt_iff_lt, Int64.lt_iff_toInt_lt] at h1
      rw [Int64.le_iff_toInt_le]
      omega
    by_cases h2 : x = y
    · rw [if_pos h2]
      exact ⟨fun h => absurd h (by decide), fun h => absurd h3 h⟩
    · rw [if_neg h2]
      exact ⟨fun h => absurd h (by decide), fun h => absurd h3 h⟩
def inL (v a b : Int64) : Bool := decide (a ≤ v ∧ v ≤ b)
/-- a word lies between two -/
def inI (v a b : Int32) : Bool := decide (a ≤ v ∧ v ≤ b)
theorem inL_32 (v a b : Int32) : inL v.toInt64 a.toInt64 b.toInt64 = inI v a b := by
  unfold inL inI
  simp only [l32_le]

set_option maxHeartbeats 4000000 in
set_option maxRecDepth 20000 in
theorem ok_X8_in (v a b : Int64) (S : Mem) : Ok yX8_in cX8_in 6 (some .boolean) 0 0 0 [.long v, .long a, .long b] S (RI (bI (inL v a b)) S) := by
  refine Ok.of (by decide) (Nat.le_of_ble_eq_true rfl) rfl (fun κ C hx => ?_)
  have C : Cx RX8 cX8_in 6 (some .boolean) 0 false _ κ := C
  refine g_lload_0 C dX8_in_0 rfl ?_
  refine g_lload_2 C dX8_in_1 rfl ?_
  refine g_lcmp C dX8_in_2 rfl ?_
  refine g_if_lt (tgt := 17) C dX8_in_3 rfl (by decide) (fun h3 => ?_) (fun h3 => ?_)
  · skip
    refine g_iconst (v := 0) C dX8_in_17 rfl (by decide) ?_
    exact g_zret C rfl dX8_in_18 (by first | exact Or.inl rfl | exact Or.inr rfl | exact bI_01 _) ⟨by rw [show inL v a b = false from decide_eq_false (fun h => (lg_lt _ _).mp h3 h.1)]; rfl, rfl⟩
  · skip
    refine g_lload_0 C dX8_in_6 rfl ?_
    refine g_lload_4 C dX8_in_7 rfl ?_
    refine g_lcmp C dX8_in_9 rfl ?_
    refine g_if_gt (tgt := 17) C dX8_in_10 rfl (by decide) (fun h10 => ?_) (fun h10 => ?_)
    · skip
      refine g_iconst (v := 0) C dX8_in_17 rfl (by decide) ?_
      exact g_zret C rfl dX8_in_18 (by first | exact Or.inl rfl | exact Or.inr rfl | exact bI_01 _) ⟨by rw [show inL v a b = false from decide_eq_false (fun h => (lg_gt _ _).mp h10 h.2)]; rfl, rfl⟩
    · skip
      refine g_iconst (v := 1) C dX8_in_13 rfl (by decide) ?_
      refine g_goto (tgt := 18) C dX8_in_14 (by decide) ?_
      exact g_zret C rfl dX8_in_18 (by first | exact Or.inl rfl | exact Or.inr rfl | exact bI_01 _) ⟨by rw [show inL v a b = true from decide_eq_true ⟨Classical.not_not.mp (fun h => h3 ((lg_lt _ _).mpr h)), Classical.not_not.mp (fun h => h10 ((lg_gt _ _).mpr h))⟩]; rfl, rfl⟩

set_option maxHeartbeats 4000000 in
set_option maxRecDepth 20000 in
theorem ok_X8_has (x k : Int32) (S : Mem) : Ok yX8_has cX8_has 2 (some .boolean) 0 0 0 [.int x, .int k] S (RI (bI (hasB x k)) S) := by
  refine Ok.of (by decide) (Nat.le_of_ble_eq_true rfl) rfl (fun κ C hx => ?_)
  have C : Cx RX8 cX8_has 2 (some .boolean) 0 false _ κ := C
  refine g_iload_0 C dX8_has_0 rfl ?_
  refine g_iload_1 C dX8_has_1 rfl ?_
  refine g_ishr C dX8_has_2 rfl ?_
  refine g_iconst (v := 1) C dX8_has_3 rfl (by decide) ?_
  refine g_iand C dX8_has_4 rfl ?_
  refine g_iconst (v := 1) C dX8_has_5 rfl (by decide) ?_
  refine g_icmp_ne (tgt := 13) C dX8_has_6 rfl (by decide) (fun h6 => ?_) (fun h6 => ?_)
  · skip
    refine g_iconst (v := 0) C dX8_has_13 rfl (by decide) ?_
    exact g_zret C rfl dX8_has_14 (by first | exact Or.inl rfl | exact Or.inr rfl | exact bI_01 _) ⟨by rw [show hasB x k = false from decide_eq_false h6]; rfl, rfl⟩
  · skip
    refine g_iconst (v := 1) C dX8_has_9 rfl (by decide) ?_
    refine g_goto (tgt := 14) C dX8_has_10 (by decide) ?_
    exact g_zret C rfl dX8_has_14 (by first | exact Or.inl rfl | exact Or.inr rfl | exact bI_01 _) ⟨by rw [show hasB x k = true from decide_eq_true h6]; rfl, rfl⟩

set_option maxHeartbeats 4000000 in
set_option maxRecDepth 20000 in
theorem lp_X8_bits {κ : Kx} {Φ : Option Value → Mem → Prop} (C : Cx RX8 cX8_bits 3 (some .int) 0 false Φ κ) (S : Mem) (x : Int32) (hΦ : Φ (some (.int (cntI x 16))) S) : ∀ (n k : Nat), k ≤ 16 → 17 ≤ k + n → G κ 0 0 S 4 [.int x, .int (cntI x k), .int (nI k)] [] := by
  intro n
  induction n with
  | zero => intro k h1 h2; exact absurd h2 (by omega)
  | succ n ih =>
    intro k h1 h2
    refine g_iload_2 C dX8_bits_4 rfl ?_
    refine g_bipush (v := 16) C dX8_bits_5 rfl (by decide) ?_
    refine g_icmp_ge (tgt := 24) C dX8_bits_7 rfl (by decide) (fun h7 => ?_) (fun h7 => ?_)
    · skip
      have hk := n_ge (b := 16) h7 (by omega) (by omega)
      have hk : k = 16 := by omega
      subst hk
      refine g_iload_1 C dX8_bits_24 rfl ?_
      exact g_iret C rfl dX8_bits_25 hΦ
    · skip
      refine g_iload_1 C dX8_bits_10 rfl ?_
      refine g_iload_0 C dX8_bits_11 rfl ?_
      refine g_iload_2 C dX8_bits_12 rfl ?_
      refine g_ishr C dX8_bits_13 rfl ?_
      refine g_iconst (v := 1) C dX8_bits_14 rfl (by decide) ?_
      refine g_iand C dX8_bits_15 rfl ?_
      refine g_iadd C dX8_bits_16 rfl ?_
      refine g_istore_1 C rfl dX8_bits_17 rfl ?_
      refine g_iinc_2 (z := 1) C rfl dX8_bits_18 rfl (by decide) ?_
      refine g_goto (tgt := 4) C dX8_bits_21 (by decide) ?_
      rw [nI_1]
      have hk := n_lt (b := 16) h7 (by omega) (by omega)
      exact ih (k + 1) (by omega) (by omega)

set_option maxHeartbeats 4000000 in
set_option maxRecDepth 20000 in
theorem ok_X8_bits (x : Int32) (S : Mem) : Ok yX8_bits cX8_bits 3 (some .int) 0 0 0 [.int x] S (RI (cntI x 16) S) := by
  refine Ok.of (by decide) (Nat.le_of_ble_eq_true rfl) rfl (fun κ C hx => ?_)
  have C : Cx RX8 cX8_bits 3 (some .int) 0 false _ κ := C
  refine g_iconst (v := 0) C dX8_bits_0 rfl (by decide) ?_
  refine g_istore_1 C rfl dX8_bits_1 rfl ?_
  refine g_iconst (v := 0) C dX8_bits_2 rfl (by decide) ?_
  refine g_istore_2 C rfl dX8_bits_3 rfl ?_
  exact lp_X8_bits C S x ⟨rfl, rfl⟩ 17 0 (by omega) (by omega)

def sayB (th s : Int32) : Bool := inI s 0 (2 * th - 1)
def setB (th s : Int32) : Bool := inI s 0 (one (2 * th) - 1)
def rulB (nr s : Int32) : Bool := inI s 0 (nr - 1)
set_option maxHeartbeats 4000000 in
set_option maxRecDepth 20000 in
theorem ok_X8_isSaying (s : Int32) (S : Mem) : Ok yX8_isSaying cX8_isSaying 2 (some .boolean) 1 0 0 [.ref 25, .int s] S (RI (bI (sayB (mI S 25 0) s)) S) := by
  refine Ok.of (by decide) (Nat.le_of_ble_eq_true rfl) rfl (fun κ C hx => ?_)
  have C : Cx RX8 cX8_isSaying 2 (some .boolean) 1 false _ κ := C
  refine g_iload_1 C dX8_isSaying_0 rfl ?_
  refine g_i2l C dX8_isSaying_1 rfl ?_
  refine g_lconst (v := 0) C dX8_isSaying_2 rfl (by decide) ?_
  refine g_iconst (v := 2) C dX8_isSaying_3 rfl (by decide) ?_
  refine g_aload_0 C dX8_isSaying_4 rfl ?_
  refine g_geti C 0 dX8_isSaying_5 rfl rfl rfl fl_X8_70 ?_
  refine g_imul C dX8_isSaying_8 rfl ?_
  refine g_iconst (v := 1) C dX8_isSaying_9 rfl (by decide) ?_
  refine g_isub C dX8_isSaying_10 rfl ?_
  refine g_i2l C dX8_isSaying_11 rfl ?_
  refine g_cS3i C dX8_isSaying_12 rfl ml_X8_73 mz_X8_in (ok_X8_in _ _ _ _) (by decide) rfl rfl (Nat.le_of_ble_eq_true rfl) (fun hn12 => ?_)
  exact g_zret C rfl dX8_isSaying_15 (by first | exact Or.inl rfl | exact Or.inr rfl | exact bI_01 _) ⟨congrArg (fun b => some (Value.int (bI b))) (inL_32 _ 0 _), rfl⟩

set_option maxHeartbeats 4000000 in
set_option maxRecDepth 20000 in
theorem ok_X8_isSet (s : Int32) (S : Mem) : Ok yX8_isSet cX8_isSet 2 (some .boolean) 1 0 0 [.ref 25, .int s] S (RI (bI (setB (mI S 25 0) s)) S) := by
  refine Ok.of (by decide) (Nat.le_of_ble_eq_true rfl) rfl (fun κ C hx => ?_)
  have C : Cx RX8 cX8_isSet 2 (some .boolean) 1 false _ κ := C
  refine g_iload_1 C dX8_isSet_0 rfl ?_
  refine g_i2l C dX8_isSet_1 rfl ?_
  refine g_lconst (v := 0) C dX8_isSet_2 rfl (by decide) ?_
  refine g_iconst (v := 1) C dX8_isSet_3 rfl (by decide) ?_
  refine g_iconst (v := 2) C dX8_isSet_4 rfl (by decide) ?_
  refine g_aload_0 C dX8_isSet_5 rfl ?_
  refine g_geti C 0 dX8_isSet_6 rfl rfl rfl fl_X8_70 ?_
  refine g_imul C dX8_isSet_9 rfl ?_
  refine g_ishl C dX8_isSet_10 rfl ?_
  refine g_iconst (v := 1) C dX8_isSet_11 rfl (by decide) ?_
  refine g_isub C dX8_isSet_12 rfl ?_
  refine g_i2l C dX8_isSet_13 rfl ?_
  refine g_cS3i C dX8_isSet_14 rfl ml_X8_73 mz_X8_in (ok_X8_in _ _ _ _) (by decide) rfl rfl (Nat.le_of_ble_eq_true rfl) (fun hn14 => ?_)
  exact g_zret C rfl dX8_isSet_17 (by first | exact Or.inl rfl | exact Or.inr rfl | exact bI_01 _) ⟨congrArg (fun b => some (Value.int (bI b))) (inL_32 _ 0 _), rfl⟩

set_option maxHeartbeats 4000000 in
set_option maxRecDepth 20000 in
theorem ok_X8_isRule (s : Int32) (S : Mem) : Ok yX8_isRule cX8_isRule 2 (some .boolean) 1 0 0 [.ref 25, .int s] S (RI (bI (rulB (mI S 25 1) s)) S) := by
  refine Ok.of (by decide) (Nat.le_of_ble_eq_true rfl) rfl (fun κ C hx => ?_)
  have C : Cx RX8 cX8_isRule 2 (some .boolean) 1 false _ κ := C
  refine g_iload_1 C dX8_isRule_0 rfl ?_
  refine g_i2l C dX8_isRule_1 rfl ?_
  refine g_lconst (v := 0) C dX8_isRule_2 rfl (by decide) ?_
  refine g_aload_0 C dX8_isRule_3 rfl ?_
  refine g_geti C 1 dX8_isRule_4 rfl rfl rfl fl_X8_77 ?_
  refine g_iconst (v := 1) C dX8_isRule_7 rfl (by decide) ?_
  refine g_isub C dX8_isRule_8 rfl ?_
  refine g_i2l C dX8_isRule_9 rfl ?_
  refine g_cS3i C dX8_isRule_10 rfl ml_X8_73 mz_X8_in (ok_X8_in _ _ _ _) (by decide) rfl rfl (Nat.le_of_ble_eq_true rfl) (fun hn10 => ?_)
  exact g_zret C rfl dX8_isRule_13 (by first | exact Or.inl rfl | exact Or.inr rfl | exact bI_01 _) ⟨congrArg (fun b => some (Value.int (bI b))) (inL_32 _ 0 _), rfl⟩

def denI (s : Int32) : Int32 := if s - s / 2 * 2 = 0 then s + 1 else s - 1
set_option maxHeartbeats 4000000 in
set_option maxRecDepth 20000 in
theorem ok_X8_denial (s : Int32) (S : Mem) : Ok yX8_denial cX8_denial 1 (some .int) 0 0 0 [.int s] S (RI (denI s) S) := by
  refine Ok.of (by decide) (Nat.le_of_ble_eq_true rfl) rfl (fun κ C hx => ?_)
  have C : Cx RX8 cX8_denial 1 (some .int) 0 false _ κ := C
  refine g_iload_0 C dX8_denial_0 rfl ?_
  refine g_iconst (v := 2) C dX8_denial_1 rfl (by decide) ?_
  refine g_irem C dX8_denial_2 rfl (by decide) ?_
  refine g_if_ne (tgt := 12) C dX8_denial_3 rfl (by decide) (fun h3 => ?_) (fun h3 => ?_)
  · skip
    refine g_iload_0 C dX8_denial_12 rfl ?_
    refine g_iconst (v := 1) C dX8_denial_13 rfl (by decide) ?_
    refine g_isub C dX8_denial_14 rfl ?_
    exact g_iret C rfl dX8_denial_15 ⟨by rw [show denI s = _ from if_neg h3], rfl⟩
  · skip
    refine g_iload_0 C dX8_denial_6 rfl ?_
    refine g_iconst (v := 1) C dX8_denial_7 rfl (by decide) ?_
    refine g_iadd C dX8_denial_8 rfl ?_
    refine g_goto (tgt := 15) C dX8_denial_9 (by decide) ?_
    exact g_iret C rfl dX8_denial_15 ⟨by rw [show denI s = _ from if_pos h3], rfl⟩

set_option maxHeartbeats 4000000 in
set_option maxRecDepth 20000 in
theorem ok_X8_fails (n a : Int32) (S : Mem) : Ok yX8_fails cX8_fails 3 (some .int) 0 0 0 [.ref 25, .int n, .int a] S (RI n (sI S 25 9 a)) := by
  refine Ok.of (by decide) (Nat.le_of_ble_eq_true rfl) rfl (fun κ C hx => ?_)
  have C : Cx RX8 cX8_fails 3 (some .int) 0 false _ κ := C
  refine g_aload_0 C dX8_fails_0 rfl ?_
  refine g_iload_2 C dX8_fails_1 rfl ?_
  refine g_puti C 9 dX8_fails_2 rfl rfl rfl (Or.inl rfl) fl_X8_25 ?_
  refine g_iload_1 C dX8_fails_5 rfl ?_
  exact g_iret C rfl dX8_fails_6 ⟨rfl, rfl⟩

set_option maxHeartbeats 4000000 in
set_option maxRecDepth 20000 in
theorem ok_X8_fault (S : Mem) : Ok yX8_fault cX8_fault 1 (some .int) 0 0 0 [.ref 25] S (RI (mI S 25 9) S) := by
  refine Ok.of (by decide) (Nat.le_of_ble_eq_true rfl) rfl (fun κ C hx => ?_)
  have C : Cx RX8 cX8_fault 1 (some .int) 0 false _ κ := C
  refine g_aload_0 C dX8_fault_0 rfl ?_
  refine g_geti C 9 dX8_fault_1 rfl rfl rfl fl_X8_25 ?_
  exact g_iret C rfl dX8_fault_4 ⟨rfl, rfl⟩

def withI (x k b : Int32) : Int32 := if b = 0 then x &&& (one k ^^^ (-1)) else x ||| one k
set_option maxHeartbeats 4000000 in
set_option maxRecDepth 20000 in
theorem ok_X8_with (x k b : Int32) (S : Mem) : Ok yX8_with cX8_with 3 (some .int) 0 0 0 [.int x, .int k, .int b] S (RI (withI x k b) S) := by
  refine Ok.of (by decide) (Nat.le_of_ble_eq_true rfl) rfl (fun κ C hx => ?_)
  have C : Cx RX8 cX8_with 3 (some .int) 0 false _ κ := C
  refine g_iload_2 C dX8_with_0 rfl ?_
  refine g_if_eq (tgt := 12) C dX8_with_1 rfl (by decide) (fun h1 => ?_) (fun h1 => ?_)
  · skip
    refine g_iload_0 C dX8_with_12 rfl ?_
    refine g_iconst (v := 1) C dX8_with_13 rfl (by decide) ?_
    refine g_iload_1 C dX8_with_14 rfl ?_
    refine g_ishl C dX8_with_15 rfl ?_
    refine g_iconst (v := -1) C dX8_with_16 rfl (by decide) ?_
    refine g_ixor C dX8_with_17 rfl ?_
    refine g_iand C dX8_with_18 rfl ?_
    exact g_iret C rfl dX8_with_19 ⟨by rw [show withI x k b = _ from if_pos h1]; rfl, rfl⟩
  · skip
    refine g_iload_0 C dX8_with_4 rfl ?_
    refine g_iconst (v := 1) C dX8_with_5 rfl (by decide) ?_
    refine g_iload_1 C dX8_with_6 rfl ?_
    refine g_ishl C dX8_with_7 rfl ?_
    refine g_ior C dX8_with_8 rfl ?_
    refine g_goto (tgt := 19) C dX8_with_9 (by decide) ?_
    exact g_iret C rfl dX8_with_19 ⟨by rw [show withI x k b = _ from if_neg h1]; rfl, rfl⟩

def alw (nr fo : Int32) : Int32 := (one nr - 1) &&& (fo ^^^ (-1))
set_option maxHeartbeats 4000000 in
set_option maxRecDepth 20000 in
theorem ok_X8_allowed (S : Mem) (hR : Rs S) : Ok yX8_allowed cX8_allowed 1 (some .int) 0 0 0 [.ref 25] S (RI (alw (mI S 25 1) (mA S 29 2)) S) := by
  refine Ok.of (by decide) (Nat.le_of_ble_eq_true rfl) rfl (fun κ C hx => ?_)
  have C : Cx RX8 cX8_allowed 1 (some .int) 0 false _ κ := C
  refine g_iconst (v := 1) C dX8_allowed_0 rfl (by decide) ?_
  refine g_aload_0 C dX8_allowed_1 rfl ?_
  refine g_geti C 1 dX8_allowed_2 rfl rfl rfl fl_X8_77 ?_
  refine g_ishl C dX8_allowed_5 rfl ?_
  refine g_iconst (v := 1) C dX8_allowed_6 rfl (by decide) ?_
  refine g_isub C dX8_allowed_7 rfl ?_
  refine g_aload_0 C dX8_allowed_8 rfl ?_
  refine g_getr C 5 dX8_allowed_9 rfl rfl rfl fl_X8_19 (hR 25 5 29 rfl) ?_
  refine g_iconst (v := 2) C dX8_allowed_12 rfl (by decide) ?_
  refine g_iald C dX8_allowed_13 rfl rfl (n_in (k := 2) (N := 4) (by decide) (by decide)) ?_
  refine g_iconst (v := -1) C dX8_allowed_14 rfl (by decide) ?_
  refine g_ixor C dX8_allowed_15 rfl ?_
  refine g_iand C dX8_allowed_16 rfl ?_
  exact g_iret C rfl dX8_allowed_17 ⟨rfl, rfl⟩
end
section
/-! what follows: the least set that holds the given one and is shut under the rules; it is one alone -/
def cls9 (nr : Nat) (cn nd : Nat → Int32) (bb x : Int32) : Prop := ∀ r, r < nr → hasB bb (nI r) = true → sub (nd r) x → sub (one (cn r)) x
def IsClo (nr : Nat) (cn nd : Nat → Int32) (bb set res : Int32) : Prop := sub set res ∧ cls9 nr cn nd bb res ∧ ∀ z, sub set z → cls9 nr cn nd bb z → sub res z
noncomputable def clo (nr : Nat) (cn nd : Nat → Int32) (bb set : Int32) : Int32 := Classical.epsilon (IsClo nr cn nd bb set)
theorem IsClo.one {nr : Nat} {cn nd : Nat → Int32} {bb set a b : Int32} (h1 : IsClo nr cn nd bb set a) (h2 : IsClo nr cn nd bb set b) : a = b := sub_anti (h1.2.2 b h2.1 h2.2.1) (h2.2.2 a h1.1 h1.2.1)
theorem clo_eq {nr : Nat} {cn nd : Nat → Int32} {bb set a : Int32} (h : IsClo nr cn nd bb set a) : clo nr cn nd bb set = a := (Classical.epsilon_spec ⟨a, h⟩ : IsClo nr cn nd bb set (Classical.epsilon (IsClo nr cn nd bb set))).one h
def mis (x : Int32) : Nat → Nat
  | 0 => 0
  | n + 1 => mis x n + (if bt x n = true then 0 else 1)
theorem mis_le {x y : Int32} (h : sub x y) : ∀ n, n ≤ 32 → mis y n ≤ mis x n
  | 0, _ => Nat.le_refl 0
  | n + 1, hn => by
    have ih := mis_le h n (by omega)
    unfold mis
    by_cases hx : bt x n = true
    · rw [if_pos hx, if_pos (sub_iff.mp h n (by omega) hx)]
      omega
    · rw [if_neg hx]
      by_cases hy : bt y n = true
      · rw [if_pos hy]; omega
      · rw [if_neg hy]; omega
theorem mis_lt {x y : Int32} (h : sub x y) {c : Nat} (h1 : bt x c = false) (h2 : bt y c = true) : ∀ n, n ≤ 32 → c < n → mis y n < mis x n
  | 0, _, hc => absurd hc (Nat.not_lt_zero c)
  | n + 1, hn, hc => by
    unfold mis
    by_cases e : c = n
    · subst e
      have ih := mis_le h c (by omega)
      rw [if_pos h2, if_neg (by rw [h1]; decide)]
      omega
    · have ih := mis_lt h h1 h2 n (by omega) (by omega)
      by_cases hx : bt x n = true
      · rw [if_pos hx, if_pos (sub_iff.mp h n (by omega) hx)]
        omega
      · rw [if_neg hx]
        by_cases hy : bt y n = true
        · rw [if_pos hy]; omega
        · rw [if_neg hy]; omega
def ms9 (x : Int32) : Nat := mis x 32
theorem ms9_lt {x : Int32} {c : Nat} (hc : c < 32) (h : hasB x (nI c) = false) : ms9 (x ||| one (nI c)) < ms9 x := by
  rw [hasB_bt hc] at h
  exact mis_lt (sub_or_left _ _) h (by rw [b_or, bt_one hc hc]; simp) 32 (Nat.le_refl 32) hc
/-- the rules that a town has: ten at most, each concludes a saying under 16 -/
def Tn (nr : Nat) (cn : Nat → Int32) : Prop := nr ≤ 10 ∧ ∀ r, r < nr → ∃ c, c < 16 ∧ cn r = nI c

set_option maxHeartbeats 4000000 in
set_option maxRecDepth 20000 in
theorem lp_X8_close_x {κ : Kx} {Φ : Option Value → Mem → Prop} (C : Cx RX8 cX8_close 6 (some .int) 1 false Φ κ) (S : Mem) (set bb all : Int32) (v5 : Value) (hΦ : Φ (some (.int all)) S) : G κ 0 0 S 5 [.ref 25, .int set, .int bb, .int all, .int 0, v5] [] := by
  skip
  refine g_iload_4 C dX8_close_5 rfl ?_
  refine g_if_eq (tgt := 86) C dX8_close_7 rfl (by decide) (fun h7 => ?_) (fun h7 => absurd rfl h7)
  refine g_iload_3 C dX8_close_86 rfl ?_
  exact g_iret C rfl dX8_close_87 hΦ

def sat9 (cn nd : Nat → Int32) (bb all : Int32) (r : Nat) : Prop := hasB bb (nI r) = true → sub (nd r) all → sub (one (cn r)) all
set_option maxHeartbeats 4000000 in
set_option maxRecDepth 20000 in
theorem lp_X8_close_i {κ : Kx} {Φ : Option Value → Mem → Prop} (C : Cx RX8 cX8_close 6 (some .int) 1 false Φ κ) (S : Mem) (hR : Rs S) (nr : Nat) (hnr : mI S 25 1 = nI nr) (hT : Tn nr (mA S 27)) (set bb : Int32) (all0 : Int32) (K : ∀ (all more : Int32) (v5 : Value), (sub set all ∧ ∀ z, sub set z → cls9 nr (mA S 27) (mA S 28) bb z → sub all z) → (more = 0 ∨ more = 1) → (more = 0 → all = all0 ∧ ∀ r, r < nr → sat9 (mA S 27) (mA S 28) bb all r) → (more = 1 → ms9 all < ms9 all0) → G κ 0 0 S 5 [.ref 25, .int set, .int bb, .int all, .int more, v5] []) :
    ∀ (n r : Nat) (all more : Int32), r ≤ nr → nr + 1 ≤ r + n → (sub set all ∧ ∀ z, sub set z → cls9 nr (mA S 27) (mA S 28) bb z → sub all z) → (more = 0 ∨ more = 1) → (more = 0 → all = all0 ∧ ∀ r', r' < r → sat9 (mA S 27) (mA S 28) bb all r') → (more = 1 → ms9 all < ms9 all0) → G κ 0 0 S 16 [.ref 25, .int set, .int bb, .int all, .int more, .int (nI r)] [] := by
  have hle10 := hT.1
  intro n
  induction n with
  | zero => intro r all more h1 h2; exact absurd h2 (by omega)
  | succ n ih =>
    intro r all more hr hn hI hmo h0 h1
    refine g_iload_5 C dX8_close_16 rfl ?_
    refine g_aload_0 C dX8_close_18 rfl ?_
    refine g_geti C 1 dX8_close_19 rfl rfl rfl fl_X8_77 ?_
    rw [hnr]
    refine g_icmp_ge (tgt := 83) C dX8_close_22 rfl (by decide) (fun h22 => ?_) (fun h22 => ?_)
    · skip
      refine g_goto (tgt := 5) C dX8_close_83 (by decide) ?_
      have hge := n_ge h22 (by omega) (by omega)
      have e : r = nr := by omega
      subst e
      exact K all more _ hI hmo h0 h1
    · skip
      refine g_iload_2 C dX8_close_25 rfl ?_
      refine g_iload_5 C dX8_close_26 rfl ?_
      refine g_cS2i C dX8_close_28 rfl ml_X8_114 mz_X8_has (ok_X8_has _ _ _) (by decide) rfl rfl (Nat.le_of_ble_eq_true rfl) (fun hn28 => ?_)
      refine g_if_eq (tgt := 77) C dX8_close_31 rfl (by decide) (fun h31 => ?_) (fun h31 => ?_)
      · skip
        refine g_iinc_5 (z := 1) C rfl dX8_close_77 rfl (by decide) ?_
        refine g_goto (tgt := 16) C dX8_close_80 (by decide) ?_
        rw [nI_1]
        have hrr : r < nr := n_lt h22 (by omega) (by omega)
        have hsat : sat9 (mA S 27) (mA S 28) bb all r := fun hb _ => absurd hb (by rw [(bI_0 _).mp h31]; decide)
        refine ih (r + 1) all more (by omega) (by omega) hI hmo (fun h => ⟨(h0 h).1, fun r' hr' => ?_⟩) h1
        rcases Nat.lt_succ_iff_lt_or_eq.mp hr' with hlt | heq
        · exact (h0 h).2 r' hlt
        · rw [heq]; exact hsat
      · skip
        refine g_iload_3 C dX8_close_34 rfl ?_
        refine g_aload_0 C dX8_close_35 rfl ?_
        refine g_getr C 3 dX8_close_36 rfl rfl rfl fl_X8_13 (hR 25 3 27 rfl) ?_
        refine g_iload_5 C dX8_close_39 rfl ?_
        refine g_iald C dX8_close_41 rfl rfl (n_in (show r < 10 by have := n_lt h22 (by omega) (by omega); omega) (by decide)) ?_
        rw [nI_clamp (show r < 2 ^ 31 by omega)]
        refine g_cS2i C dX8_close_42 rfl ml_X8_114 mz_X8_has (ok_X8_has _ _ _) (by decide) rfl rfl (Nat.le_of_ble_eq_true rfl) (fun hn42 => ?_)
        refine g_if_ne (tgt := 77) C dX8_close_45 rfl (by decide) (fun h45 => ?_) (fun h45 => ?_)
        · skip
          refine g_iinc_5 (z := 1) C rfl dX8_close_77 rfl (by decide) ?_
          refine g_goto (tgt := 16) C dX8_close_80 (by decide) ?_
          rw [nI_1]
          have hrr : r < nr := n_lt h22 (by omega) (by omega)
          have hsat : sat9 (mA S 27) (mA S 28) bb all r := fun _ _ => by obtain ⟨c, hc, e⟩ := hT.2 r hrr; rw [e] at h45 ⊢; rw [sub_one (by omega), ← hasB_bt (by omega)]; exact nf_t (fun hf => h45 ((bI_0 _).mpr hf))
          refine ih (r + 1) all more (by omega) (by omega) hI hmo (fun h => ⟨(h0 h).1, fun r' hr' => ?_⟩) h1
          rcases Nat.lt_succ_iff_lt_or_eq.mp hr' with hlt | heq
          · exact (h0 h).2 r' hlt
          · rw [heq]; exact hsat
        · skip
          refine g_aload_0 C dX8_close_48 rfl ?_
          refine g_getr C 4 dX8_close_49 rfl rfl rfl fl_X8_16 (hR 25 4 28 rfl) ?_
          refine g_iload_5 C dX8_close_52 rfl ?_
          refine g_iald C dX8_close_54 rfl rfl (n_in (show r < 10 by have := n_lt h22 (by omega) (by omega); omega) (by decide)) ?_
          rw [nI_clamp (show r < 2 ^ 31 by omega)]
          refine g_iload_3 C dX8_close_55 rfl ?_
          refine g_iconst (v := -1) C dX8_close_56 rfl (by decide) ?_
          refine g_ixor C dX8_close_57 rfl ?_
          refine g_iand C dX8_close_58 rfl ?_
          refine g_if_ne (tgt := 77) C dX8_close_59 rfl (by decide) (fun h59 => ?_) (fun h59 => ?_)
          · skip
            refine g_iinc_5 (z := 1) C rfl dX8_close_77 rfl (by decide) ?_
            refine g_goto (tgt := 16) C dX8_close_80 (by decide) ?_
            rw [nI_1]
            have hrr : r < nr := n_lt h22 (by omega) (by omega)
            have hsat : sat9 (mA S 27) (mA S 28) bb all r := fun _ hs => absurd hs h59
            refine ih (r + 1) all more (by omega) (by omega) hI hmo (fun h => ⟨(h0 h).1, fun r' hr' => ?_⟩) h1
            rcases Nat.lt_succ_iff_lt_or_eq.mp hr' with hlt | heq
            · exact (h0 h).2 r' hlt
            · rw [heq]; exact hsat
          · skip
            refine g_iload_3 C dX8_close_62 rfl ?_
            refine g_iconst (v := 1) C dX8_close_63 rfl (by decide) ?_
            refine g_aload_0 C dX8_close_64 rfl ?_
            refine g_getr C 3 dX8_close_65 rfl rfl rfl fl_X8_13 (hR 25 3 27 rfl) ?_
            refine g_iload_5 C dX8_close_68 rfl ?_
            refine g_iald C dX8_close_70 rfl rfl (n_in (show r < 10 by have := n_lt h22 (by omega) (by omega); omega) (by decide)) ?_
            rw [nI_clamp (show r < 2 ^ 31 by omega)]
            refine g_ishl C dX8_close_71 rfl ?_
            refine g_ior C dX8_close_72 rfl ?_
            refine g_istore_3 C rfl dX8_close_73 rfl ?_
            refine g_iconst (v := 1) C dX8_close_74 rfl (by decide) ?_
            refine g_istore_4 C rfl dX8_close_75 rfl ?_
            refine g_iinc_5 (z := 1) C rfl dX8_close_77 rfl (by decide) ?_
            refine g_goto (tgt := 16) C dX8_close_80 (by decide) ?_
            rw [nI_1]
            have hrr : r < nr := n_lt h22 (by omega) (by omega)
            obtain ⟨c, hc, e⟩ := hT.2 r hrr
            have hno : hasB all (nI c) = false := by rw [← e]; exact (bI_0 _).mp h45
            have hby : hasB bb (nI r) = true := nf_t (fun hf => h31 ((bI_0 _).mpr hf))
            have hle : ms9 all ≤ ms9 all0 := by
              rcases hmo with h | h
              · rw [(h0 h).1]; exact Nat.le_refl _
              · exact Nat.le_of_lt (h1 h)
            exact ih (r + 1) (all ||| one (mA S 27 r)) 1 (by omega) (by omega) ⟨sub_trans hI.1 (sub_or_left _ _), fun z h1 h2 => or_sub (hI.2 z h1 h2) (h2 r hrr hby (sub_trans h59 (hI.2 z h1 h2)))⟩ (Or.inr rfl) (fun h => absurd h (by decide)) (fun _ => Nat.lt_of_lt_of_le (by rw [e]; exact ms9_lt (by omega) hno) hle)

set_option maxHeartbeats 4000000 in
set_option maxRecDepth 20000 in
theorem lp_X8_close_o {κ : Kx} {Φ : Option Value → Mem → Prop} (C : Cx RX8 cX8_close 6 (some .int) 1 false Φ κ) (S : Mem) (hR : Rs S) (nr : Nat) (hnr : mI S 25 1 = nI nr) (hT : Tn nr (mA S 27)) (set bb : Int32) (hΦ : Φ (some (.int (clo nr (mA S 27) (mA S 28) bb set))) S) : ∀ (n : Nat) (all : Int32) (v5 : Value), ms9 all < n → (sub set all ∧ ∀ z, sub set z → cls9 nr (mA S 27) (mA S 28) bb z → sub all z) → G κ 0 0 S 5 [.ref 25, .int set, .int bb, .int all, .int 1, v5] [] := by
  intro n
  induction n with
  | zero => intro all v5 h; exact absurd h (Nat.not_lt_zero _)
  | succ n ih =>
    intro all v5 hm hI
    refine g_iload_4 C dX8_close_5 rfl ?_
    refine g_if_eq (tgt := 86) C dX8_close_7 rfl (by decide) (fun h7 => absurd h7 (by decide)) (fun h7 => ?_)
    refine g_iconst (v := 0) C dX8_close_10 rfl (by decide) ?_
    refine g_istore_4 C rfl dX8_close_11 rfl ?_
    refine g_iconst (v := 0) C dX8_close_13 rfl (by decide) ?_
    refine g_istore_5 C rfl dX8_close_14 rfl ?_
    refine lp_X8_close_i C S hR nr hnr hT set bb all (fun all' more v5 hI' hmo h0 h1 => ?_) (nr + 1) 0 all 0 (Nat.zero_le _) (by omega) hI (Or.inl rfl) (fun _ => ⟨rfl, fun r' h => absurd h (Nat.not_lt_zero _)⟩) (fun h => absurd h (by decide))
    rcases hmo with h | h
    · subst h
      have hc : IsClo nr (mA S 27) (mA S 28) bb set all' := ⟨hI'.1, fun r hr => (h0 rfl).2 r hr, hI'.2⟩
      refine lp_X8_close_x C S set bb all' v5 ?_
      rw [← clo_eq hc]
      exact hΦ
    · subst h
      exact ih all' v5 (by have := h1 rfl; omega) hI'

set_option maxHeartbeats 4000000 in
set_option maxRecDepth 20000 in
theorem ok_X8_close (set bb : Int32) (S : Mem) (hR : Rs S) (nr : Nat) (hnr : mI S 25 1 = nI nr) (hT : Tn nr (mA S 27)) : Ok yX8_close cX8_close 6 (some .int) 1 0 0 [.ref 25, .int set, .int bb] S (RI (clo nr (mA S 27) (mA S 28) bb set) S) := by
  refine Ok.of (by decide) (Nat.le_of_ble_eq_true rfl) rfl (fun κ C hx => ?_)
  have C : Cx RX8 cX8_close 6 (some .int) 1 false _ κ := C
  refine g_iload_1 C dX8_close_0 rfl ?_
  refine g_istore_3 C rfl dX8_close_1 rfl ?_
  refine g_iconst (v := 1) C dX8_close_2 rfl (by decide) ?_
  refine g_istore_4 C rfl dX8_close_3 rfl ?_
  exact lp_X8_close_o C S hR nr hnr hT set bb ⟨rfl, rfl⟩ (ms9 set + 1) set _ (Nat.lt_succ_self _) ⟨sub_refl set, fun z h _ => h⟩

set_option maxHeartbeats 4000000 in
set_option maxRecDepth 20000 in
theorem ok_X8_followsNow (S : Mem) (hR : Rs S) (nr : Nat) (hnr : mI S 25 1 = nI nr) (hT : Tn nr (mA S 27)) : Ok yX8_followsNow cX8_followsNow 1 (some .int) 2 0 0 [.ref 25] S (RI (clo nr (mA S 27) (mA S 28) (alw (nI nr) (mA S 29 2)) (mA S 29 0)) S) := by
  refine Ok.of (by decide) (Nat.le_of_ble_eq_true rfl) rfl (fun κ C hx => ?_)
  have C : Cx RX8 cX8_followsNow 1 (some .int) 2 false _ κ := C
  refine g_aload_0 C dX8_followsNow_0 rfl ?_
  refine g_aload_0 C dX8_followsNow_1 rfl ?_
  refine g_getr C 5 dX8_followsNow_2 rfl rfl rfl fl_X8_19 (hR 25 5 29 rfl) ?_
  refine g_iconst (v := 0) C dX8_followsNow_5 rfl (by decide) ?_
  refine g_iald C dX8_followsNow_6 rfl rfl (n_in (k := 0) (N := 4) (by decide) (by decide)) ?_
  refine g_aload_0 C dX8_followsNow_7 rfl ?_
  refine g_cV0i C dX8_followsNow_8 rfl ml_X8_149 mz_X8_allowed (ok_X8_allowed S hR) (by decide) rfl rfl rfl rfl (Nat.le_of_ble_eq_true rfl) (fun hn8 => ?_)
  refine g_cV2i C dX8_followsNow_11 rfl ml_X8_152 mz_X8_close (ok_X8_close _ _ S hR nr hnr hT) (by decide) rfl rfl rfl rfl (Nat.le_of_ble_eq_true rfl) (fun hn11 => ?_)
  exact g_iret C rfl dX8_followsNow_14 ⟨by rw [hnr]; rfl, rfl⟩
end
section
/-! pure rows of the queries -/
def qr2 (x : Int32) (k : Nat) : Bool := decide ((x >>> ((2 * nI k) &&& 31)) &&& 3 = 3)
def qrF (x : Int32) : Nat → Int32
  | 0 => 0
  | k + 1 => qrF x k ||| (if qr2 x k = true then one (nI k) else 0)
def cstF (co : Nat → Int32) (x : Int32) : Nat → Int32
  | 0 => 0
  | r + 1 => cstF co x r + (if hasB x (nI r) = true then co r else 0)
/-- the best of those below n: the first of the least weight -/
def bstS (P : Nat → Bool) (wt : Nat → Int32) (n : Nat) (o : Option Nat) : Option Nat := match o with
  | none => if P n = true then some n else none
  | some b => if P n = true ∧ wt n < wt b then some n else some b
def bstF (P : Nat → Bool) (wt : Nat → Int32) : Nat → Option Nat
  | 0 => none
  | n + 1 => bstS P wt n (bstF P wt n)
def oI : Option Nat → Int32
  | none => -1
  | some k => nI k
theorem oI_neg {o : Option Nat} (h : ∀ k, o = some k → k < 2147483648) : oI o < 0 ↔ o = none := by
  cases o with
  | none => exact ⟨fun _ => rfl, fun _ => by decide⟩
  | some k =>
    refine ⟨fun h2 => absurd h2 ?_, fun h2 => by cases h2⟩
    exact nI_pos (h k rfl)
theorem bstF_s {P : Nat → Bool} {wt : Nat → Int32} {n : Nat} : bstF P wt (n + 1) = bstS P wt n (bstF P wt n) := rfl
theorem bstF_s0 {P : Nat → Bool} {wt : Nat → Int32} {n : Nat} (h : P n = false) : bstF P wt (n + 1) = bstF P wt n := by
  rw [bstF_s]
  cases bstF P wt n with
  | none => exact if_neg (show ¬ P n = true by rw [h]; decide)
  | some b => exact if_neg (show ¬ (P n = true ∧ wt n < wt b) from fun q => by rw [h] at q; exact absurd q.1 (by decide))
theorem bstF_sn {P : Nat → Bool} {wt : Nat → Int32} {n : Nat} (h : P n = true) (hb : bstF P wt n = none) : bstF P wt (n + 1) = some n := by
  rw [bstF_s, hb]
  exact if_pos h
theorem bstF_sl {P : Nat → Bool} {wt : Nat → Int32} {n b : Nat} (h : P n = true) (hb : bstF P wt n = some b) (hw : wt n < wt b) : bstF P wt (n + 1) = some n := by
  rw [bstF_s, hb]
  exact if_pos ⟨h, hw⟩
theorem bstF_sg {P : Nat → Bool} {wt : Nat → Int32} {n b : Nat} (hb : bstF P wt n = some b) (hw : ¬ wt n < wt b) : bstF P wt (n + 1) = some b := by
  rw [bstF_s, hb]
  exact if_neg (fun q => hw q.2)
theorem bstF_lt {P : Nat → Bool} {wt : Nat → Int32} : ∀ {n k : Nat}, bstF P wt n = some k → k < n
  | 0, k, h => by cases h
  | n + 1, k, h => by
    by_cases hp : P n = true
    · cases hb : bstF P wt n with
      | none =>
        rw [bstF_sn hp hb] at h
        cases h; omega
      | some b =>
        have h1 := bstF_lt hb
        by_cases hw : wt n < wt b
        · rw [bstF_sl hp hb hw] at h
          cases h; omega
        · rw [bstF_sg hb hw] at h
          cases h; omega
    · rw [bstF_s0 (by simpa using hp)] at h
      have h1 := bstF_lt h
      omega
def cnt (x : Int32) : Int32 := cntI x 16
/-- what follows by the rules bb from x, in a town -/
noncomputable def fol (nr : Nat) (cn nd : Nat → Int32) (bb x : Int32) : Int32 := clo nr cn nd bb x
theorem pw_nI : ∀ n, n ≤ 30 → one (nI n) = nI (2 ^ n) := by decide +kernel
theorem two_nI : ∀ n, n ≤ 100 → 2 * nI n = nI (2 * n) := by decide +kernel
theorem i_not_le {a b : Int32} (h : ¬ a ≤ b) : b < a := by
  rw [Int32.le_iff_toInt_le] at h
  rw [Int32.lt_iff_toInt_lt]
  omega
theorem i_not_lt {a b : Int32} (h : a ≤ b) : ¬ b < a := by
  rw [Int32.le_iff_toInt_le] at h
  rw [Int32.lt_iff_toInt_lt]
  omega
theorem i_lt_of {a b : Int32} (h : ¬ b ≤ a) : a < b := i_not_le h

set_option maxHeartbeats 4000000 in
set_option maxRecDepth 20000 in
theorem lp_X8_quarrels {κ : Kx} {Φ : Option Value → Mem → Prop} (C : Cx RX8 cX8_quarrels 3 (some .int) 0 false Φ κ) (S : Mem) (x : Int32) (hΦ : Φ (some (.int (qrF x 8))) S) : ∀ (n k : Nat), k ≤ 8 → 8 + 1 ≤ k + n → G κ 0 0 S 4 [.int x, .int (qrF x k), .int (nI k)] [] := by
  intro n
  induction n with
  | zero => intro k h1 h2; exact absurd h2 (by omega)
  | succ n ih =>
    intro k hk1 hk2
    refine g_iload_2 C dX8_quarrels_4 rfl ?_
    refine g_bipush (v := 8) C dX8_quarrels_5 rfl (by decide) ?_
    refine g_icmp_ge (tgt := 37) C dX8_quarrels_7 rfl (by decide) (fun h7 => ?_) (fun h7 => ?_)
    · skip
      have hk : k = 8 := by have := n_ge (b := 8) h7 (by omega) (by omega); omega
      rw [hk]
      refine g_iload_1 C dX8_quarrels_37 rfl ?_
      exact g_iret C rfl dX8_quarrels_38 hΦ
    · skip
      refine g_iload_1 C dX8_quarrels_10 rfl ?_
      refine g_iload_0 C dX8_quarrels_11 rfl ?_
      refine g_iconst (v := 2) C dX8_quarrels_12 rfl (by decide) ?_
      refine g_iload_2 C dX8_quarrels_13 rfl ?_
      refine g_imul C dX8_quarrels_14 rfl ?_
      refine g_ishr C dX8_quarrels_15 rfl ?_
      refine g_iconst (v := 3) C dX8_quarrels_16 rfl (by decide) ?_
      refine g_iand C dX8_quarrels_17 rfl ?_
      refine g_iconst (v := 3) C dX8_quarrels_18 rfl (by decide) ?_
      refine g_icmp_ne (tgt := 28) C dX8_quarrels_19 rfl (by decide) (fun h19 => ?_) (fun h19 => ?_)
      · skip
        refine g_iconst (v := 0) C dX8_quarrels_28 rfl (by decide) ?_
        refine g_ior C dX8_quarrels_29 rfl ?_
        refine g_istore_1 C rfl dX8_quarrels_30 rfl ?_
        refine g_iinc_2 (z := 1) C rfl dX8_quarrels_31 rfl (by decide) ?_
        refine g_goto (tgt := 4) C dX8_quarrels_34 (by decide) ?_
        have hk : k < 8 := n_lt (b := 8) h7 (by omega) (by omega)
        rw [nI_1]
        have e : qrF x (k + 1) = qrF x k ||| _ := congrArg (fun z => qrF x k ||| z) (if_neg (fun q => h19 (of_decide_eq_true q)))
        have := ih (k + 1) (by omega) (by omega)
        rw [e] at this
        exact this
      · skip
        refine g_iconst (v := 1) C dX8_quarrels_22 rfl (by decide) ?_
        refine g_iload_2 C dX8_quarrels_23 rfl ?_
        refine g_ishl C dX8_quarrels_24 rfl ?_
        refine g_goto (tgt := 29) C dX8_quarrels_25 (by decide) ?_
        refine g_ior C dX8_quarrels_29 rfl ?_
        refine g_istore_1 C rfl dX8_quarrels_30 rfl ?_
        refine g_iinc_2 (z := 1) C rfl dX8_quarrels_31 rfl (by decide) ?_
        refine g_goto (tgt := 4) C dX8_quarrels_34 (by decide) ?_
        have hk : k < 8 := n_lt (b := 8) h7 (by omega) (by omega)
        rw [nI_1]
        have e : qrF x (k + 1) = qrF x k ||| _ := congrArg (fun z => qrF x k ||| z) (if_pos (decide_eq_true h19))
        have := ih (k + 1) (by omega) (by omega)
        rw [e] at this
        exact this

set_option maxHeartbeats 4000000 in
set_option maxRecDepth 20000 in
theorem ok_X8_quarrels (x : Int32) (S : Mem) : Ok yX8_quarrels cX8_quarrels 3 (some .int) 0 0 0 [.int x] S (RI (qrF x 8) S) := by
  refine Ok.of (by decide) (Nat.le_of_ble_eq_true rfl) rfl (fun κ C hx => ?_)
  have C : Cx RX8 cX8_quarrels 3 (some .int) 0 false _ κ := C
  refine g_iconst (v := 0) C dX8_quarrels_0 rfl (by decide) ?_
  refine g_istore_1 C rfl dX8_quarrels_1 rfl ?_
  refine g_iconst (v := 0) C dX8_quarrels_2 rfl (by decide) ?_
  refine g_istore_2 C rfl dX8_quarrels_3 rfl ?_
  exact lp_X8_quarrels C S x ⟨rfl, rfl⟩ 9 0 (by omega) (by omega)

set_option maxHeartbeats 4000000 in
set_option maxRecDepth 20000 in
theorem lp_X8_costOf {κ : Kx} {Φ : Option Value → Mem → Prop} (C : Cx RX8 cX8_costOf 4 (some .int) 1 false Φ κ) (S : Mem) (hR : Rs S) (nr : Nat) (hnr : mI S 25 1 = nI nr) (h10 : nr ≤ 10) (x : Int32) (hΦ : Φ (some (.int (cstF (mA S 26) x nr))) S) : ∀ (n k : Nat), k ≤ nr → nr + 1 ≤ k + n → G κ 0 0 S 4 [.ref 25, .int x, .int (cstF (mA S 26) x k), .int (nI k)] [] := by
  intro n
  induction n with
  | zero => intro k h1 h2; exact absurd h2 (by omega)
  | succ n ih =>
    intro k hk1 hk2
    refine g_iload_3 C dX8_costOf_4 rfl ?_
    refine g_aload_0 C dX8_costOf_5 rfl ?_
    refine g_geti C 1 dX8_costOf_6 rfl rfl rfl fl_X8_77 ?_
    rw [hnr]
    refine g_icmp_ge (tgt := 39) C dX8_costOf_9 rfl (by decide) (fun h9 => ?_) (fun h9 => ?_)
    · skip
      have hk : k = nr := by have := n_ge (b := nr) h9 (by omega) (by omega); omega
      rw [hk]
      refine g_iload_2 C dX8_costOf_39 rfl ?_
      exact g_iret C rfl dX8_costOf_40 hΦ
    · skip
      refine g_iload_2 C dX8_costOf_12 rfl ?_
      refine g_iload_1 C dX8_costOf_13 rfl ?_
      refine g_iload_3 C dX8_costOf_14 rfl ?_
      refine g_cS2i C dX8_costOf_15 rfl ml_X8_114 mz_X8_has (ok_X8_has _ _ _) (by decide) rfl rfl (Nat.le_of_ble_eq_true rfl) (fun hn15 => ?_)
      refine g_if_eq (tgt := 30) C dX8_costOf_18 rfl (by decide) (fun h18 => ?_) (fun h18 => ?_)
      · skip
        refine g_iconst (v := 0) C dX8_costOf_30 rfl (by decide) ?_
        refine g_iadd C dX8_costOf_31 rfl ?_
        refine g_istore_2 C rfl dX8_costOf_32 rfl ?_
        refine g_iinc_3 (z := 1) C rfl dX8_costOf_33 rfl (by decide) ?_
        refine g_goto (tgt := 4) C dX8_costOf_36 (by decide) ?_
        have hk : k < nr := n_lt (b := nr) h9 (by omega) (by omega)
        rw [nI_1]
        have e : cstF (mA S 26) x (k + 1) = cstF (mA S 26) x k + _ := congrArg (fun z => cstF (mA S 26) x k + z) (if_neg (by rw [(bI_0 _).mp h18]; decide))
        have := ih (k + 1) (by omega) (by omega)
        rw [e] at this
        exact this
      · skip
        refine g_aload_0 C dX8_costOf_21 rfl ?_
        refine g_getr C 2 dX8_costOf_22 rfl rfl rfl fl_X8_7 (hR 25 2 26 rfl) ?_
        refine g_iload_3 C dX8_costOf_25 rfl ?_
        refine g_iald C dX8_costOf_26 rfl rfl (n_in (show k < 10 by have := n_lt (b := nr) h9 (by omega) (by omega); omega) (by decide)) ?_
        rw [nI_clamp (show k < 2 ^ 31 by omega)]
        refine g_goto (tgt := 31) C dX8_costOf_27 (by decide) ?_
        refine g_iadd C dX8_costOf_31 rfl ?_
        refine g_istore_2 C rfl dX8_costOf_32 rfl ?_
        refine g_iinc_3 (z := 1) C rfl dX8_costOf_33 rfl (by decide) ?_
        refine g_goto (tgt := 4) C dX8_costOf_36 (by decide) ?_
        have hk : k < nr := n_lt (b := nr) h9 (by omega) (by omega)
        rw [nI_1]
        have e : cstF (mA S 26) x (k + 1) = cstF (mA S 26) x k + _ := congrArg (fun z => cstF (mA S 26) x k + z) (if_pos (nf_t (fun q => h18 ((bI_0 _).mpr q))))
        have := ih (k + 1) (by omega) (by omega)
        rw [e] at this
        exact this

set_option maxHeartbeats 4000000 in
set_option maxRecDepth 20000 in
theorem ok_X8_costOf (x : Int32) (S : Mem) (hR : Rs S) (nr : Nat) (hnr : mI S 25 1 = nI nr) (h10 : nr ≤ 10) : Ok yX8_costOf cX8_costOf 4 (some .int) 1 0 0 [.ref 25, .int x] S (RI (cstF (mA S 26) x nr) S) := by
  refine Ok.of (by decide) (Nat.le_of_ble_eq_true rfl) rfl (fun κ C hx => ?_)
  have C : Cx RX8 cX8_costOf 4 (some .int) 1 false _ κ := C
  refine g_iconst (v := 0) C dX8_costOf_0 rfl (by decide) ?_
  refine g_istore_2 C rfl dX8_costOf_1 rfl ?_
  refine g_iconst (v := 0) C dX8_costOf_2 rfl (by decide) ?_
  refine g_istore_3 C rfl dX8_costOf_3 rfl ?_
  exact lp_X8_costOf C S hR nr hnr h10 x ⟨rfl, rfl⟩ (nr + 1) 0 (by omega) (by omega)

noncomputable def folV (S : Mem) (nr : Nat) (x : Int32) : Int32 := if setB (mI S 25 0) x = true then clo nr (mA S 27) (mA S 28) (alw (nI nr) (mA S 29 2)) x else -1000000001
set_option maxHeartbeats 4000000 in
set_option maxRecDepth 20000 in
theorem ok_X8_follows (x : Int32) (S : Mem) (hR : Rs S) (nr : Nat) (hnr : mI S 25 1 = nI nr) (hT : Tn nr (mA S 27)) : Ok yX8_follows cX8_follows 2 (some .int) 2 0 0 [.ref 25, .int x] S (RI (folV S nr x) S) := by
  refine Ok.of (by decide) (Nat.le_of_ble_eq_true rfl) rfl (fun κ C hx => ?_)
  have C : Cx RX8 cX8_follows 2 (some .int) 2 false _ κ := C
  refine g_aload_0 C dX8_follows_0 rfl ?_
  refine g_iload_1 C dX8_follows_1 rfl ?_
  refine g_cV1i C dX8_follows_2 rfl ml_X8_198 mz_X8_isSet (ok_X8_isSet _ S) (by decide) rfl rfl rfl rfl (Nat.le_of_ble_eq_true rfl) (fun hn2 => ?_)
  refine g_if_eq (tgt := 20) C dX8_follows_5 rfl (by decide) (fun h5 => ?_) (fun h5 => ?_)
  · skip
    refine g_ldc C dX8_follows_20 rfl kc_X8_165 ?_
    exact g_iret C rfl dX8_follows_22 ⟨by unfold folV; rw [if_neg (by rw [(bI_0 _).mp h5]; decide)], rfl⟩
  · skip
    refine g_aload_0 C dX8_follows_8 rfl ?_
    refine g_iload_1 C dX8_follows_9 rfl ?_
    refine g_aload_0 C dX8_follows_10 rfl ?_
    refine g_cV0i C dX8_follows_11 rfl ml_X8_149 mz_X8_allowed (ok_X8_allowed S hR) (by decide) rfl rfl rfl rfl (Nat.le_of_ble_eq_true rfl) (fun hn11 => ?_)
    refine g_cV2i C dX8_follows_14 rfl ml_X8_152 mz_X8_close (ok_X8_close _ _ S hR nr hnr hT) (by decide) rfl rfl rfl rfl (Nat.le_of_ble_eq_true rfl) (fun hn14 => ?_)
    refine g_goto (tgt := 22) C dX8_follows_17 (by decide) ?_
    exact g_iret C rfl dX8_follows_22 ⟨by unfold folV; rw [if_pos (nf_t (fun q => h5 ((bI_0 _).mpr q))), hnr], rfl⟩

noncomputable def dwB (S : Mem) (nr : Nat) (x s : Int32) : Bool := hasB (clo nr (mA S 27) (mA S 28) (alw (nI nr) (mA S 29 2)) (mA S 29 0 ||| x)) s && decide (qrF (clo nr (mA S 27) (mA S 28) (alw (nI nr) (mA S 29 2)) (mA S 29 0 ||| x)) 8 = 0)
set_option maxHeartbeats 4000000 in
set_option maxRecDepth 20000 in
theorem ok_X8_doWords (x s : Int32) (S : Mem) (hR : Rs S) (nr : Nat) (hnr : mI S 25 1 = nI nr) (hT : Tn nr (mA S 27)) : Ok yX8_doWords cX8_doWords 4 (some .boolean) 2 0 0 [.ref 25, .int x, .int s] S (RI (bI (dwB S nr x s)) S) := by
  refine Ok.of (by decide) (Nat.le_of_ble_eq_true rfl) rfl (fun κ C hx => ?_)
  have C : Cx RX8 cX8_doWords 4 (some .boolean) 2 false _ κ := C
  refine g_aload_0 C dX8_doWords_0 rfl ?_
  refine g_aload_0 C dX8_doWords_1 rfl ?_
  refine g_getr C 5 dX8_doWords_2 rfl rfl rfl fl_X8_19 (hR 25 5 29 rfl) ?_
  refine g_iconst (v := 0) C dX8_doWords_5 rfl (by decide) ?_
  refine g_iald C dX8_doWords_6 rfl rfl (n_in (k := 0) (N := 4) (by decide) (by decide)) ?_
  refine g_iload_1 C dX8_doWords_7 rfl ?_
  refine g_ior C dX8_doWords_8 rfl ?_
  refine g_aload_0 C dX8_doWords_9 rfl ?_
  refine g_cV0i C dX8_doWords_10 rfl ml_X8_149 mz_X8_allowed (ok_X8_allowed S hR) (by decide) rfl rfl rfl rfl (Nat.le_of_ble_eq_true rfl) (fun hn10 => ?_)
  refine g_cV2i C dX8_doWords_13 rfl ml_X8_152 mz_X8_close (ok_X8_close _ _ S hR nr hnr hT) (by decide) rfl rfl rfl rfl (Nat.le_of_ble_eq_true rfl) (fun hn13 => ?_)
  rw [hnr]
  rw [show (mA S 29 (Int32.toNatClampNeg 0)) = mA S 29 0 from rfl]
  refine g_istore_3 C rfl dX8_doWords_16 rfl ?_
  refine g_iload_3 C dX8_doWords_17 rfl ?_
  refine g_iload_2 C dX8_doWords_18 rfl ?_
  refine g_cS2i C dX8_doWords_19 rfl ml_X8_114 mz_X8_has (ok_X8_has _ _ _) (by decide) rfl rfl (Nat.le_of_ble_eq_true rfl) (fun hn19 => ?_)
  refine g_if_eq (tgt := 36) C dX8_doWords_22 rfl (by decide) (fun h22 => ?_) (fun h22 => ?_)
  · skip
    refine g_iconst (v := 0) C dX8_doWords_36 rfl (by decide) ?_
    exact g_zret C rfl dX8_doWords_37 (by first | exact Or.inl rfl | exact Or.inr rfl | exact bI_01 _) ⟨by rw [show dwB S nr x s = false from by unfold dwB; rw [(bI_0 _).mp h22]; rfl]; rfl, rfl⟩
  · skip
    refine g_iload_3 C dX8_doWords_25 rfl ?_
    refine g_cS1i C dX8_doWords_26 rfl ml_X8_158 mz_X8_quarrels (ok_X8_quarrels _ _) (by decide) rfl rfl (Nat.le_of_ble_eq_true rfl) (fun hn26 => ?_)
    refine g_if_ne (tgt := 36) C dX8_doWords_29 rfl (by decide) (fun h29 => ?_) (fun h29 => ?_)
    · skip
      refine g_iconst (v := 0) C dX8_doWords_36 rfl (by decide) ?_
      exact g_zret C rfl dX8_doWords_37 (by first | exact Or.inl rfl | exact Or.inr rfl | exact bI_01 _) ⟨by rw [show dwB S nr x s = false from by unfold dwB; rw [decide_eq_false h29, Bool.and_false]]; rfl, rfl⟩
    · skip
      refine g_iconst (v := 1) C dX8_doWords_32 rfl (by decide) ?_
      refine g_goto (tgt := 37) C dX8_doWords_33 (by decide) ?_
      exact g_zret C rfl dX8_doWords_37 (by first | exact Or.inl rfl | exact Or.inr rfl | exact bI_01 _) ⟨by rw [show dwB S nr x s = true from by unfold dwB; rw [nf_t (fun q => h22 ((bI_0 _).mpr q)), decide_eq_true h29]; rfl]; rfl, rfl⟩
end
section
theorem pw10 {nr : Nat} (h : nr ≤ 10) : 2 ^ nr ≤ 1024 := Nat.pow_le_pow_right (n := 2) (by decide) h
theorem pw16 {th : Nat} (h : th ≤ 8) : 2 ^ (2 * th) ≤ 65536 := Nat.pow_le_pow_right (n := 2) (i := 2 * th) (j := 16) (by decide) (by omega)
theorem bst_small {P : Nat → Bool} {wt : Nat → Int32} {n : Nat} (hn : n ≤ 2147483648) : ∀ k, bstF P wt n = some k → k < 2147483648 := fun k h => Nat.lt_of_lt_of_le (bstF_lt h) hn
theorem bst_some {P : Nat → Bool} {wt : Nat → Int32} {n : Nat} (hn : n ≤ 2147483648) (h : ¬ oI (bstF P wt n) < 0) : ∃ b, bstF P wt n = some b := by
  cases hb : bstF P wt n with
  | none => rw [hb] at h; exact absurd (by decide) h
  | some b => exact ⟨b, rfl⟩
theorem bst_none {P : Nat → Bool} {wt : Nat → Int32} {n : Nat} (hn : n ≤ 2147483648) (h : oI (bstF P wt n) < 0) : bstF P wt n = none := (oI_neg (bst_small hn)).mp h
noncomputable def prP (S : Mem) (nr : Nat) (s : Int32) (k : Nat) : Bool := decide (nI k &&& mA S 29 2 = 0) && hasB (clo nr (mA S 27) (mA S 28) (nI k) (mA S 29 0)) s
def cw (k : Nat) : Int32 := cntI (nI k) 16
def selV (o : Option Nat) (c : Bool) (f : Nat → Int32) : Int32 := match o with | none => -1 | some b => if c = true then nI b else f b
noncomputable def prV (S : Mem) (nr : Nat) (s what : Int32) : Int32 := if sayB (mI S 25 0) s = true then (if inI what 0 1 = true then selV (bstF (prP S nr s) cw (2 ^ nr)) (decide (what = 1)) cw else -1000000002) else -1000000001
set_option maxHeartbeats 4000000 in
set_option maxRecDepth 20000 in
theorem lp_X8_proof {κ : Kx} {Φ : Option Value → Mem → Prop} (C : Cx RX8 cX8_proof 6 (some .int) 2 false Φ κ) (S : Mem) (hR : Rs S) (nr : Nat) (hnr : mI S 25 1 = nI nr) (hT : Tn nr (mA S 27)) (s what : Int32) (K : ∀ v4 v5 : Value, G κ 0 0 S 112 [.ref 25, .int s, .int what, .int (oI (bstF (prP S nr s) cw (2 ^ nr))), v4, v5] []) : ∀ (n k : Nat), k ≤ 2 ^ nr → 2 ^ nr + 1 ≤ k + n → ∀ v5 : Value, G κ 0 0 S 29 [.ref 25, .int s, .int what, .int (oI (bstF (prP S nr s) cw k)), .int (nI k), v5] [] := by
  have h10 := pw10 hT.1
  intro n
  induction n with
  | zero => intro k h1 h2; exact absurd h2 (by omega)
  | succ n ih =>
    intro k hk1 hk2 v5
    refine g_iload_4 C dX8_proof_29 rfl ?_
    refine g_iconst (v := 1) C dX8_proof_31 rfl (by decide) ?_
    refine g_aload_0 C dX8_proof_32 rfl ?_
    refine g_geti C 1 dX8_proof_33 rfl rfl rfl fl_X8_77 ?_
    rw [hnr]
    refine g_ishl C dX8_proof_36 rfl ?_
    rw [show (1 : Int32) <<< (nI nr &&& 31) = nI (2 ^ nr) from pw_nI nr (by have := hT.1; omega)]
    refine g_icmp_ge (tgt := 112) C dX8_proof_37 rfl (by decide) (fun h37 => ?_) (fun h37 => ?_)
    · skip
      have hk : k = 2 ^ nr := by have := n_ge (b := 2 ^ nr) h37 (by omega) (by omega); omega
      rw [hk]
      exact K _ _
    · skip
      refine g_iload_4 C dX8_proof_40 rfl ?_
      refine g_aload_0 C dX8_proof_42 rfl ?_
      refine g_getr C 5 dX8_proof_43 rfl rfl rfl fl_X8_19 (hR 25 5 29 rfl) ?_
      refine g_iconst (v := 2) C dX8_proof_46 rfl (by decide) ?_
      refine g_iald C dX8_proof_47 rfl rfl (n_in (k := 2) (N := 4) (by decide) (by decide)) ?_
      rw [show (mA S 29 (Int32.toNatClampNeg 2)) = mA S 29 2 from rfl]
      refine g_iand C dX8_proof_48 rfl ?_
      refine g_if_ne (tgt := 72) C dX8_proof_49 rfl (by decide) (fun h49 => ?_) (fun h49 => ?_)
      · skip
        refine g_iconst (v := 0) C dX8_proof_72 rfl (by decide) ?_
        refine g_istore_5 C rfl dX8_proof_73 rfl ?_
        refine g_iload_5 C dX8_proof_75 rfl ?_
        refine g_if_eq (tgt := 104) C dX8_proof_77 rfl (by decide) (fun h77 => ?_) (fun h77 => absurd rfl h77)
        refine g_iload_3 C dX8_proof_104 rfl ?_
        refine g_istore_3 C rfl dX8_proof_105 rfl ?_
        refine g_iinc_4 (z := 1) C rfl dX8_proof_106 rfl (by decide) ?_
        refine g_goto (tgt := 29) C dX8_proof_109 (by decide) ?_
        have hk : k < 2 ^ nr := n_lt (b := 2 ^ nr) h37 (by omega) (by omega)
        rw [nI_1]
        have e := bstF_s0 (P := (prP S nr s)) (wt := cw) (show (prP S nr s) k = false by unfold prP; rw [decide_eq_false h49]; rfl)
        have := ih (k + 1) (by omega) (by omega)
        rw [e] at this
        exact this _
      · skip
        refine g_iload_3 C dX8_proof_52 rfl ?_
        refine g_if_lt (tgt := 68) C dX8_proof_53 rfl (by decide) (fun h53 => ?_) (fun h53 => ?_)
        · skip
          refine g_iconst (v := 1) C dX8_proof_68 rfl (by decide) ?_
          refine g_goto (tgt := 73) C dX8_proof_69 (by decide) ?_
          refine g_istore_5 C rfl dX8_proof_73 rfl ?_
          refine g_iload_5 C dX8_proof_75 rfl ?_
          refine g_if_eq (tgt := 104) C dX8_proof_77 rfl (by decide) (fun h77 => absurd h77 (by decide)) (fun h77 => ?_)
          refine g_aload_0 C dX8_proof_80 rfl ?_
          refine g_aload_0 C dX8_proof_81 rfl ?_
          refine g_getr C 5 dX8_proof_82 rfl rfl rfl fl_X8_19 (hR 25 5 29 rfl) ?_
          refine g_iconst (v := 0) C dX8_proof_85 rfl (by decide) ?_
          refine g_iald C dX8_proof_86 rfl rfl (n_in (k := 0) (N := 4) (by decide) (by decide)) ?_
          rw [show (mA S 29 (Int32.toNatClampNeg 0)) = mA S 29 0 from rfl]
          refine g_iload_4 C dX8_proof_87 rfl ?_
          refine g_cV2i C dX8_proof_89 rfl ml_X8_152 mz_X8_close (ok_X8_close _ _ S hR nr hnr hT) (by decide) rfl rfl rfl rfl (Nat.le_of_ble_eq_true rfl) (fun hn89 => ?_)
          refine g_iload_1 C dX8_proof_92 rfl ?_
          refine g_cS2i C dX8_proof_93 rfl ml_X8_114 mz_X8_has (ok_X8_has _ _ _) (by decide) rfl rfl (Nat.le_of_ble_eq_true rfl) (fun hn93 => ?_)
          refine g_if_eq (tgt := 104) C dX8_proof_96 rfl (by decide) (fun h96 => ?_) (fun h96 => ?_)
          · skip
            refine g_iload_3 C dX8_proof_104 rfl ?_
            refine g_istore_3 C rfl dX8_proof_105 rfl ?_
            refine g_iinc_4 (z := 1) C rfl dX8_proof_106 rfl (by decide) ?_
            refine g_goto (tgt := 29) C dX8_proof_109 (by decide) ?_
            have hk : k < 2 ^ nr := n_lt (b := 2 ^ nr) h37 (by omega) (by omega)
            rw [nI_1]
            have e := bstF_s0 (P := (prP S nr s)) (wt := cw) (show (prP S nr s) k = false by unfold prP; rw [(bI_0 _).mp h96]; exact Bool.and_false _)
            have := ih (k + 1) (by omega) (by omega)
            rw [e] at this
            exact this _
          · skip
            refine g_iload_4 C dX8_proof_99 rfl ?_
            refine g_goto (tgt := 105) C dX8_proof_101 (by decide) ?_
            refine g_istore_3 C rfl dX8_proof_105 rfl ?_
            refine g_iinc_4 (z := 1) C rfl dX8_proof_106 rfl (by decide) ?_
            refine g_goto (tgt := 29) C dX8_proof_109 (by decide) ?_
            have hk : k < 2 ^ nr := n_lt (b := 2 ^ nr) h37 (by omega) (by omega)
            rw [nI_1]
            have hb := bst_none (by omega) h53
            have hp : (prP S nr s) k = true := by unfold prP; rw [decide_eq_true h49, nf_t (fun q => h96 ((bI_0 _).mpr q))]; rfl
            have e := bstF_sn hp hb
            have := ih (k + 1) (by omega) (by omega)
            rw [e] at this
            exact this _
        · skip
          refine g_iload_4 C dX8_proof_56 rfl ?_
          refine g_cS1i C dX8_proof_58 rfl ml_X8_201 mz_X8_bits (ok_X8_bits _ _) (by decide) rfl rfl (Nat.le_of_ble_eq_true rfl) (fun hn58 => ?_)
          refine g_iload_3 C dX8_proof_61 rfl ?_
          refine g_cS1i C dX8_proof_62 rfl ml_X8_201 mz_X8_bits (ok_X8_bits _ _) (by decide) rfl rfl (Nat.le_of_ble_eq_true rfl) (fun hn62 => ?_)
          refine g_icmp_ge (tgt := 72) C dX8_proof_65 rfl (by decide) (fun h65 => ?_) (fun h65 => ?_)
          · skip
            refine g_iconst (v := 0) C dX8_proof_72 rfl (by decide) ?_
            refine g_istore_5 C rfl dX8_proof_73 rfl ?_
            refine g_iload_5 C dX8_proof_75 rfl ?_
            refine g_if_eq (tgt := 104) C dX8_proof_77 rfl (by decide) (fun h77 => ?_) (fun h77 => absurd rfl h77)
            refine g_iload_3 C dX8_proof_104 rfl ?_
            refine g_istore_3 C rfl dX8_proof_105 rfl ?_
            refine g_iinc_4 (z := 1) C rfl dX8_proof_106 rfl (by decide) ?_
            refine g_goto (tgt := 29) C dX8_proof_109 (by decide) ?_
            have hk : k < 2 ^ nr := n_lt (b := 2 ^ nr) h37 (by omega) (by omega)
            rw [nI_1]
            obtain ⟨b, hb⟩ := bst_some (by omega) h53
            have hw : cw b ≤ cw k := by have h := h65; rw [hb] at h; exact h
            have e := bstF_sg (P := (prP S nr s)) (wt := cw) hb (i_not_lt hw)
            have := ih (k + 1) (by omega) (by omega)
            rw [e, ← hb] at this
            exact this _
          · skip
            refine g_iconst (v := 1) C dX8_proof_68 rfl (by decide) ?_
            refine g_goto (tgt := 73) C dX8_proof_69 (by decide) ?_
            refine g_istore_5 C rfl dX8_proof_73 rfl ?_
            refine g_iload_5 C dX8_proof_75 rfl ?_
            refine g_if_eq (tgt := 104) C dX8_proof_77 rfl (by decide) (fun h77 => absurd h77 (by decide)) (fun h77 => ?_)
            refine g_aload_0 C dX8_proof_80 rfl ?_
            refine g_aload_0 C dX8_proof_81 rfl ?_
            refine g_getr C 5 dX8_proof_82 rfl rfl rfl fl_X8_19 (hR 25 5 29 rfl) ?_
            refine g_iconst (v := 0) C dX8_proof_85 rfl (by decide) ?_
            refine g_iald C dX8_proof_86 rfl rfl (n_in (k := 0) (N := 4) (by decide) (by decide)) ?_
            rw [show (mA S 29 (Int32.toNatClampNeg 0)) = mA S 29 0 from rfl]
            refine g_iload_4 C dX8_proof_87 rfl ?_
            refine g_cV2i C dX8_proof_89 rfl ml_X8_152 mz_X8_close (ok_X8_close _ _ S hR nr hnr hT) (by decide) rfl rfl rfl rfl (Nat.le_of_ble_eq_true rfl) (fun hn89 => ?_)
            refine g_iload_1 C dX8_proof_92 rfl ?_
            refine g_cS2i C dX8_proof_93 rfl ml_X8_114 mz_X8_has (ok_X8_has _ _ _) (by decide) rfl rfl (Nat.le_of_ble_eq_true rfl) (fun hn93 => ?_)
            refine g_if_eq (tgt := 104) C dX8_proof_96 rfl (by decide) (fun h96 => ?_) (fun h96 => ?_)
            · skip
              refine g_iload_3 C dX8_proof_104 rfl ?_
              refine g_istore_3 C rfl dX8_proof_105 rfl ?_
              refine g_iinc_4 (z := 1) C rfl dX8_proof_106 rfl (by decide) ?_
              refine g_goto (tgt := 29) C dX8_proof_109 (by decide) ?_
              have hk : k < 2 ^ nr := n_lt (b := 2 ^ nr) h37 (by omega) (by omega)
              rw [nI_1]
              have e := bstF_s0 (P := (prP S nr s)) (wt := cw) (show (prP S nr s) k = false by unfold prP; rw [(bI_0 _).mp h96]; exact Bool.and_false _)
              have := ih (k + 1) (by omega) (by omega)
              rw [e] at this
              exact this _
            · skip
              refine g_iload_4 C dX8_proof_99 rfl ?_
              refine g_goto (tgt := 105) C dX8_proof_101 (by decide) ?_
              refine g_istore_3 C rfl dX8_proof_105 rfl ?_
              refine g_iinc_4 (z := 1) C rfl dX8_proof_106 rfl (by decide) ?_
              refine g_goto (tgt := 29) C dX8_proof_109 (by decide) ?_
              have hk : k < 2 ^ nr := n_lt (b := 2 ^ nr) h37 (by omega) (by omega)
              rw [nI_1]
              obtain ⟨b, hb⟩ := bst_some (by omega) h53
              have hp : (prP S nr s) k = true := by unfold prP; rw [decide_eq_true h49, nf_t (fun q => h96 ((bI_0 _).mpr q))]; rfl
              have hw : cw k < cw b := by have h := i_not_le h65; rw [hb] at h; exact h
              have e := bstF_sl hp hb hw
              have := ih (k + 1) (by omega) (by omega)
              rw [e] at this
              exact this _

set_option maxHeartbeats 4000000 in
set_option maxRecDepth 20000 in
theorem ok_X8_proof (s what : Int32) (S : Mem) (hR : Rs S) (nr : Nat) (hnr : mI S 25 1 = nI nr) (hT : Tn nr (mA S 27)) : Ok yX8_proof cX8_proof 6 (some .int) 2 0 0 [.ref 25, .int s, .int what] S (RI (prV S nr s what) S) := by
  have h10 := pw10 hT.1
  refine Ok.of (by decide) (Nat.le_of_ble_eq_true rfl) rfl (fun κ C hx => ?_)
  have C : Cx RX8 cX8_proof 6 (some .int) 2 false _ κ := C
  refine g_aload_0 C dX8_proof_0 rfl ?_
  refine g_iload_1 C dX8_proof_1 rfl ?_
  refine g_cV1i C dX8_proof_2 rfl ml_X8_166 mz_X8_isSaying (ok_X8_isSaying _ S) (by decide) rfl rfl rfl rfl (Nat.le_of_ble_eq_true rfl) (fun hn2 => ?_)
  refine g_if_ne (tgt := 11) C dX8_proof_5 rfl (by decide) (fun h5 => ?_) (fun h5 => ?_)
  · skip
    refine g_iload_2 C dX8_proof_11 rfl ?_
    refine g_i2l C dX8_proof_12 rfl ?_
    refine g_lconst (v := 0) C dX8_proof_13 rfl (by decide) ?_
    refine g_lconst (v := 1) C dX8_proof_14 rfl (by decide) ?_
    refine g_cS3i C dX8_proof_15 rfl ml_X8_73 mz_X8_in (ok_X8_in _ _ _ _) (by decide) rfl rfl (Nat.le_of_ble_eq_true rfl) (fun hn15 => ?_)
    rw [show inL what.toInt64 0 1 = inI what 0 1 from inL_32 what 0 1]
    refine g_if_ne (tgt := 24) C dX8_proof_18 rfl (by decide) (fun h18 => ?_) (fun h18 => ?_)
    · skip
      refine g_iconst (v := -1) C dX8_proof_24 rfl (by decide) ?_
      refine g_istore_3 C rfl dX8_proof_25 rfl ?_
      refine g_iconst (v := 0) C dX8_proof_26 rfl (by decide) ?_
      refine g_istore_4 C rfl dX8_proof_27 rfl ?_
      refine lp_X8_proof C S hR nr hnr hT s what (fun v4 v5 => ?_) (2 ^ nr + 1) 0 (Nat.zero_le _) (by omega) _
      refine g_iload_3 C dX8_proof_112 rfl ?_
      refine g_if_lt (tgt := 121) C dX8_proof_113 rfl (by decide) (fun h113 => ?_) (fun h113 => ?_)
      · skip
        refine g_iload_3 C dX8_proof_121 rfl ?_
        refine g_goto (tgt := 129) C dX8_proof_122 (by decide) ?_
        exact g_iret C rfl dX8_proof_129 ⟨by unfold prV; rw [if_pos (nf_t (fun q => h5 ((bI_0 _).mpr q)))]; rw [if_pos (nf_t (fun q => h18 ((bI_0 _).mpr q)))]; rw [bst_none (by omega) h113]; rfl, rfl⟩
      · skip
        refine g_iload_2 C dX8_proof_116 rfl ?_
        refine g_iconst (v := 1) C dX8_proof_117 rfl (by decide) ?_
        refine g_icmp_ne (tgt := 125) C dX8_proof_118 rfl (by decide) (fun h118 => ?_) (fun h118 => ?_)
        · skip
          refine g_iload_3 C dX8_proof_125 rfl ?_
          refine g_cS1i C dX8_proof_126 rfl ml_X8_201 mz_X8_bits (ok_X8_bits _ _) (by decide) rfl rfl (Nat.le_of_ble_eq_true rfl) (fun hn126 => ?_)
          exact g_iret C rfl dX8_proof_129 ⟨by unfold prV; rw [if_pos (nf_t (fun q => h5 ((bI_0 _).mpr q)))]; rw [if_pos (nf_t (fun q => h18 ((bI_0 _).mpr q)))]; obtain ⟨b, hb⟩ := bst_some (by omega) h113; rw [hb, decide_eq_false h118]; rfl, rfl⟩
        · skip
          refine g_iload_3 C dX8_proof_121 rfl ?_
          refine g_goto (tgt := 129) C dX8_proof_122 (by decide) ?_
          exact g_iret C rfl dX8_proof_129 ⟨by unfold prV; rw [if_pos (nf_t (fun q => h5 ((bI_0 _).mpr q)))]; rw [if_pos (nf_t (fun q => h18 ((bI_0 _).mpr q)))]; obtain ⟨b, hb⟩ := bst_some (by omega) h113; rw [hb, decide_eq_true h118]; rfl, rfl⟩
    · skip
      refine g_ldc C dX8_proof_21 rfl kc_X8_82 ?_
      exact g_iret C rfl dX8_proof_23 ⟨by unfold prV; rw [if_pos (nf_t (fun q => h5 ((bI_0 _).mpr q)))]; rw [if_neg (by rw [(bI_0 _).mp h18]; decide)], rfl⟩
  · skip
    refine g_ldc C dX8_proof_8 rfl kc_X8_165 ?_
    exact g_iret C rfl dX8_proof_10 ⟨by unfold prV; rw [if_neg (by rw [(bI_0 _).mp h5]; decide)], rfl⟩

noncomputable def baP (S : Mem) (nr : Nat) (s : Int32) (k : Nat) : Bool := decide (nI k &&& mA S 29 2 = 0) && !hasB (clo nr (mA S 27) (mA S 28) ((alw (nI nr) (mA S 29 2)) &&& (nI k ^^^ (-1))) (mA S 29 0)) s
noncomputable def baV (S : Mem) (nr : Nat) (s : Int32) : Int32 := if sayB (mI S 25 0) s = true then oI (bstF (baP S nr s) cw (2 ^ nr)) else -1000000001
set_option maxHeartbeats 4000000 in
set_option maxRecDepth 20000 in
theorem lp_X8_barred {κ : Kx} {Φ : Option Value → Mem → Prop} (C : Cx RX8 cX8_barred 5 (some .int) 2 false Φ κ) (S : Mem) (hR : Rs S) (nr : Nat) (hnr : mI S 25 1 = nI nr) (hT : Tn nr (mA S 27)) (s : Int32) (hΦ : Φ (some (.int (oI (bstF (baP S nr s) cw (2 ^ nr))))) S) : ∀ (n k : Nat), k ≤ 2 ^ nr → 2 ^ nr + 1 ≤ k + n → ∀ v4 : Value, G κ 0 0 S 15 [.ref 25, .int s, .int (oI (bstF (baP S nr s) cw k)), .int (nI k), v4] [] := by
  have h10 := pw10 hT.1
  intro n
  induction n with
  | zero => intro k h1 h2; exact absurd h2 (by omega)
  | succ n ih =>
    intro k hk1 hk2 v4
    refine g_iload_3 C dX8_barred_15 rfl ?_
    refine g_iconst (v := 1) C dX8_barred_16 rfl (by decide) ?_
    refine g_aload_0 C dX8_barred_17 rfl ?_
    refine g_geti C 1 dX8_barred_18 rfl rfl rfl fl_X8_77 ?_
    rw [hnr]
    refine g_ishl C dX8_barred_21 rfl ?_
    rw [show (1 : Int32) <<< (nI nr &&& 31) = nI (2 ^ nr) from pw_nI nr (by have := hT.1; omega)]
    refine g_icmp_ge (tgt := 100) C dX8_barred_22 rfl (by decide) (fun h22 => ?_) (fun h22 => ?_)
    · skip
      have hk : k = 2 ^ nr := by have := n_ge (b := 2 ^ nr) h22 (by omega) (by omega); omega
      rw [hk]
      refine g_iload_2 C dX8_barred_100 rfl ?_
      exact g_iret C rfl dX8_barred_101 hΦ
    · skip
      refine g_iload_3 C dX8_barred_25 rfl ?_
      refine g_aload_0 C dX8_barred_26 rfl ?_
      refine g_getr C 5 dX8_barred_27 rfl rfl rfl fl_X8_19 (hR 25 5 29 rfl) ?_
      refine g_iconst (v := 2) C dX8_barred_30 rfl (by decide) ?_
      refine g_iald C dX8_barred_31 rfl rfl (n_in (k := 2) (N := 4) (by decide) (by decide)) ?_
      rw [show (mA S 29 (Int32.toNatClampNeg 2)) = mA S 29 2 from rfl]
      refine g_iand C dX8_barred_32 rfl ?_
      refine g_if_ne (tgt := 55) C dX8_barred_33 rfl (by decide) (fun h33 => ?_) (fun h33 => ?_)
      · skip
        refine g_iconst (v := 0) C dX8_barred_55 rfl (by decide) ?_
        refine g_istore_4 C rfl dX8_barred_56 rfl ?_
        refine g_iload_4 C dX8_barred_58 rfl ?_
        refine g_if_eq (tgt := 92) C dX8_barred_60 rfl (by decide) (fun h60 => ?_) (fun h60 => absurd rfl h60)
        refine g_iload_2 C dX8_barred_92 rfl ?_
        refine g_istore_2 C rfl dX8_barred_93 rfl ?_
        refine g_iinc_3 (z := 1) C rfl dX8_barred_94 rfl (by decide) ?_
        refine g_goto (tgt := 15) C dX8_barred_97 (by decide) ?_
        have hk : k < 2 ^ nr := n_lt (b := 2 ^ nr) h22 (by omega) (by omega)
        rw [nI_1]
        have e := bstF_s0 (P := (baP S nr s)) (wt := cw) (show baP S nr s k = false by unfold baP; rw [decide_eq_false h33]; rfl)
        have := ih (k + 1) (by omega) (by omega)
        rw [e] at this
        exact this _
      · skip
        refine g_iload_2 C dX8_barred_36 rfl ?_
        refine g_if_lt (tgt := 51) C dX8_barred_37 rfl (by decide) (fun h37 => ?_) (fun h37 => ?_)
        · skip
          refine g_iconst (v := 1) C dX8_barred_51 rfl (by decide) ?_
          refine g_goto (tgt := 56) C dX8_barred_52 (by decide) ?_
          refine g_istore_4 C rfl dX8_barred_56 rfl ?_
          refine g_iload_4 C dX8_barred_58 rfl ?_
          refine g_if_eq (tgt := 92) C dX8_barred_60 rfl (by decide) (fun h60 => absurd h60 (by decide)) (fun h60 => ?_)
          refine g_aload_0 C dX8_barred_63 rfl ?_
          refine g_aload_0 C dX8_barred_64 rfl ?_
          refine g_getr C 5 dX8_barred_65 rfl rfl rfl fl_X8_19 (hR 25 5 29 rfl) ?_
          refine g_iconst (v := 0) C dX8_barred_68 rfl (by decide) ?_
          refine g_iald C dX8_barred_69 rfl rfl (n_in (k := 0) (N := 4) (by decide) (by decide)) ?_
          rw [show (mA S 29 (Int32.toNatClampNeg 0)) = mA S 29 0 from rfl]
          refine g_aload_0 C dX8_barred_70 rfl ?_
          refine g_cV0i C dX8_barred_71 rfl ml_X8_149 mz_X8_allowed (ok_X8_allowed S hR) (by decide) rfl rfl rfl rfl (Nat.le_of_ble_eq_true rfl) (fun hn71 => ?_)
          rw [hnr]
          refine g_iload_3 C dX8_barred_74 rfl ?_
          refine g_iconst (v := -1) C dX8_barred_75 rfl (by decide) ?_
          refine g_ixor C dX8_barred_76 rfl ?_
          refine g_iand C dX8_barred_77 rfl ?_
          refine g_cV2i C dX8_barred_78 rfl ml_X8_152 mz_X8_close (ok_X8_close _ _ S hR nr hnr hT) (by decide) rfl rfl rfl rfl (Nat.le_of_ble_eq_true rfl) (fun hn78 => ?_)
          refine g_iload_1 C dX8_barred_81 rfl ?_
          refine g_cS2i C dX8_barred_82 rfl ml_X8_114 mz_X8_has (ok_X8_has _ _ _) (by decide) rfl rfl (Nat.le_of_ble_eq_true rfl) (fun hn82 => ?_)
          refine g_if_ne (tgt := 92) C dX8_barred_85 rfl (by decide) (fun h85 => ?_) (fun h85 => ?_)
          · skip
            refine g_iload_2 C dX8_barred_92 rfl ?_
            refine g_istore_2 C rfl dX8_barred_93 rfl ?_
            refine g_iinc_3 (z := 1) C rfl dX8_barred_94 rfl (by decide) ?_
            refine g_goto (tgt := 15) C dX8_barred_97 (by decide) ?_
            have hk : k < 2 ^ nr := n_lt (b := 2 ^ nr) h22 (by omega) (by omega)
            rw [nI_1]
            have e := bstF_s0 (P := (baP S nr s)) (wt := cw) (show baP S nr s k = false by unfold baP; rw [nf_t (fun q => h85 ((bI_0 _).mpr q))]; exact Bool.and_false _)
            have := ih (k + 1) (by omega) (by omega)
            rw [e] at this
            exact this _
          · skip
            refine g_iload_3 C dX8_barred_88 rfl ?_
            refine g_goto (tgt := 93) C dX8_barred_89 (by decide) ?_
            refine g_istore_2 C rfl dX8_barred_93 rfl ?_
            refine g_iinc_3 (z := 1) C rfl dX8_barred_94 rfl (by decide) ?_
            refine g_goto (tgt := 15) C dX8_barred_97 (by decide) ?_
            have hk : k < 2 ^ nr := n_lt (b := 2 ^ nr) h22 (by omega) (by omega)
            rw [nI_1]
            have hb := bst_none (by omega) h37
            have hp : baP S nr s k = true := by unfold baP; rw [decide_eq_true h33, (bI_0 _).mp h85]; rfl
            have e := bstF_sn hp hb
            have := ih (k + 1) (by omega) (by omega)
            rw [e] at this
            exact this _
        · skip
          refine g_iload_3 C dX8_barred_40 rfl ?_
          refine g_cS1i C dX8_barred_41 rfl ml_X8_201 mz_X8_bits (ok_X8_bits _ _) (by decide) rfl rfl (Nat.le_of_ble_eq_true rfl) (fun hn41 => ?_)
          refine g_iload_2 C dX8_barred_44 rfl ?_
          refine g_cS1i C dX8_barred_45 rfl ml_X8_201 mz_X8_bits (ok_X8_bits _ _) (by decide) rfl rfl (Nat.le_of_ble_eq_true rfl) (fun hn45 => ?_)
          refine g_icmp_ge (tgt := 55) C dX8_barred_48 rfl (by decide) (fun h48 => ?_) (fun h48 => ?_)
          · skip
            refine g_iconst (v := 0) C dX8_barred_55 rfl (by decide) ?_
            refine g_istore_4 C rfl dX8_barred_56 rfl ?_
            refine g_iload_4 C dX8_barred_58 rfl ?_
            refine g_if_eq (tgt := 92) C dX8_barred_60 rfl (by decide) (fun h60 => ?_) (fun h60 => absurd rfl h60)
            refine g_iload_2 C dX8_barred_92 rfl ?_
            refine g_istore_2 C rfl dX8_barred_93 rfl ?_
            refine g_iinc_3 (z := 1) C rfl dX8_barred_94 rfl (by decide) ?_
            refine g_goto (tgt := 15) C dX8_barred_97 (by decide) ?_
            have hk : k < 2 ^ nr := n_lt (b := 2 ^ nr) h22 (by omega) (by omega)
            rw [nI_1]
            obtain ⟨b, hb⟩ := bst_some (by omega) h37
            have hw : cw b ≤ cw k := by have h := h48; rw [hb] at h; exact h
            have e := bstF_sg (P := (baP S nr s)) (wt := cw) hb (i_not_lt hw)
            have := ih (k + 1) (by omega) (by omega)
            rw [e, ← hb] at this
            exact this _
          · skip
            refine g_iconst (v := 1) C dX8_barred_51 rfl (by decide) ?_
            refine g_goto (tgt := 56) C dX8_barred_52 (by decide) ?_
            refine g_istore_4 C rfl dX8_barred_56 rfl ?_
            refine g_iload_4 C dX8_barred_58 rfl ?_
            refine g_if_eq (tgt := 92) C dX8_barred_60 rfl (by decide) (fun h60 => absurd h60 (by decide)) (fun h60 => ?_)
            refine g_aload_0 C dX8_barred_63 rfl ?_
            refine g_aload_0 C dX8_barred_64 rfl ?_
            refine g_getr C 5 dX8_barred_65 rfl rfl rfl fl_X8_19 (hR 25 5 29 rfl) ?_
            refine g_iconst (v := 0) C dX8_barred_68 rfl (by decide) ?_
            refine g_iald C dX8_barred_69 rfl rfl (n_in (k := 0) (N := 4) (by decide) (by decide)) ?_
            rw [show (mA S 29 (Int32.toNatClampNeg 0)) = mA S 29 0 from rfl]
            refine g_aload_0 C dX8_barred_70 rfl ?_
            refine g_cV0i C dX8_barred_71 rfl ml_X8_149 mz_X8_allowed (ok_X8_allowed S hR) (by decide) rfl rfl rfl rfl (Nat.le_of_ble_eq_true rfl) (fun hn71 => ?_)
            rw [hnr]
            refine g_iload_3 C dX8_barred_74 rfl ?_
            refine g_iconst (v := -1) C dX8_barred_75 rfl (by decide) ?_
            refine g_ixor C dX8_barred_76 rfl ?_
            refine g_iand C dX8_barred_77 rfl ?_
            refine g_cV2i C dX8_barred_78 rfl ml_X8_152 mz_X8_close (ok_X8_close _ _ S hR nr hnr hT) (by decide) rfl rfl rfl rfl (Nat.le_of_ble_eq_true rfl) (fun hn78 => ?_)
            refine g_iload_1 C dX8_barred_81 rfl ?_
            refine g_cS2i C dX8_barred_82 rfl ml_X8_114 mz_X8_has (ok_X8_has _ _ _) (by decide) rfl rfl (Nat.le_of_ble_eq_true rfl) (fun hn82 => ?_)
            refine g_if_ne (tgt := 92) C dX8_barred_85 rfl (by decide) (fun h85 => ?_) (fun h85 => ?_)
            · skip
              refine g_iload_2 C dX8_barred_92 rfl ?_
              refine g_istore_2 C rfl dX8_barred_93 rfl ?_
              refine g_iinc_3 (z := 1) C rfl dX8_barred_94 rfl (by decide) ?_
              refine g_goto (tgt := 15) C dX8_barred_97 (by decide) ?_
              have hk : k < 2 ^ nr := n_lt (b := 2 ^ nr) h22 (by omega) (by omega)
              rw [nI_1]
              have e := bstF_s0 (P := (baP S nr s)) (wt := cw) (show baP S nr s k = false by unfold baP; rw [nf_t (fun q => h85 ((bI_0 _).mpr q))]; exact Bool.and_false _)
              have := ih (k + 1) (by omega) (by omega)
              rw [e] at this
              exact this _
            · skip
              refine g_iload_3 C dX8_barred_88 rfl ?_
              refine g_goto (tgt := 93) C dX8_barred_89 (by decide) ?_
              refine g_istore_2 C rfl dX8_barred_93 rfl ?_
              refine g_iinc_3 (z := 1) C rfl dX8_barred_94 rfl (by decide) ?_
              refine g_goto (tgt := 15) C dX8_barred_97 (by decide) ?_
              have hk : k < 2 ^ nr := n_lt (b := 2 ^ nr) h22 (by omega) (by omega)
              rw [nI_1]
              obtain ⟨b, hb⟩ := bst_some (by omega) h37
              have hp : baP S nr s k = true := by unfold baP; rw [decide_eq_true h33, (bI_0 _).mp h85]; rfl
              have hw : cw k < cw b := by have h := i_not_le h48; rw [hb] at h; exact h
              have e := bstF_sl hp hb hw
              have := ih (k + 1) (by omega) (by omega)
              rw [e] at this
              exact this _

set_option maxHeartbeats 4000000 in
set_option maxRecDepth 20000 in
theorem ok_X8_barred (s : Int32) (S : Mem) (hR : Rs S) (nr : Nat) (hnr : mI S 25 1 = nI nr) (hT : Tn nr (mA S 27)) : Ok yX8_barred cX8_barred 5 (some .int) 2 0 0 [.ref 25, .int s] S (RI (baV S nr s) S) := by
  refine Ok.of (by decide) (Nat.le_of_ble_eq_true rfl) rfl (fun κ C hx => ?_)
  have C : Cx RX8 cX8_barred 5 (some .int) 2 false _ κ := C
  refine g_aload_0 C dX8_barred_0 rfl ?_
  refine g_iload_1 C dX8_barred_1 rfl ?_
  refine g_cV1i C dX8_barred_2 rfl ml_X8_166 mz_X8_isSaying (ok_X8_isSaying _ S) (by decide) rfl rfl rfl rfl (Nat.le_of_ble_eq_true rfl) (fun hn2 => ?_)
  refine g_if_ne (tgt := 11) C dX8_barred_5 rfl (by decide) (fun h5 => ?_) (fun h5 => ?_)
  · skip
    refine g_iconst (v := -1) C dX8_barred_11 rfl (by decide) ?_
    refine g_istore_2 C rfl dX8_barred_12 rfl ?_
    refine g_iconst (v := 0) C dX8_barred_13 rfl (by decide) ?_
    refine g_istore_3 C rfl dX8_barred_14 rfl ?_
    exact lp_X8_barred C S hR nr hnr hT s ⟨by unfold baV; rw [if_pos (nf_t (fun q => h5 ((bI_0 _).mpr q)))], rfl⟩ (2 ^ nr + 1) 0 (Nat.zero_le _) (by omega) _
  · skip
    refine g_ldc C dX8_barred_8 rfl kc_X8_165 ?_
    exact g_iret C rfl dX8_barred_10 ⟨by unfold baV; rw [if_neg (by rw [(bI_0 _).mp h5]; decide)], rfl⟩
end
section
theorem one_df (k : Int32) : (1 : Int32) <<< (k &&& 31) = one k := rfl
def Cs (nr : Nat) (co : Nat → Int32) : Prop := ∀ r, r < nr → ∃ c, c ≤ 99 ∧ co r = nI c
theorem cst_small {nr : Nat} {co : Nat → Int32} (h : Cs nr co) (x : Int32) : ∀ r, r ≤ nr → ∃ c, c ≤ 99 * r ∧ cstF co x r = nI c
  | 0, _ => ⟨0, Nat.le_refl 0, rfl⟩
  | r + 1, hr => by
    obtain ⟨c, hc, e⟩ := cst_small h x r (by omega)
    obtain ⟨c2, hc2, e2⟩ := h r (by omega)
    by_cases hb : hasB x (nI r) = true
    · refine ⟨c + c2, by omega, ?_⟩
      show cstF co x r + (if hasB x (nI r) = true then co r else 0) = _
      rw [if_pos hb, e, e2, nI_add]
    · refine ⟨c, by omega, ?_⟩
      show cstF co x r + (if hasB x (nI r) = true then co r else 0) = _
      rw [if_neg hb, e]
      show nI c + nI 0 = nI c
      rw [nI_add, Nat.add_zero]
noncomputable def guP (S : Mem) (nr k : Nat) : Bool := decide (nI k &&& mA S 29 2 = 0) && decide (qrF (clo nr (mA S 27) (mA S 28) ((alw (nI nr) (mA S 29 2)) &&& (nI k ^^^ (-1))) (mA S 29 0)) 8 = 0)
def guW (S : Mem) (nr k : Nat) : Int32 := cstF (mA S 26) (nI k) nr
def lstI (o : Option Nat) (f : Nat → Int32) : Int32 := match o with | none => 100000 | some b => f b
noncomputable def guV (S : Mem) (nr : Nat) (what : Int32) : Int32 := if inI what 0 1 = true then selV (bstF (guP S nr) (guW S nr) (2 ^ nr)) (decide (what = 0)) (guW S nr) else -1000000002
theorem guW_small {S : Mem} {nr : Nat} (h10 : nr ≤ 10) (hC : Cs nr (mA S 26)) (k : Nat) : ¬ (100000 : Int32) ≤ guW S nr k := by
  obtain ⟨c, hc, e⟩ := cst_small hC (nI k) nr (Nat.le_refl nr)
  unfold guW
  rw [e]
  exact nI_ge (b := 100000) (by omega) (by decide)
set_option maxHeartbeats 4000000 in
set_option maxRecDepth 20000 in
theorem lp_X8_giveUp {κ : Kx} {Φ : Option Value → Mem → Prop} (C : Cx RX8 cX8_giveUp 6 (some .int) 2 false Φ κ) (S : Mem) (hR : Rs S) (nr : Nat) (hnr : mI S 25 1 = nI nr) (hT : Tn nr (mA S 27)) (hC : Cs nr (mA S 26)) (what : Int32) (K : ∀ v4 v5 : Value, G κ 0 0 S 107 [.ref 25, .int what, .int (oI (bstF (guP S nr) (guW S nr) (2 ^ nr))), .int (lstI (bstF (guP S nr) (guW S nr) (2 ^ nr)) (guW S nr)), v4, v5] []) : ∀ (n k : Nat), k ≤ 2 ^ nr → 2 ^ nr + 1 ≤ k + n → ∀ v5 : Value, G κ 0 0 S 21 [.ref 25, .int what, .int (oI (bstF (guP S nr) (guW S nr) k)), .int (lstI (bstF (guP S nr) (guW S nr) k) (guW S nr)), .int (nI k), v5] [] := by
  have h10 := pw10 hT.1
  intro n
  induction n with
  | zero => intro k h1 h2; exact absurd h2 (by omega)
  | succ n ih =>
    intro k hk1 hk2 v5
    refine g_iload_4 C dX8_giveUp_21 rfl ?_
    refine g_iconst (v := 1) C dX8_giveUp_23 rfl (by decide) ?_
    refine g_aload_0 C dX8_giveUp_24 rfl ?_
    refine g_geti C 1 dX8_giveUp_25 rfl rfl rfl fl_X8_77 ?_
    rw [hnr]
    refine g_ishl C dX8_giveUp_28 rfl ?_
    rw [show (1 : Int32) <<< (nI nr &&& 31) = nI (2 ^ nr) from pw_nI nr (by have := hT.1; omega)]
    refine g_icmp_ge (tgt := 107) C dX8_giveUp_29 rfl (by decide) (fun h29 => ?_) (fun h29 => ?_)
    · skip
      have hk : k = 2 ^ nr := by have := n_ge (b := 2 ^ nr) h29 (by omega) (by omega); omega
      rw [hk]
      exact K _ _
    · skip
      refine g_iload_4 C dX8_giveUp_32 rfl ?_
      refine g_aload_0 C dX8_giveUp_34 rfl ?_
      refine g_getr C 5 dX8_giveUp_35 rfl rfl rfl fl_X8_19 (hR 25 5 29 rfl) ?_
      refine g_iconst (v := 2) C dX8_giveUp_38 rfl (by decide) ?_
      refine g_iald C dX8_giveUp_39 rfl rfl (n_in (k := 2) (N := 4) (by decide) (by decide)) ?_
      rw [show (mA S 29 (Int32.toNatClampNeg 2)) = mA S 29 2 from rfl]
      refine g_iand C dX8_giveUp_40 rfl ?_
      refine g_if_ne (tgt := 58) C dX8_giveUp_41 rfl (by decide) (fun h41 => ?_) (fun h41 => ?_)
      · skip
        refine g_iconst (v := 0) C dX8_giveUp_58 rfl (by decide) ?_
        refine g_istore_5 C rfl dX8_giveUp_59 rfl ?_
        refine g_iload_5 C dX8_giveUp_61 rfl ?_
        refine g_if_eq (tgt := 101) C dX8_giveUp_63 rfl (by decide) (fun h63 => ?_) (fun h63 => absurd rfl h63)
        refine g_iinc_4 (z := 1) C rfl dX8_giveUp_101 rfl (by decide) ?_
        refine g_goto (tgt := 21) C dX8_giveUp_104 (by decide) ?_
        have hk : k < 2 ^ nr := n_lt (b := 2 ^ nr) h29 (by omega) (by omega)
        rw [nI_1]
        have e := bstF_s0 (P := guP S nr) (wt := guW S nr) (show guP S nr k = false by unfold guP; rw [decide_eq_false h41]; rfl)
        have := ih (k + 1) (by omega) (by omega)
        rw [e] at this
        exact this _
      · skip
        refine g_aload_0 C dX8_giveUp_44 rfl ?_
        refine g_iload_4 C dX8_giveUp_45 rfl ?_
        refine g_cV1i C dX8_giveUp_47 rfl ml_X8_205 mz_X8_costOf (ok_X8_costOf _ S hR nr hnr hT.1) (by decide) rfl rfl rfl rfl (Nat.le_of_ble_eq_true rfl) (fun hn47 => ?_)
        refine g_iload_3 C dX8_giveUp_50 rfl ?_
        refine g_icmp_ge (tgt := 58) C dX8_giveUp_51 rfl (by decide) (fun h51 => ?_) (fun h51 => ?_)
        · skip
          refine g_iconst (v := 0) C dX8_giveUp_58 rfl (by decide) ?_
          refine g_istore_5 C rfl dX8_giveUp_59 rfl ?_
          refine g_iload_5 C dX8_giveUp_61 rfl ?_
          refine g_if_eq (tgt := 101) C dX8_giveUp_63 rfl (by decide) (fun h63 => ?_) (fun h63 => absurd rfl h63)
          refine g_iinc_4 (z := 1) C rfl dX8_giveUp_101 rfl (by decide) ?_
          refine g_goto (tgt := 21) C dX8_giveUp_104 (by decide) ?_
          have hk : k < 2 ^ nr := n_lt (b := 2 ^ nr) h29 (by omega) (by omega)
          rw [nI_1]
          cases hb : bstF (guP S nr) (guW S nr) k with
          | none =>
            rw [hb] at h51
            exact absurd h51 (guW_small hT.1 hC k)
          | some b =>
            have hw : guW S nr b ≤ guW S nr k := by have h := h51; rw [hb] at h; exact h
            have e := bstF_sg (P := guP S nr) (wt := guW S nr) hb (i_not_lt hw)
            have := ih (k + 1) (by omega) (by omega)
            rw [e] at this
            exact this _
        · skip
          refine g_iconst (v := 1) C dX8_giveUp_54 rfl (by decide) ?_
          refine g_goto (tgt := 59) C dX8_giveUp_55 (by decide) ?_
          refine g_istore_5 C rfl dX8_giveUp_59 rfl ?_
          refine g_iload_5 C dX8_giveUp_61 rfl ?_
          refine g_if_eq (tgt := 101) C dX8_giveUp_63 rfl (by decide) (fun h63 => absurd h63 (by decide)) (fun h63 => ?_)
          refine g_aload_0 C dX8_giveUp_66 rfl ?_
          refine g_aload_0 C dX8_giveUp_67 rfl ?_
          refine g_getr C 5 dX8_giveUp_68 rfl rfl rfl fl_X8_19 (hR 25 5 29 rfl) ?_
          refine g_iconst (v := 0) C dX8_giveUp_71 rfl (by decide) ?_
          refine g_iald C dX8_giveUp_72 rfl rfl (n_in (k := 0) (N := 4) (by decide) (by decide)) ?_
          rw [show (mA S 29 (Int32.toNatClampNeg 0)) = mA S 29 0 from rfl]
          refine g_aload_0 C dX8_giveUp_73 rfl ?_
          refine g_cV0i C dX8_giveUp_74 rfl ml_X8_149 mz_X8_allowed (ok_X8_allowed S hR) (by decide) rfl rfl rfl rfl (Nat.le_of_ble_eq_true rfl) (fun hn74 => ?_)
          rw [hnr]
          refine g_iload_4 C dX8_giveUp_77 rfl ?_
          refine g_iconst (v := -1) C dX8_giveUp_79 rfl (by decide) ?_
          refine g_ixor C dX8_giveUp_80 rfl ?_
          refine g_iand C dX8_giveUp_81 rfl ?_
          refine g_cV2i C dX8_giveUp_82 rfl ml_X8_152 mz_X8_close (ok_X8_close _ _ S hR nr hnr hT) (by decide) rfl rfl rfl rfl (Nat.le_of_ble_eq_true rfl) (fun hn82 => ?_)
          refine g_cS1i C dX8_giveUp_85 rfl ml_X8_158 mz_X8_quarrels (ok_X8_quarrels _ _) (by decide) rfl rfl (Nat.le_of_ble_eq_true rfl) (fun hn85 => ?_)
          refine g_if_ne (tgt := 101) C dX8_giveUp_88 rfl (by decide) (fun h88 => ?_) (fun h88 => ?_)
          · skip
            refine g_iinc_4 (z := 1) C rfl dX8_giveUp_101 rfl (by decide) ?_
            refine g_goto (tgt := 21) C dX8_giveUp_104 (by decide) ?_
            have hk : k < 2 ^ nr := n_lt (b := 2 ^ nr) h29 (by omega) (by omega)
            rw [nI_1]
            have e := bstF_s0 (P := guP S nr) (wt := guW S nr) (show guP S nr k = false by unfold guP; rw [decide_eq_false h88]; exact Bool.and_false _)
            have := ih (k + 1) (by omega) (by omega)
            rw [e] at this
            exact this _
          · skip
            refine g_iload_4 C dX8_giveUp_91 rfl ?_
            refine g_istore_2 C rfl dX8_giveUp_93 rfl ?_
            refine g_aload_0 C dX8_giveUp_94 rfl ?_
            refine g_iload_4 C dX8_giveUp_95 rfl ?_
            refine g_cV1i C dX8_giveUp_97 rfl ml_X8_205 mz_X8_costOf (ok_X8_costOf _ S hR nr hnr hT.1) (by decide) rfl rfl rfl rfl (Nat.le_of_ble_eq_true rfl) (fun hn97 => ?_)
            refine g_istore_3 C rfl dX8_giveUp_100 rfl ?_
            refine g_iinc_4 (z := 1) C rfl dX8_giveUp_101 rfl (by decide) ?_
            refine g_goto (tgt := 21) C dX8_giveUp_104 (by decide) ?_
            have hk : k < 2 ^ nr := n_lt (b := 2 ^ nr) h29 (by omega) (by omega)
            rw [nI_1]
            have hp : guP S nr k = true := by unfold guP; rw [decide_eq_true h41, decide_eq_true h88]; rfl
            have e : bstF (guP S nr) (guW S nr) (k + 1) = some k := by
              cases hb : bstF (guP S nr) (guW S nr) k with
              | none => exact bstF_sn hp hb
              | some b =>
                have hw : guW S nr k < guW S nr b := by have h := i_not_le h51; rw [hb] at h; exact h
                exact bstF_sl hp hb hw
            have := ih (k + 1) (by omega) (by omega)
            rw [e] at this
            exact this _

set_option maxHeartbeats 4000000 in
set_option maxRecDepth 20000 in
theorem ok_X8_giveUp (what : Int32) (S : Mem) (hR : Rs S) (nr : Nat) (hnr : mI S 25 1 = nI nr) (hT : Tn nr (mA S 27)) (hC : Cs nr (mA S 26)) : Ok yX8_giveUp cX8_giveUp 6 (some .int) 2 0 0 [.ref 25, .int what] S (RI (guV S nr what) S) := by
  have h10 := pw10 hT.1
  refine Ok.of (by decide) (Nat.le_of_ble_eq_true rfl) rfl (fun κ C hx => ?_)
  have C : Cx RX8 cX8_giveUp 6 (some .int) 2 false _ κ := C
  refine g_iload_1 C dX8_giveUp_0 rfl ?_
  refine g_i2l C dX8_giveUp_1 rfl ?_
  refine g_lconst (v := 0) C dX8_giveUp_2 rfl (by decide) ?_
  refine g_lconst (v := 1) C dX8_giveUp_3 rfl (by decide) ?_
  refine g_cS3i C dX8_giveUp_4 rfl ml_X8_73 mz_X8_in (ok_X8_in _ _ _ _) (by decide) rfl rfl (Nat.le_of_ble_eq_true rfl) (fun hn4 => ?_)
  rw [show inL what.toInt64 0 1 = inI what 0 1 from inL_32 what 0 1]
  refine g_if_ne (tgt := 13) C dX8_giveUp_7 rfl (by decide) (fun h7 => ?_) (fun h7 => ?_)
  · skip
    refine g_iconst (v := -1) C dX8_giveUp_13 rfl (by decide) ?_
    refine g_istore_2 C rfl dX8_giveUp_14 rfl ?_
    refine g_ldc C dX8_giveUp_15 rfl kc_X8_204 ?_
    refine g_istore_3 C rfl dX8_giveUp_17 rfl ?_
    refine g_iconst (v := 0) C dX8_giveUp_18 rfl (by decide) ?_
    refine g_istore_4 C rfl dX8_giveUp_19 rfl ?_
    refine lp_X8_giveUp C S hR nr hnr hT hC what (fun v4 v5 => ?_) (2 ^ nr + 1) 0 (Nat.zero_le _) (by omega) _
    refine g_iload_2 C dX8_giveUp_107 rfl ?_
    refine g_if_lt (tgt := 115) C dX8_giveUp_108 rfl (by decide) (fun h108 => ?_) (fun h108 => ?_)
    · skip
      refine g_iload_2 C dX8_giveUp_115 rfl ?_
      refine g_goto (tgt := 120) C dX8_giveUp_116 (by decide) ?_
      exact g_iret C rfl dX8_giveUp_120 ⟨by unfold guV; rw [if_pos (nf_t (fun q => h7 ((bI_0 _).mpr q)))]; rw [bst_none (by omega) h108]; rfl, rfl⟩
    · skip
      refine g_iload_1 C dX8_giveUp_111 rfl ?_
      refine g_if_ne (tgt := 119) C dX8_giveUp_112 rfl (by decide) (fun h112 => ?_) (fun h112 => ?_)
      · skip
        refine g_iload_3 C dX8_giveUp_119 rfl ?_
        exact g_iret C rfl dX8_giveUp_120 ⟨by unfold guV; rw [if_pos (nf_t (fun q => h7 ((bI_0 _).mpr q)))]; obtain ⟨b, hb⟩ := bst_some (by omega) h108; rw [hb, decide_eq_false h112]; rfl, rfl⟩
      · skip
        refine g_iload_2 C dX8_giveUp_115 rfl ?_
        refine g_goto (tgt := 120) C dX8_giveUp_116 (by decide) ?_
        exact g_iret C rfl dX8_giveUp_120 ⟨by unfold guV; rw [if_pos (nf_t (fun q => h7 ((bI_0 _).mpr q)))]; obtain ⟨b, hb⟩ := bst_some (by omega) h108; rw [hb, decide_eq_true h112]; rfl, rfl⟩
  · skip
    refine g_ldc C dX8_giveUp_10 rfl kc_X8_82 ?_
    exact g_iret C rfl dX8_giveUp_12 ⟨by unfold guV; rw [if_neg (by rw [(bI_0 _).mp h7]; decide)], rfl⟩

noncomputable def woP (S : Mem) (nr : Nat) (s : Int32) (k : Nat) : Bool := decide (nI k &&& (one s ||| one (denI s)) = 0) && (decide (cw k < 4) && dwB S nr (nI k) s)
noncomputable def woV (S : Mem) (nr th : Nat) (s : Int32) : Int32 := if sayB (mI S 25 0) s = true then oI (bstF (woP S nr s) cw (2 ^ (2 * th))) else -1000000001
set_option maxHeartbeats 4000000 in
set_option maxRecDepth 20000 in
theorem lp_X8_words {κ : Kx} {Φ : Option Value → Mem → Prop} (C : Cx RX8 cX8_words 7 (some .int) 3 false Φ κ) (S : Mem) (hR : Rs S) (nr : Nat) (hnr : mI S 25 1 = nI nr) (hT : Tn nr (mA S 27)) (th : Nat) (hth : mI S 25 0 = nI th) (h8 : th ≤ 8) (s : Int32) (hΦ : Φ (some (.int (oI (bstF (woP S nr s) cw (2 ^ (2 * th)))))) S) : ∀ (n k : Nat), k ≤ 2 ^ (2 * th) → 2 ^ (2 * th) + 1 ≤ k + n → ∀ v5 v6 : Value, G κ 0 0 S 27 [.ref 25, .int s, .int (one s ||| one (denI s)), .int (oI (bstF (woP S nr s) cw k)), .int (nI k), v5, v6] [] := by
  have h10 := pw16 h8
  intro n
  induction n with
  | zero => intro k h1 h2; exact absurd h2 (by omega)
  | succ n ih =>
    intro k hk1 hk2 v5 v6
    refine g_iload_4 C dX8_words_27 rfl ?_
    refine g_iconst (v := 1) C dX8_words_29 rfl (by decide) ?_
    refine g_iconst (v := 2) C dX8_words_30 rfl (by decide) ?_
    refine g_aload_0 C dX8_words_31 rfl ?_
    refine g_geti C 0 dX8_words_32 rfl rfl rfl fl_X8_70 ?_
    rw [hth]
    refine g_imul C dX8_words_35 rfl ?_
    refine g_ishl C dX8_words_36 rfl ?_
    rw [show (1 : Int32) <<< ((2 * nI th) &&& 31) = nI (2 ^ (2 * th)) from by rw [two_nI th (by omega)]; exact pw_nI (2 * th) (by omega)]
    refine g_icmp_ge (tgt := 108) C dX8_words_37 rfl (by decide) (fun h37 => ?_) (fun h37 => ?_)
    · skip
      have hk : k = 2 ^ (2 * th) := by have := n_ge (b := 2 ^ (2 * th)) h37 (by omega) (by omega); omega
      rw [hk]
      refine g_iload_3 C dX8_words_108 rfl ?_
      exact g_iret C rfl dX8_words_109 hΦ
    · skip
      refine g_iload_4 C dX8_words_40 rfl ?_
      refine g_cS1i C dX8_words_42 rfl ml_X8_201 mz_X8_bits (ok_X8_bits _ _) (by decide) rfl rfl (Nat.le_of_ble_eq_true rfl) (fun hn42 => ?_)
      refine g_istore_5 C rfl dX8_words_45 rfl ?_
      refine g_iload_4 C dX8_words_47 rfl ?_
      refine g_iload_2 C dX8_words_49 rfl ?_
      refine g_iand C dX8_words_50 rfl ?_
      refine g_if_ne (tgt := 77) C dX8_words_51 rfl (by decide) (fun h51 => ?_) (fun h51 => ?_)
      · skip
        refine g_iconst (v := 0) C dX8_words_77 rfl (by decide) ?_
        refine g_istore_6 C rfl dX8_words_78 rfl ?_
        refine g_iload_6 C dX8_words_80 rfl ?_
        refine g_if_eq (tgt := 100) C dX8_words_82 rfl (by decide) (fun h82 => ?_) (fun h82 => absurd rfl h82)
        refine g_iload_3 C dX8_words_100 rfl ?_
        refine g_istore_3 C rfl dX8_words_101 rfl ?_
        refine g_iinc_4 (z := 1) C rfl dX8_words_102 rfl (by decide) ?_
        refine g_goto (tgt := 27) C dX8_words_105 (by decide) ?_
        have hk : k < 2 ^ (2 * th) := n_lt (b := 2 ^ (2 * th)) h37 (by omega) (by omega)
        rw [nI_1]
        have e := bstF_s0 (P := (woP S nr s)) (wt := cw) (show woP S nr s k = false by unfold woP; rw [decide_eq_false h51]; rfl)
        have := ih (k + 1) (by omega) (by omega)
        rw [e] at this
        exact this _ _
      · skip
        refine g_iload_5 C dX8_words_54 rfl ?_
        refine g_iconst (v := 4) C dX8_words_56 rfl (by decide) ?_
        refine g_icmp_ge (tgt := 77) C dX8_words_57 rfl (by decide) (fun h57 => ?_) (fun h57 => ?_)
        · skip
          refine g_iconst (v := 0) C dX8_words_77 rfl (by decide) ?_
          refine g_istore_6 C rfl dX8_words_78 rfl ?_
          refine g_iload_6 C dX8_words_80 rfl ?_
          refine g_if_eq (tgt := 100) C dX8_words_82 rfl (by decide) (fun h82 => ?_) (fun h82 => absurd rfl h82)
          refine g_iload_3 C dX8_words_100 rfl ?_
          refine g_istore_3 C rfl dX8_words_101 rfl ?_
          refine g_iinc_4 (z := 1) C rfl dX8_words_102 rfl (by decide) ?_
          refine g_goto (tgt := 27) C dX8_words_105 (by decide) ?_
          have hk : k < 2 ^ (2 * th) := n_lt (b := 2 ^ (2 * th)) h37 (by omega) (by omega)
          rw [nI_1]
          have e := bstF_s0 (P := (woP S nr s)) (wt := cw) (show woP S nr s k = false by unfold woP; rw [decide_eq_false (p := cw k < 4) (i_not_lt h57), Bool.false_and, Bool.and_false])
          have := ih (k + 1) (by omega) (by omega)
          rw [e] at this
          exact this _ _
        · skip
          refine g_iload_3 C dX8_words_60 rfl ?_
          refine g_if_lt (tgt := 73) C dX8_words_61 rfl (by decide) (fun h61 => ?_) (fun h61 => ?_)
          · skip
            refine g_iconst (v := 1) C dX8_words_73 rfl (by decide) ?_
            refine g_goto (tgt := 78) C dX8_words_74 (by decide) ?_
            refine g_istore_6 C rfl dX8_words_78 rfl ?_
            refine g_iload_6 C dX8_words_80 rfl ?_
            refine g_if_eq (tgt := 100) C dX8_words_82 rfl (by decide) (fun h82 => absurd h82 (by decide)) (fun h82 => ?_)
            refine g_aload_0 C dX8_words_85 rfl ?_
            refine g_iload_4 C dX8_words_86 rfl ?_
            refine g_iload_1 C dX8_words_88 rfl ?_
            refine g_cV2i C dX8_words_89 rfl ml_X8_208 mz_X8_doWords (ok_X8_doWords _ _ S hR nr hnr hT) (by decide) rfl rfl rfl rfl (Nat.le_of_ble_eq_true rfl) (fun hn89 => ?_)
            refine g_if_eq (tgt := 100) C dX8_words_92 rfl (by decide) (fun h92 => ?_) (fun h92 => ?_)
            · skip
              refine g_iload_3 C dX8_words_100 rfl ?_
              refine g_istore_3 C rfl dX8_words_101 rfl ?_
              refine g_iinc_4 (z := 1) C rfl dX8_words_102 rfl (by decide) ?_
              refine g_goto (tgt := 27) C dX8_words_105 (by decide) ?_
              have hk : k < 2 ^ (2 * th) := n_lt (b := 2 ^ (2 * th)) h37 (by omega) (by omega)
              rw [nI_1]
              have e := bstF_s0 (P := (woP S nr s)) (wt := cw) (show woP S nr s k = false by unfold woP; rw [(bI_0 _).mp h92, Bool.and_false, Bool.and_false])
              have := ih (k + 1) (by omega) (by omega)
              rw [e] at this
              exact this _ _
            · skip
              refine g_iload_4 C dX8_words_95 rfl ?_
              refine g_goto (tgt := 101) C dX8_words_97 (by decide) ?_
              refine g_istore_3 C rfl dX8_words_101 rfl ?_
              refine g_iinc_4 (z := 1) C rfl dX8_words_102 rfl (by decide) ?_
              refine g_goto (tgt := 27) C dX8_words_105 (by decide) ?_
              have hk : k < 2 ^ (2 * th) := n_lt (b := 2 ^ (2 * th)) h37 (by omega) (by omega)
              rw [nI_1]
              have hb := bst_none (by omega) h61
              have hp : woP S nr s k = true := by unfold woP; rw [decide_eq_true h51, decide_eq_true (p := cw k < 4) (i_not_le h57), nf_t (fun q => h92 ((bI_0 _).mpr q))]; rfl
              have e := bstF_sn hp hb
              have := ih (k + 1) (by omega) (by omega)
              rw [e] at this
              exact this _ _
          · skip
            refine g_iload_5 C dX8_words_64 rfl ?_
            refine g_iload_3 C dX8_words_66 rfl ?_
            refine g_cS1i C dX8_words_67 rfl ml_X8_201 mz_X8_bits (ok_X8_bits _ _) (by decide) rfl rfl (Nat.le_of_ble_eq_true rfl) (fun hn67 => ?_)
            refine g_icmp_ge (tgt := 77) C dX8_words_70 rfl (by decide) (fun h70 => ?_) (fun h70 => ?_)
            · skip
              refine g_iconst (v := 0) C dX8_words_77 rfl (by decide) ?_
              refine g_istore_6 C rfl dX8_words_78 rfl ?_
              refine g_iload_6 C dX8_words_80 rfl ?_
              refine g_if_eq (tgt := 100) C dX8_words_82 rfl (by decide) (fun h82 => ?_) (fun h82 => absurd rfl h82)
              refine g_iload_3 C dX8_words_100 rfl ?_
              refine g_istore_3 C rfl dX8_words_101 rfl ?_
              refine g_iinc_4 (z := 1) C rfl dX8_words_102 rfl (by decide) ?_
              refine g_goto (tgt := 27) C dX8_words_105 (by decide) ?_
              have hk : k < 2 ^ (2 * th) := n_lt (b := 2 ^ (2 * th)) h37 (by omega) (by omega)
              rw [nI_1]
              obtain ⟨b, hb⟩ := bst_some (by omega) h61
              have hw : cw b ≤ cw k := by have h := h70; rw [hb] at h; exact h
              have e := bstF_sg (P := (woP S nr s)) (wt := cw) hb (i_not_lt hw)
              have := ih (k + 1) (by omega) (by omega)
              rw [e, ← hb] at this
              exact this _ _
            · skip
              refine g_iconst (v := 1) C dX8_words_73 rfl (by decide) ?_
              refine g_goto (tgt := 78) C dX8_words_74 (by decide) ?_
              refine g_istore_6 C rfl dX8_words_78 rfl ?_
              refine g_iload_6 C dX8_words_80 rfl ?_
              refine g_if_eq (tgt := 100) C dX8_words_82 rfl (by decide) (fun h82 => absurd h82 (by decide)) (fun h82 => ?_)
              refine g_aload_0 C dX8_words_85 rfl ?_
              refine g_iload_4 C dX8_words_86 rfl ?_
              refine g_iload_1 C dX8_words_88 rfl ?_
              refine g_cV2i C dX8_words_89 rfl ml_X8_208 mz_X8_doWords (ok_X8_doWords _ _ S hR nr hnr hT) (by decide) rfl rfl rfl rfl (Nat.le_of_ble_eq_true rfl) (fun hn89 => ?_)
              refine g_if_eq (tgt := 100) C dX8_words_92 rfl (by decide) (fun h92 => ?_) (fun h92 => ?_)
              · skip
                refine g_iload_3 C dX8_words_100 rfl ?_
                refine g_istore_3 C rfl dX8_words_101 rfl ?_
                refine g_iinc_4 (z := 1) C rfl dX8_words_102 rfl (by decide) ?_
                refine g_goto (tgt := 27) C dX8_words_105 (by decide) ?_
                have hk : k < 2 ^ (2 * th) := n_lt (b := 2 ^ (2 * th)) h37 (by omega) (by omega)
                rw [nI_1]
                have e := bstF_s0 (P := (woP S nr s)) (wt := cw) (show woP S nr s k = false by unfold woP; rw [(bI_0 _).mp h92, Bool.and_false, Bool.and_false])
                have := ih (k + 1) (by omega) (by omega)
                rw [e] at this
                exact this _ _
              · skip
                refine g_iload_4 C dX8_words_95 rfl ?_
                refine g_goto (tgt := 101) C dX8_words_97 (by decide) ?_
                refine g_istore_3 C rfl dX8_words_101 rfl ?_
                refine g_iinc_4 (z := 1) C rfl dX8_words_102 rfl (by decide) ?_
                refine g_goto (tgt := 27) C dX8_words_105 (by decide) ?_
                have hk : k < 2 ^ (2 * th) := n_lt (b := 2 ^ (2 * th)) h37 (by omega) (by omega)
                rw [nI_1]
                obtain ⟨b, hb⟩ := bst_some (by omega) h61
                have hp : woP S nr s k = true := by unfold woP; rw [decide_eq_true h51, decide_eq_true (p := cw k < 4) (i_not_le h57), nf_t (fun q => h92 ((bI_0 _).mpr q))]; rfl
                have hw : cw k < cw b := by have h := i_not_le h70; rw [hb] at h; exact h
                have e := bstF_sl hp hb hw
                have := ih (k + 1) (by omega) (by omega)
                rw [e] at this
                exact this _ _

set_option maxHeartbeats 4000000 in
set_option maxRecDepth 20000 in
theorem ok_X8_words (s : Int32) (S : Mem) (hR : Rs S) (nr : Nat) (hnr : mI S 25 1 = nI nr) (hT : Tn nr (mA S 27)) (th : Nat) (hth : mI S 25 0 = nI th) (h8 : th ≤ 8) : Ok yX8_words cX8_words 7 (some .int) 3 0 0 [.ref 25, .int s] S (RI (woV S nr th s) S) := by
  refine Ok.of (by decide) (Nat.le_of_ble_eq_true rfl) rfl (fun κ C hx => ?_)
  have C : Cx RX8 cX8_words 7 (some .int) 3 false _ κ := C
  refine g_aload_0 C dX8_words_0 rfl ?_
  refine g_iload_1 C dX8_words_1 rfl ?_
  refine g_cV1i C dX8_words_2 rfl ml_X8_166 mz_X8_isSaying (ok_X8_isSaying _ S) (by decide) rfl rfl rfl rfl (Nat.le_of_ble_eq_true rfl) (fun hn2 => ?_)
  refine g_if_ne (tgt := 11) C dX8_words_5 rfl (by decide) (fun h5 => ?_) (fun h5 => ?_)
  · skip
    refine g_iconst (v := 1) C dX8_words_11 rfl (by decide) ?_
    refine g_iload_1 C dX8_words_12 rfl ?_
    refine g_ishl C dX8_words_13 rfl ?_
    refine g_iconst (v := 1) C dX8_words_14 rfl (by decide) ?_
    refine g_iload_1 C dX8_words_15 rfl ?_
    refine g_cS1i C dX8_words_16 rfl ml_X8_195 mz_X8_denial (ok_X8_denial _ _) (by decide) rfl rfl (Nat.le_of_ble_eq_true rfl) (fun hn16 => ?_)
    refine g_ishl C dX8_words_19 rfl ?_
    refine g_ior C dX8_words_20 rfl ?_
    refine g_istore_2 C rfl dX8_words_21 rfl ?_
    refine g_iconst (v := -1) C dX8_words_22 rfl (by decide) ?_
    refine g_istore_3 C rfl dX8_words_23 rfl ?_
    refine g_iconst (v := 0) C dX8_words_24 rfl (by decide) ?_
    refine g_istore_4 C rfl dX8_words_25 rfl ?_
    exact lp_X8_words C S hR nr hnr hT th hth h8 s ⟨by unfold woV; rw [if_pos (nf_t (fun q => h5 ((bI_0 _).mpr q)))], rfl⟩ (2 ^ (2 * th) + 1) 0 (Nat.zero_le _) (by omega) _ _
  · skip
    refine g_ldc C dX8_words_8 rfl kc_X8_165 ?_
    exact g_iret C rfl dX8_words_10 ⟨by unfold woV; rw [if_neg (by rw [(bI_0 _).mp h5]; decide)], rfl⟩

noncomputable def stC (S : Mem) (nr : Nat) (s : Int32) (r : Nat) : Bool := hasB (clo nr (mA S 27) (mA S 28) (alw (nI nr) (mA S 29 2)) (mA S 29 0)) s && (hasB (alw (nI nr) (mA S 29 2)) (nI r) && !hasB (clo nr (mA S 27) (mA S 28) ((alw (nI nr) (mA S 29 2)) &&& (one (nI r) ^^^ (-1))) (mA S 29 0)) s)
def orF (c : Nat → Bool) (f : Nat → Int32) : Nat → Int32
  | 0 => 0
  | r + 1 => orF c f r ||| (if c r = true then f r else 0)
theorem orF_1 {c : Nat → Bool} {f : Nat → Int32} {r : Nat} (h : c r = true) : orF c f (r + 1) = orF c f r ||| f r := congrArg (fun z => orF c f r ||| z) (if_pos h)
theorem orF_0 {c : Nat → Bool} {f : Nat → Int32} {r : Nat} (h : c r = false) : orF c f (r + 1) = orF c f r ||| 0 := congrArg (fun z => orF c f r ||| z) (if_neg (by rw [h]; decide))
noncomputable def stV (S : Mem) (nr : Nat) (s : Int32) : Int32 := if sayB (mI S 25 0) s = true then orF (stC S nr s) (fun r => one (nI r)) nr else -1000000001
set_option maxHeartbeats 4000000 in
set_option maxRecDepth 20000 in
theorem lp_X8_step {κ : Kx} {Φ : Option Value → Mem → Prop} (C : Cx RX8 cX8_step 5 (some .int) 3 false Φ κ) (S : Mem) (hR : Rs S) (nr : Nat) (hnr : mI S 25 1 = nI nr) (hT : Tn nr (mA S 27)) (s : Int32) (hΦ : Φ (some (.int (orF (stC S nr s) (fun r => one (nI r)) nr))) S) : ∀ (n k : Nat), k ≤ nr → nr + 1 ≤ k + n → ∀ v4 : Value, G κ 0 0 S 15 [.ref 25, .int s, .int (orF (stC S nr s) (fun r => one (nI r)) k), .int (nI k), v4] [] := by
  have h10 := hT.1
  intro n
  induction n with
  | zero => intro k h1 h2; exact absurd h2 (by omega)
  | succ n ih =>
    intro k hk1 hk2 v4
    refine g_iload_3 C dX8_step_15 rfl ?_
    refine g_aload_0 C dX8_step_16 rfl ?_
    refine g_geti C 1 dX8_step_17 rfl rfl rfl fl_X8_77 ?_
    rw [hnr]
    refine g_icmp_ge (tgt := 100) C dX8_step_20 rfl (by decide) (fun h20 => ?_) (fun h20 => ?_)
    · skip
      have hk : k = nr := by have := n_ge (b := nr) h20 (by omega) (by omega); omega
      rw [hk]
      refine g_iload_2 C dX8_step_100 rfl ?_
      exact g_iret C rfl dX8_step_101 hΦ
    · skip
      refine g_aload_0 C dX8_step_23 rfl ?_
      refine g_cV0i C dX8_step_24 rfl ml_X8_155 mz_X8_followsNow (ok_X8_followsNow S hR nr hnr hT) (by decide) rfl rfl rfl rfl (Nat.le_of_ble_eq_true rfl) (fun hn24 => ?_)
      refine g_iload_1 C dX8_step_27 rfl ?_
      refine g_cS2i C dX8_step_28 rfl ml_X8_114 mz_X8_has (ok_X8_has _ _ _) (by decide) rfl rfl (Nat.le_of_ble_eq_true rfl) (fun hn28 => ?_)
      refine g_if_eq (tgt := 49) C dX8_step_31 rfl (by decide) (fun h31 => ?_) (fun h31 => ?_)
      · skip
        refine g_iconst (v := 0) C dX8_step_49 rfl (by decide) ?_
        refine g_istore_4 C rfl dX8_step_50 rfl ?_
        refine g_iload_2 C dX8_step_52 rfl ?_
        refine g_iload_4 C dX8_step_53 rfl ?_
        refine g_if_eq (tgt := 91) C dX8_step_55 rfl (by decide) (fun h55 => ?_) (fun h55 => absurd rfl h55)
        refine g_iconst (v := 0) C dX8_step_91 rfl (by decide) ?_
        refine g_ior C dX8_step_92 rfl ?_
        refine g_istore_2 C rfl dX8_step_93 rfl ?_
        refine g_iinc_3 (z := 1) C rfl dX8_step_94 rfl (by decide) ?_
        refine g_goto (tgt := 15) C dX8_step_97 (by decide) ?_
        have hk : k < nr := n_lt (b := nr) h20 (by omega) (by omega)
        rw [nI_1]
        have hc : stC S nr s k = false := by unfold stC; rw [(bI_0 _).mp h31]; rfl
        have e := orF_0 (f := fun r => one (nI r)) hc
        have := ih (k + 1) (by omega) (by omega)
        rw [e] at this
        exact this _
      · skip
        refine g_aload_0 C dX8_step_34 rfl ?_
        refine g_cV0i C dX8_step_35 rfl ml_X8_149 mz_X8_allowed (ok_X8_allowed S hR) (by decide) rfl rfl rfl rfl (Nat.le_of_ble_eq_true rfl) (fun hn35 => ?_)
        rw [hnr]
        refine g_iload_3 C dX8_step_38 rfl ?_
        refine g_cS2i C dX8_step_39 rfl ml_X8_114 mz_X8_has (ok_X8_has _ _ _) (by decide) rfl rfl (Nat.le_of_ble_eq_true rfl) (fun hn39 => ?_)
        refine g_if_eq (tgt := 49) C dX8_step_42 rfl (by decide) (fun h42 => ?_) (fun h42 => ?_)
        · skip
          refine g_iconst (v := 0) C dX8_step_49 rfl (by decide) ?_
          refine g_istore_4 C rfl dX8_step_50 rfl ?_
          refine g_iload_2 C dX8_step_52 rfl ?_
          refine g_iload_4 C dX8_step_53 rfl ?_
          refine g_if_eq (tgt := 91) C dX8_step_55 rfl (by decide) (fun h55 => ?_) (fun h55 => absurd rfl h55)
          refine g_iconst (v := 0) C dX8_step_91 rfl (by decide) ?_
          refine g_ior C dX8_step_92 rfl ?_
          refine g_istore_2 C rfl dX8_step_93 rfl ?_
          refine g_iinc_3 (z := 1) C rfl dX8_step_94 rfl (by decide) ?_
          refine g_goto (tgt := 15) C dX8_step_97 (by decide) ?_
          have hk : k < nr := n_lt (b := nr) h20 (by omega) (by omega)
          rw [nI_1]
          have hc : stC S nr s k = false := by unfold stC; rw [(bI_0 _).mp h42, Bool.false_and, Bool.and_false]
          have e := orF_0 (f := fun r => one (nI r)) hc
          have := ih (k + 1) (by omega) (by omega)
          rw [e] at this
          exact this _
        · skip
          refine g_iconst (v := 1) C dX8_step_45 rfl (by decide) ?_
          refine g_goto (tgt := 50) C dX8_step_46 (by decide) ?_
          refine g_istore_4 C rfl dX8_step_50 rfl ?_
          refine g_iload_2 C dX8_step_52 rfl ?_
          refine g_iload_4 C dX8_step_53 rfl ?_
          refine g_if_eq (tgt := 91) C dX8_step_55 rfl (by decide) (fun h55 => absurd h55 (by decide)) (fun h55 => ?_)
          refine g_aload_0 C dX8_step_58 rfl ?_
          refine g_aload_0 C dX8_step_59 rfl ?_
          refine g_getr C 5 dX8_step_60 rfl rfl rfl fl_X8_19 (hR 25 5 29 rfl) ?_
          refine g_iconst (v := 0) C dX8_step_63 rfl (by decide) ?_
          refine g_iald C dX8_step_64 rfl rfl (n_in (k := 0) (N := 4) (by decide) (by decide)) ?_
          rw [show (mA S 29 (Int32.toNatClampNeg 0)) = mA S 29 0 from rfl]
          refine g_aload_0 C dX8_step_65 rfl ?_
          refine g_cV0i C dX8_step_66 rfl ml_X8_149 mz_X8_allowed (ok_X8_allowed S hR) (by decide) rfl rfl rfl rfl (Nat.le_of_ble_eq_true rfl) (fun hn66 => ?_)
          rw [hnr]
          refine g_iconst (v := 1) C dX8_step_69 rfl (by decide) ?_
          refine g_iload_3 C dX8_step_70 rfl ?_
          refine g_ishl C dX8_step_71 rfl ?_
          rw [one_df]
          refine g_iconst (v := -1) C dX8_step_72 rfl (by decide) ?_
          refine g_ixor C dX8_step_73 rfl ?_
          refine g_iand C dX8_step_74 rfl ?_
          refine g_cV2i C dX8_step_75 rfl ml_X8_152 mz_X8_close (ok_X8_close _ _ S hR nr hnr hT) (by decide) rfl rfl rfl rfl (Nat.le_of_ble_eq_true rfl) (fun hn75 => ?_)
          refine g_iload_1 C dX8_step_78 rfl ?_
          refine g_cS2i C dX8_step_79 rfl ml_X8_114 mz_X8_has (ok_X8_has _ _ _) (by decide) rfl rfl (Nat.le_of_ble_eq_true rfl) (fun hn79 => ?_)
          refine g_if_ne (tgt := 91) C dX8_step_82 rfl (by decide) (fun h82 => ?_) (fun h82 => ?_)
          · skip
            refine g_iconst (v := 0) C dX8_step_91 rfl (by decide) ?_
            refine g_ior C dX8_step_92 rfl ?_
            refine g_istore_2 C rfl dX8_step_93 rfl ?_
            refine g_iinc_3 (z := 1) C rfl dX8_step_94 rfl (by decide) ?_
            refine g_goto (tgt := 15) C dX8_step_97 (by decide) ?_
            have hk : k < nr := n_lt (b := nr) h20 (by omega) (by omega)
            rw [nI_1]
            have hc : stC S nr s k = false := by unfold stC; rw [nf_t (fun q => h82 ((bI_0 _).mpr q)), Bool.not_true, Bool.and_false, Bool.and_false]
            have e := orF_0 (f := fun r => one (nI r)) hc
            have := ih (k + 1) (by omega) (by omega)
            rw [e] at this
            exact this _
          · skip
            refine g_iconst (v := 1) C dX8_step_85 rfl (by decide) ?_
            refine g_iload_3 C dX8_step_86 rfl ?_
            refine g_ishl C dX8_step_87 rfl ?_
            refine g_goto (tgt := 92) C dX8_step_88 (by decide) ?_
            refine g_ior C dX8_step_92 rfl ?_
            refine g_istore_2 C rfl dX8_step_93 rfl ?_
            refine g_iinc_3 (z := 1) C rfl dX8_step_94 rfl (by decide) ?_
            refine g_goto (tgt := 15) C dX8_step_97 (by decide) ?_
            have hk : k < nr := n_lt (b := nr) h20 (by omega) (by omega)
            rw [nI_1]
            have hc : stC S nr s k = true := by unfold stC; rw [nf_t (fun q => h31 ((bI_0 _).mpr q)), nf_t (fun q => h42 ((bI_0 _).mpr q)), (bI_0 _).mp h82]; rfl
            have e := orF_1 (f := fun r => one (nI r)) hc
            have := ih (k + 1) (by omega) (by omega)
            rw [e] at this
            exact this _

set_option maxHeartbeats 4000000 in
set_option maxRecDepth 20000 in
theorem ok_X8_step (s : Int32) (S : Mem) (hR : Rs S) (nr : Nat) (hnr : mI S 25 1 = nI nr) (hT : Tn nr (mA S 27)) : Ok yX8_step cX8_step 5 (some .int) 3 0 0 [.ref 25, .int s] S (RI (stV S nr s) S) := by
  refine Ok.of (by decide) (Nat.le_of_ble_eq_true rfl) rfl (fun κ C hx => ?_)
  have C : Cx RX8 cX8_step 5 (some .int) 3 false _ κ := C
  refine g_aload_0 C dX8_step_0 rfl ?_
  refine g_iload_1 C dX8_step_1 rfl ?_
  refine g_cV1i C dX8_step_2 rfl ml_X8_166 mz_X8_isSaying (ok_X8_isSaying _ S) (by decide) rfl rfl rfl rfl (Nat.le_of_ble_eq_true rfl) (fun hn2 => ?_)
  refine g_if_ne (tgt := 11) C dX8_step_5 rfl (by decide) (fun h5 => ?_) (fun h5 => ?_)
  · skip
    refine g_iconst (v := 0) C dX8_step_11 rfl (by decide) ?_
    refine g_istore_2 C rfl dX8_step_12 rfl ?_
    refine g_iconst (v := 0) C dX8_step_13 rfl (by decide) ?_
    refine g_istore_3 C rfl dX8_step_14 rfl ?_
    exact lp_X8_step C S hR nr hnr hT s ⟨by unfold stV; rw [if_pos (nf_t (fun q => h5 ((bI_0 _).mpr q)))], rfl⟩ (nr + 1) 0 (Nat.zero_le _) (by omega) _
  · skip
    refine g_ldc C dX8_step_8 rfl kc_X8_165 ?_
    exact g_iret C rfl dX8_step_10 ⟨by unfold stV; rw [if_neg (by rw [(bI_0 _).mp h5]; decide)], rfl⟩

def nvF (bb x : Int32) (cn : Nat → Int32) : Nat → Int32
  | 0 => x
  | r + 1 => nvF bb x cn r &&& (if hasB bb (nI r) = true then one (cn r) ^^^ (-1) else -1)
set_option maxHeartbeats 4000000 in
set_option maxRecDepth 20000 in
theorem lp_X8_never {κ : Kx} {Φ : Option Value → Mem → Prop} (C : Cx RX8 cX8_never 3 (some .int) 1 false Φ κ) (S : Mem) (hR : Rs S) (nr : Nat) (hnr : mI S 25 1 = nI nr) (hT : Tn nr (mA S 27)) (x : Int32) (hΦ : Φ (some (.int (nvF (alw (nI nr) (mA S 29 2)) x (mA S 27) nr))) S) : ∀ (n k : Nat), k ≤ nr → nr + 1 ≤ k + n → G κ 0 0 S 13 [.ref 25, .int (nvF (alw (nI nr) (mA S 29 2)) x (mA S 27) k), .int (nI k)] [] := by
  have h10 := hT.1
  intro n
  induction n with
  | zero => intro k h1 h2; exact absurd h2 (by omega)
  | succ n ih =>
    intro k hk1 hk2
    refine g_iload_2 C dX8_never_13 rfl ?_
    refine g_aload_0 C dX8_never_14 rfl ?_
    refine g_geti C 1 dX8_never_15 rfl rfl rfl fl_X8_77 ?_
    rw [hnr]
    refine g_icmp_ge (tgt := 55) C dX8_never_18 rfl (by decide) (fun h18 => ?_) (fun h18 => ?_)
    · skip
      have hk : k = nr := by have := n_ge (b := nr) h18 (by omega) (by omega); omega
      rw [hk]
      refine g_iload_1 C dX8_never_55 rfl ?_
      exact g_iret C rfl dX8_never_56 hΦ
    · skip
      refine g_iload_1 C dX8_never_21 rfl ?_
      refine g_aload_0 C dX8_never_22 rfl ?_
      refine g_cV0i C dX8_never_23 rfl ml_X8_149 mz_X8_allowed (ok_X8_allowed S hR) (by decide) rfl rfl rfl rfl (Nat.le_of_ble_eq_true rfl) (fun hn23 => ?_)
      rw [hnr]
      refine g_iload_2 C dX8_never_26 rfl ?_
      refine g_cS2i C dX8_never_27 rfl ml_X8_114 mz_X8_has (ok_X8_has _ _ _) (by decide) rfl rfl (Nat.le_of_ble_eq_true rfl) (fun hn27 => ?_)
      refine g_if_eq (tgt := 46) C dX8_never_30 rfl (by decide) (fun h30 => ?_) (fun h30 => ?_)
      · skip
        refine g_iconst (v := -1) C dX8_never_46 rfl (by decide) ?_
        refine g_iand C dX8_never_47 rfl ?_
        refine g_istore_1 C rfl dX8_never_48 rfl ?_
        refine g_iinc_2 (z := 1) C rfl dX8_never_49 rfl (by decide) ?_
        refine g_goto (tgt := 13) C dX8_never_52 (by decide) ?_
        have hk : k < nr := n_lt (b := nr) h18 (by omega) (by omega)
        rw [nI_1]
        have e : nvF (alw (nI nr) (mA S 29 2)) x (mA S 27) (k + 1) = nvF (alw (nI nr) (mA S 29 2)) x (mA S 27) k &&& _ := congrArg (fun z => nvF (alw (nI nr) (mA S 29 2)) x (mA S 27) k &&& z) (if_neg (by rw [(bI_0 _).mp h30]; decide))
        have := ih (k + 1) (by omega) (by omega)
        rw [e] at this
        exact this
      · skip
        refine g_iconst (v := 1) C dX8_never_33 rfl (by decide) ?_
        refine g_aload_0 C dX8_never_34 rfl ?_
        refine g_getr C 3 dX8_never_35 rfl rfl rfl fl_X8_13 (hR 25 3 27 rfl) ?_
        refine g_iload_2 C dX8_never_38 rfl ?_
        refine g_iald C dX8_never_39 rfl rfl (n_in (show k < 10 by have := n_lt (b := nr) h18 (by omega) (by omega); omega) (by decide)) ?_
        rw [nI_clamp (show k < 2 ^ 31 by omega)]
        refine g_ishl C dX8_never_40 rfl ?_
        refine g_iconst (v := -1) C dX8_never_41 rfl (by decide) ?_
        refine g_ixor C dX8_never_42 rfl ?_
        refine g_goto (tgt := 47) C dX8_never_43 (by decide) ?_
        refine g_iand C dX8_never_47 rfl ?_
        refine g_istore_1 C rfl dX8_never_48 rfl ?_
        refine g_iinc_2 (z := 1) C rfl dX8_never_49 rfl (by decide) ?_
        refine g_goto (tgt := 13) C dX8_never_52 (by decide) ?_
        have hk : k < nr := n_lt (b := nr) h18 (by omega) (by omega)
        rw [nI_1]
        have e : nvF (alw (nI nr) (mA S 29 2)) x (mA S 27) (k + 1) = nvF (alw (nI nr) (mA S 29 2)) x (mA S 27) k &&& _ := congrArg (fun z => nvF (alw (nI nr) (mA S 29 2)) x (mA S 27) k &&& z) (if_pos (nf_t (fun q => h30 ((bI_0 _).mpr q))))
        have := ih (k + 1) (by omega) (by omega)
        rw [e] at this
        exact this

set_option maxHeartbeats 4000000 in
set_option maxRecDepth 20000 in
theorem ok_X8_never (S : Mem) (hR : Rs S) (nr : Nat) (hnr : mI S 25 1 = nI nr) (hT : Tn nr (mA S 27)) : Ok yX8_never cX8_never 3 (some .int) 1 0 0 [.ref 25] S (RI (nvF (alw (nI nr) (mA S 29 2)) (one (2 * mI S 25 0) - 1) (mA S 27) nr) S) := by
  refine Ok.of (by decide) (Nat.le_of_ble_eq_true rfl) rfl (fun κ C hx => ?_)
  have C : Cx RX8 cX8_never 3 (some .int) 1 false _ κ := C
  refine g_iconst (v := 1) C dX8_never_0 rfl (by decide) ?_
  refine g_iconst (v := 2) C dX8_never_1 rfl (by decide) ?_
  refine g_aload_0 C dX8_never_2 rfl ?_
  refine g_geti C 0 dX8_never_3 rfl rfl rfl fl_X8_70 ?_
  refine g_imul C dX8_never_6 rfl ?_
  refine g_ishl C dX8_never_7 rfl ?_
  refine g_iconst (v := 1) C dX8_never_8 rfl (by decide) ?_
  refine g_isub C dX8_never_9 rfl ?_
  refine g_istore_1 C rfl dX8_never_10 rfl ?_
  refine g_iconst (v := 0) C dX8_never_11 rfl (by decide) ?_
  refine g_istore_2 C rfl dX8_never_12 rfl ?_
  exact lp_X8_never C S hR nr hnr hT _ ⟨rfl, rfl⟩ (nr + 1) 0 (Nat.zero_le _) (by omega)

noncomputable def roC (S : Mem) (nr r : Nat) : Bool := hasB (alw (nI nr) (mA S 29 2)) (nI r) && decide (mA S 28 r &&& (clo nr (mA S 27) (mA S 28) (alw (nI nr) (mA S 29 2)) (one (mA S 27 r)) ^^^ (-1)) = 0)
set_option maxHeartbeats 4000000 in
set_option maxRecDepth 20000 in
theorem lp_X8_round {κ : Kx} {Φ : Option Value → Mem → Prop} (C : Cx RX8 cX8_round 4 (some .int) 2 false Φ κ) (S : Mem) (hR : Rs S) (nr : Nat) (hnr : mI S 25 1 = nI nr) (hT : Tn nr (mA S 27)) (hΦ : Φ (some (.int (orF (roC S nr) (fun r => one (mA S 27 r)) nr))) S) : ∀ (n k : Nat), k ≤ nr → nr + 1 ≤ k + n → ∀ v3 : Value, G κ 0 0 S 4 [.ref 25, .int (orF (roC S nr) (fun r => one (mA S 27 r)) k), .int (nI k), v3] [] := by
  have h10 := hT.1
  intro n
  induction n with
  | zero => intro k h1 h2; exact absurd h2 (by omega)
  | succ n ih =>
    intro k hk1 hk2 v3
    refine g_iload_2 C dX8_round_4 rfl ?_
    refine g_aload_0 C dX8_round_5 rfl ?_
    refine g_geti C 1 dX8_round_6 rfl rfl rfl fl_X8_77 ?_
    rw [hnr]
    refine g_icmp_ge (tgt := 74) C dX8_round_9 rfl (by decide) (fun h9 => ?_) (fun h9 => ?_)
    · skip
      have hk : k = nr := by have := n_ge (b := nr) h9 (by omega) (by omega); omega
      rw [hk]
      refine g_iload_1 C dX8_round_74 rfl ?_
      exact g_iret C rfl dX8_round_75 hΦ
    · skip
      refine g_aload_0 C dX8_round_12 rfl ?_
      refine g_iconst (v := 1) C dX8_round_13 rfl (by decide) ?_
      refine g_aload_0 C dX8_round_14 rfl ?_
      refine g_getr C 3 dX8_round_15 rfl rfl rfl fl_X8_13 (hR 25 3 27 rfl) ?_
      refine g_iload_2 C dX8_round_18 rfl ?_
      refine g_iald C dX8_round_19 rfl rfl (n_in (show k < 10 by have := n_lt (b := nr) h9 (by omega) (by omega); omega) (by decide)) ?_
      rw [nI_clamp (show k < 2 ^ 31 by omega)]
      refine g_ishl C dX8_round_20 rfl ?_
      rw [one_df]
      refine g_aload_0 C dX8_round_21 rfl ?_
      refine g_cV0i C dX8_round_22 rfl ml_X8_149 mz_X8_allowed (ok_X8_allowed S hR) (by decide) rfl rfl rfl rfl (Nat.le_of_ble_eq_true rfl) (fun hn22 => ?_)
      rw [hnr]
      refine g_cV2i C dX8_round_25 rfl ml_X8_152 mz_X8_close (ok_X8_close _ _ S hR nr hnr hT) (by decide) rfl rfl rfl rfl (Nat.le_of_ble_eq_true rfl) (fun hn25 => ?_)
      refine g_istore_3 C rfl dX8_round_28 rfl ?_
      refine g_iload_1 C dX8_round_29 rfl ?_
      refine g_aload_0 C dX8_round_30 rfl ?_
      refine g_cV0i C dX8_round_31 rfl ml_X8_149 mz_X8_allowed (ok_X8_allowed S hR) (by decide) rfl rfl rfl rfl (Nat.le_of_ble_eq_true rfl) (fun hn31 => ?_)
      rw [hnr]
      refine g_iload_2 C dX8_round_34 rfl ?_
      refine g_cS2i C dX8_round_35 rfl ml_X8_114 mz_X8_has (ok_X8_has _ _ _) (by decide) rfl rfl (Nat.le_of_ble_eq_true rfl) (fun hn35 => ?_)
      refine g_if_eq (tgt := 65) C dX8_round_38 rfl (by decide) (fun h38 => ?_) (fun h38 => ?_)
      · skip
        refine g_iconst (v := 0) C dX8_round_65 rfl (by decide) ?_
        refine g_ior C dX8_round_66 rfl ?_
        refine g_istore_1 C rfl dX8_round_67 rfl ?_
        refine g_iinc_2 (z := 1) C rfl dX8_round_68 rfl (by decide) ?_
        refine g_goto (tgt := 4) C dX8_round_71 (by decide) ?_
        have hk : k < nr := n_lt (b := nr) h9 (by omega) (by omega)
        rw [nI_1]
        have hc : roC S nr k = false := by unfold roC; rw [(bI_0 _).mp h38]; rfl
        have e := orF_0 (f := fun r => one (mA S 27 r)) hc
        have := ih (k + 1) (by omega) (by omega)
        rw [e] at this
        exact this _
      · skip
        refine g_aload_0 C dX8_round_41 rfl ?_
        refine g_getr C 4 dX8_round_42 rfl rfl rfl fl_X8_16 (hR 25 4 28 rfl) ?_
        refine g_iload_2 C dX8_round_45 rfl ?_
        refine g_iald C dX8_round_46 rfl rfl (n_in (show k < 10 by have := n_lt (b := nr) h9 (by omega) (by omega); omega) (by decide)) ?_
        rw [nI_clamp (show k < 2 ^ 31 by omega)]
        refine g_iload_3 C dX8_round_47 rfl ?_
        refine g_iconst (v := -1) C dX8_round_48 rfl (by decide) ?_
        refine g_ixor C dX8_round_49 rfl ?_
        refine g_iand C dX8_round_50 rfl ?_
        refine g_if_ne (tgt := 65) C dX8_round_51 rfl (by decide) (fun h51 => ?_) (fun h51 => ?_)
        · skip
          refine g_iconst (v := 0) C dX8_round_65 rfl (by decide) ?_
          refine g_ior C dX8_round_66 rfl ?_
          refine g_istore_1 C rfl dX8_round_67 rfl ?_
          refine g_iinc_2 (z := 1) C rfl dX8_round_68 rfl (by decide) ?_
          refine g_goto (tgt := 4) C dX8_round_71 (by decide) ?_
          have hk : k < nr := n_lt (b := nr) h9 (by omega) (by omega)
          rw [nI_1]
          have hc : roC S nr k = false := by unfold roC; rw [decide_eq_false h51, Bool.and_false]
          have e := orF_0 (f := fun r => one (mA S 27 r)) hc
          have := ih (k + 1) (by omega) (by omega)
          rw [e] at this
          exact this _
        · skip
          refine g_iconst (v := 1) C dX8_round_54 rfl (by decide) ?_
          refine g_aload_0 C dX8_round_55 rfl ?_
          refine g_getr C 3 dX8_round_56 rfl rfl rfl fl_X8_13 (hR 25 3 27 rfl) ?_
          refine g_iload_2 C dX8_round_59 rfl ?_
          refine g_iald C dX8_round_60 rfl rfl (n_in (show k < 10 by have := n_lt (b := nr) h9 (by omega) (by omega); omega) (by decide)) ?_
          rw [nI_clamp (show k < 2 ^ 31 by omega)]
          refine g_ishl C dX8_round_61 rfl ?_
          refine g_goto (tgt := 66) C dX8_round_62 (by decide) ?_
          refine g_ior C dX8_round_66 rfl ?_
          refine g_istore_1 C rfl dX8_round_67 rfl ?_
          refine g_iinc_2 (z := 1) C rfl dX8_round_68 rfl (by decide) ?_
          refine g_goto (tgt := 4) C dX8_round_71 (by decide) ?_
          have hk : k < nr := n_lt (b := nr) h9 (by omega) (by omega)
          rw [nI_1]
          have hc : roC S nr k = true := by unfold roC; rw [nf_t (fun q => h38 ((bI_0 _).mpr q)), decide_eq_true h51]; rfl
          have e := orF_1 (f := fun r => one (mA S 27 r)) hc
          have := ih (k + 1) (by omega) (by omega)
          rw [e] at this
          exact this _

set_option maxHeartbeats 4000000 in
set_option maxRecDepth 20000 in
theorem ok_X8_round (S : Mem) (hR : Rs S) (nr : Nat) (hnr : mI S 25 1 = nI nr) (hT : Tn nr (mA S 27)) : Ok yX8_round cX8_round 4 (some .int) 2 0 0 [.ref 25] S (RI (orF (roC S nr) (fun r => one (mA S 27 r)) nr) S) := by
  refine Ok.of (by decide) (Nat.le_of_ble_eq_true rfl) rfl (fun κ C hx => ?_)
  have C : Cx RX8 cX8_round 4 (some .int) 2 false _ κ := C
  refine g_iconst (v := 0) C dX8_round_0 rfl (by decide) ?_
  refine g_istore_1 C rfl dX8_round_1 rfl ?_
  refine g_iconst (v := 0) C dX8_round_2 rfl (by decide) ?_
  refine g_istore_2 C rfl dX8_round_3 rfl ?_
  exact lp_X8_round C S hR nr hnr hT ⟨rfl, rfl⟩ (nr + 1) 0 (Nat.zero_le _) (by omega) _
end
section
noncomputable def ibC (S : Mem) (nr : Nat) (bb : Int32) (k : Nat) : Bool := decide (bI (hasB (clo nr (mA S 27) (mA S 28) bb (mA S 36 k)) (mA S 37 k)) = mA S 38 k)
noncomputable def ibF (S : Mem) (nr : Nat) (bb : Int32) : Nat → Bool
  | 0 => true
  | k + 1 => ibF S nr bb k && ibC S nr bb k
set_option maxHeartbeats 4000000 in
set_option maxRecDepth 20000 in
theorem lp_X8_isBelieved {κ : Kx} {Φ : Option Value → Mem → Prop} (C : Cx RX8 cX8_isBelieved 4 (some .boolean) 2 false Φ κ) (S : Mem) (hR : Rs S) (nr : Nat) (hnr : mI S 25 1 = nI nr) (hT : Tn nr (mA S 27)) (an : Nat) (han : mI S 25 22 = nI an) (ha6 : an ≤ 6) (bb : Int32) (hΦ : Φ (some (.int (bI (ibF S nr bb an)))) S) : ∀ (n k : Nat), k ≤ an → an + 1 ≤ k + n → G κ 0 0 S 4 [.ref 25, .int bb, .int (bI (ibF S nr bb k)), .int (nI k)] [] := by
  intro n
  induction n with
  | zero => intro k h1 h2; exact absurd h2 (by omega)
  | succ n ih =>
    intro k hk1 hk2
    refine g_iload_3 C dX8_isBelieved_4 rfl ?_
    refine g_aload_0 C dX8_isBelieved_5 rfl ?_
    refine g_geti C 22 dX8_isBelieved_6 rfl rfl rfl fl_X8_140 ?_
    rw [han]
    refine g_icmp_ge (tgt := 57) C dX8_isBelieved_9 rfl (by decide) (fun h9 => ?_) (fun h9 => ?_)
    · skip
      have hk : k = an := by have := n_ge (b := an) h9 (by omega) (by omega); omega
      rw [hk]
      refine g_iload_2 C dX8_isBelieved_57 rfl ?_
      exact g_zret C rfl dX8_isBelieved_58 (by first | exact Or.inl rfl | exact Or.inr rfl | exact bI_01 _) hΦ
    · skip
      refine g_iload_2 C dX8_isBelieved_12 rfl ?_
      refine g_if_eq (tgt := 49) C dX8_isBelieved_13 rfl (by decide) (fun h13 => ?_) (fun h13 => ?_)
      · skip
        refine g_iconst (v := 0) C dX8_isBelieved_49 rfl (by decide) ?_
        refine g_istore_2 C rfl dX8_isBelieved_50 rfl ?_
        refine g_iinc_3 (z := 1) C rfl dX8_isBelieved_51 rfl (by decide) ?_
        refine g_goto (tgt := 4) C dX8_isBelieved_54 (by decide) ?_
        have hk : k < an := n_lt (b := an) h9 (by omega) (by omega)
        rw [nI_1]
        have e : ibF S nr bb (k + 1) = false := by show (ibF S nr bb k && _) = _; rw [(bI_0 _).mp h13]; rfl
        have := ih (k + 1) (by omega) (by omega)
        rw [e] at this
        exact this
      · skip
        refine g_aload_0 C dX8_isBelieved_16 rfl ?_
        refine g_aload_0 C dX8_isBelieved_17 rfl ?_
        refine g_getr C 23 dX8_isBelieved_18 rfl rfl rfl fl_X8_45 (hR 25 23 36 rfl) ?_
        refine g_iload_3 C dX8_isBelieved_21 rfl ?_
        refine g_iald C dX8_isBelieved_22 rfl rfl (n_in (show k < 6 by have := n_lt (b := an) h9 (by omega) (by omega); omega) (by decide)) ?_
        rw [nI_clamp (show k < 2 ^ 31 by omega)]
        refine g_iload_1 C dX8_isBelieved_23 rfl ?_
        refine g_cV2i C dX8_isBelieved_24 rfl ml_X8_152 mz_X8_close (ok_X8_close _ _ S hR nr hnr hT) (by decide) rfl rfl rfl rfl (Nat.le_of_ble_eq_true rfl) (fun hn24 => ?_)
        refine g_aload_0 C dX8_isBelieved_27 rfl ?_
        refine g_getr C 24 dX8_isBelieved_28 rfl rfl rfl fl_X8_48 (hR 25 24 37 rfl) ?_
        refine g_iload_3 C dX8_isBelieved_31 rfl ?_
        refine g_iald C dX8_isBelieved_32 rfl rfl (n_in (show k < 6 by have := n_lt (b := an) h9 (by omega) (by omega); omega) (by decide)) ?_
        rw [nI_clamp (show k < 2 ^ 31 by omega)]
        refine g_cS2i C dX8_isBelieved_33 rfl ml_X8_114 mz_X8_has (ok_X8_has _ _ _) (by decide) rfl rfl (Nat.le_of_ble_eq_true rfl) (fun hn33 => ?_)
        refine g_aload_0 C dX8_isBelieved_36 rfl ?_
        refine g_getr C 25 dX8_isBelieved_37 rfl rfl rfl fl_X8_51 (hR 25 25 38 rfl) ?_
        refine g_iload_3 C dX8_isBelieved_40 rfl ?_
        refine g_zald C dX8_isBelieved_41 rfl rfl (n_in (show k < 6 by have := n_lt (b := an) h9 (by omega) (by omega); omega) (by decide)) ?_
        rw [nI_clamp (show k < 2 ^ 31 by omega)]
        refine g_icmp_ne (tgt := 49) C dX8_isBelieved_42 rfl (by decide) (fun h42 => ?_) (fun h42 => ?_)
        · skip
          refine g_iconst (v := 0) C dX8_isBelieved_49 rfl (by decide) ?_
          refine g_istore_2 C rfl dX8_isBelieved_50 rfl ?_
          refine g_iinc_3 (z := 1) C rfl dX8_isBelieved_51 rfl (by decide) ?_
          refine g_goto (tgt := 4) C dX8_isBelieved_54 (by decide) ?_
          have hk : k < an := n_lt (b := an) h9 (by omega) (by omega)
          rw [nI_1]
          have e : ibF S nr bb (k + 1) = false := by show (_ && ibC S nr bb k) = _; rw [show ibC S nr bb k = false from decide_eq_false h42, Bool.and_false]
          have := ih (k + 1) (by omega) (by omega)
          rw [e] at this
          exact this
        · skip
          refine g_iconst (v := 1) C dX8_isBelieved_45 rfl (by decide) ?_
          refine g_goto (tgt := 50) C dX8_isBelieved_46 (by decide) ?_
          refine g_istore_2 C rfl dX8_isBelieved_50 rfl ?_
          refine g_iinc_3 (z := 1) C rfl dX8_isBelieved_51 rfl (by decide) ?_
          refine g_goto (tgt := 4) C dX8_isBelieved_54 (by decide) ?_
          have hk : k < an := n_lt (b := an) h9 (by omega) (by omega)
          rw [nI_1]
          have e : ibF S nr bb (k + 1) = true := by show (ibF S nr bb k && ibC S nr bb k) = _; rw [nf_t (fun q => h13 ((bI_0 _).mpr q)), show ibC S nr bb k = true from decide_eq_true h42]; rfl
          have := ih (k + 1) (by omega) (by omega)
          rw [e] at this
          exact this

set_option maxHeartbeats 4000000 in
set_option maxRecDepth 20000 in
theorem ok_X8_isBelieved (bb : Int32) (S : Mem) (hR : Rs S) (nr : Nat) (hnr : mI S 25 1 = nI nr) (hT : Tn nr (mA S 27)) (an : Nat) (han : mI S 25 22 = nI an) (ha6 : an ≤ 6) : Ok yX8_isBelieved cX8_isBelieved 4 (some .boolean) 2 0 0 [.ref 25, .int bb] S (RI (bI (ibF S nr bb an)) S) := by
  refine Ok.of (by decide) (Nat.le_of_ble_eq_true rfl) rfl (fun κ C hx => ?_)
  have C : Cx RX8 cX8_isBelieved 4 (some .boolean) 2 false _ κ := C
  refine g_iconst (v := 1) C dX8_isBelieved_0 rfl (by decide) ?_
  refine g_istore_2 C rfl dX8_isBelieved_1 rfl ?_
  refine g_iconst (v := 0) C dX8_isBelieved_2 rfl (by decide) ?_
  refine g_istore_3 C rfl dX8_isBelieved_3 rfl ?_
  exact lp_X8_isBelieved C S hR nr hnr hT an han ha6 bb ⟨rfl, rfl⟩ (an + 1) 0 (Nat.zero_le _) (by omega)

noncomputable def bvF (S : Mem) (nr an : Nat) : Nat → Int32 × Int32 × Int32
  | 0 => (0, -1, one (nI nr) - 1)
  | k + 1 => if ibF S nr (nI k) an = true then ((bvF S nr an k).1 + 1, (if (bvF S nr an k).1 = 0 then nI k else (bvF S nr an k).2.1), (bvF S nr an k).2.2 &&& nI k) else bvF S nr an k
noncomputable def bvV (S : Mem) (nr an : Nat) (what : Int32) : Int32 := if inI what 0 2 = true then (if what = 0 then (bvF S nr an (2 ^ nr)).1 else if what = 1 then (bvF S nr an (2 ^ nr)).2.1 else if (bvF S nr an (2 ^ nr)).1 = 0 then 0 else (bvF S nr an (2 ^ nr)).2.2) else -1000000002
set_option maxHeartbeats 4000000 in
set_option maxRecDepth 20000 in
theorem lp_X8_believed {κ : Kx} {Φ : Option Value → Mem → Prop} (C : Cx RX8 cX8_believed 6 (some .int) 3 false Φ κ) (S : Mem) (hR : Rs S) (nr : Nat) (hnr : mI S 25 1 = nI nr) (hT : Tn nr (mA S 27)) (an : Nat) (han : mI S 25 22 = nI an) (ha6 : an ≤ 6) (what : Int32) (K : ∀ v5 : Value, G κ 0 0 S 79 [.ref 25, .int what, .int (bvF S nr an (2 ^ nr)).1, .int (bvF S nr an (2 ^ nr)).2.1, .int (bvF S nr an (2 ^ nr)).2.2, v5] []) : ∀ (n k : Nat), k ≤ 2 ^ nr → 2 ^ nr + 1 ≤ k + n → G κ 0 0 S 32 [.ref 25, .int what, .int (bvF S nr an k).1, .int (bvF S nr an k).2.1, .int (bvF S nr an k).2.2, .int (nI k)] [] := by
  have h10 := pw10 hT.1
  intro n
  induction n with
  | zero => intro k h1 h2; exact absurd h2 (by omega)
  | succ n ih =>
    intro k hk1 hk2
    refine g_iload_5 C dX8_believed_32 rfl ?_
    refine g_iconst (v := 1) C dX8_believed_34 rfl (by decide) ?_
    refine g_aload_0 C dX8_believed_35 rfl ?_
    refine g_geti C 1 dX8_believed_36 rfl rfl rfl fl_X8_77 ?_
    rw [hnr]
    refine g_ishl C dX8_believed_39 rfl ?_
    rw [show (1 : Int32) <<< (nI nr &&& 31) = nI (2 ^ nr) from pw_nI nr (by have := hT.1; omega)]
    refine g_icmp_ge (tgt := 79) C dX8_believed_40 rfl (by decide) (fun h40 => ?_) (fun h40 => ?_)
    · skip
      have hk : k = 2 ^ nr := by have := n_ge (b := 2 ^ nr) h40 (by omega) (by omega); omega
      rw [hk]
      exact K _
    · skip
      refine g_aload_0 C dX8_believed_43 rfl ?_
      refine g_iload_5 C dX8_believed_44 rfl ?_
      refine g_cV1i C dX8_believed_46 rfl ml_X8_219 mz_X8_isBelieved (ok_X8_isBelieved _ S hR nr hnr hT an han ha6) (by decide) rfl rfl rfl rfl (Nat.le_of_ble_eq_true rfl) (fun hn46 => ?_)
      refine g_if_eq (tgt := 73) C dX8_believed_49 rfl (by decide) (fun h49 => ?_) (fun h49 => ?_)
      · skip
        refine g_iinc_5 (z := 1) C rfl dX8_believed_73 rfl (by decide) ?_
        refine g_goto (tgt := 32) C dX8_believed_76 (by decide) ?_
        have hk : k < 2 ^ nr := n_lt (b := 2 ^ nr) h40 (by omega) (by omega)
        rw [nI_1]
        have e : bvF S nr an (k + 1) = bvF S nr an k := if_neg (by rw [(bI_0 _).mp h49]; decide)
        have := ih (k + 1) (by omega) (by omega)
        rw [e] at this
        exact this
      · skip
        refine g_iload_2 C dX8_believed_52 rfl ?_
        refine g_if_ne (tgt := 61) C dX8_believed_53 rfl (by decide) (fun h53 => ?_) (fun h53 => ?_)
        · skip
          refine g_iload_3 C dX8_believed_61 rfl ?_
          refine g_istore_3 C rfl dX8_believed_62 rfl ?_
          refine g_iload_4 C dX8_believed_63 rfl ?_
          refine g_iload_5 C dX8_believed_65 rfl ?_
          refine g_iand C dX8_believed_67 rfl ?_
          refine g_istore_4 C rfl dX8_believed_68 rfl ?_
          refine g_iinc_2 (z := 1) C rfl dX8_believed_70 rfl (by decide) ?_
          refine g_iinc_5 (z := 1) C rfl dX8_believed_73 rfl (by decide) ?_
          refine g_goto (tgt := 32) C dX8_believed_76 (by decide) ?_
          have hk : k < 2 ^ nr := n_lt (b := 2 ^ nr) h40 (by omega) (by omega)
          rw [nI_1]
          have e : bvF S nr an (k + 1) = _ := if_pos (nf_t (fun q => h49 ((bI_0 _).mpr q)))
          have := ih (k + 1) (by omega) (by omega)
          rw [e] at this
          rw [if_neg h53] at this
          exact this
        · skip
          refine g_iload_5 C dX8_believed_56 rfl ?_
          refine g_goto (tgt := 62) C dX8_believed_58 (by decide) ?_
          refine g_istore_3 C rfl dX8_believed_62 rfl ?_
          refine g_iload_4 C dX8_believed_63 rfl ?_
          refine g_iload_5 C dX8_believed_65 rfl ?_
          refine g_iand C dX8_believed_67 rfl ?_
          refine g_istore_4 C rfl dX8_believed_68 rfl ?_
          refine g_iinc_2 (z := 1) C rfl dX8_believed_70 rfl (by decide) ?_
          refine g_iinc_5 (z := 1) C rfl dX8_believed_73 rfl (by decide) ?_
          refine g_goto (tgt := 32) C dX8_believed_76 (by decide) ?_
          have hk : k < 2 ^ nr := n_lt (b := 2 ^ nr) h40 (by omega) (by omega)
          rw [nI_1]
          have e : bvF S nr an (k + 1) = _ := if_pos (nf_t (fun q => h49 ((bI_0 _).mpr q)))
          have := ih (k + 1) (by omega) (by omega)
          rw [e] at this
          rw [if_pos h53] at this
          exact this

set_option maxHeartbeats 4000000 in
set_option maxRecDepth 20000 in
theorem ok_X8_believed (what : Int32) (S : Mem) (hR : Rs S) (nr : Nat) (hnr : mI S 25 1 = nI nr) (hT : Tn nr (mA S 27)) (an : Nat) (han : mI S 25 22 = nI an) (ha6 : an ≤ 6) : Ok yX8_believed cX8_believed 6 (some .int) 3 0 0 [.ref 25, .int what] S (RI (bvV S nr an what) S) := by
  have h10 := pw10 hT.1
  refine Ok.of (by decide) (Nat.le_of_ble_eq_true rfl) rfl (fun κ C hx => ?_)
  have C : Cx RX8 cX8_believed 6 (some .int) 3 false _ κ := C
  refine g_iload_1 C dX8_believed_0 rfl ?_
  refine g_i2l C dX8_believed_1 rfl ?_
  refine g_lconst (v := 0) C dX8_believed_2 rfl (by decide) ?_
  refine g_ldc2 C dX8_believed_3 rfl kl_X8_217 ?_
  refine g_cS3i C dX8_believed_6 rfl ml_X8_73 mz_X8_in (ok_X8_in _ _ _ _) (by decide) rfl rfl (Nat.le_of_ble_eq_true rfl) (fun hn6 => ?_)
  rw [show inL what.toInt64 0 2 = inI what 0 2 from inL_32 what 0 2]
  refine g_if_ne (tgt := 15) C dX8_believed_9 rfl (by decide) (fun h9 => ?_) (fun h9 => ?_)
  · skip
    refine g_iconst (v := 0) C dX8_believed_15 rfl (by decide) ?_
    refine g_istore_2 C rfl dX8_believed_16 rfl ?_
    refine g_iconst (v := -1) C dX8_believed_17 rfl (by decide) ?_
    refine g_istore_3 C rfl dX8_believed_18 rfl ?_
    refine g_iconst (v := 1) C dX8_believed_19 rfl (by decide) ?_
    refine g_aload_0 C dX8_believed_20 rfl ?_
    refine g_geti C 1 dX8_believed_21 rfl rfl rfl fl_X8_77 ?_
    rw [hnr]
    refine g_ishl C dX8_believed_24 rfl ?_
    rw [one_df]
    refine g_iconst (v := 1) C dX8_believed_25 rfl (by decide) ?_
    refine g_isub C dX8_believed_26 rfl ?_
    refine g_istore_4 C rfl dX8_believed_27 rfl ?_
    refine g_iconst (v := 0) C dX8_believed_29 rfl (by decide) ?_
    refine g_istore_5 C rfl dX8_believed_30 rfl ?_
    refine lp_X8_believed C S hR nr hnr hT an han ha6 what (fun v5 => ?_) (2 ^ nr + 1) 0 (Nat.zero_le _) (by omega)
    refine g_iload_1 C dX8_believed_79 rfl ?_
    refine g_if_ne (tgt := 87) C dX8_believed_80 rfl (by decide) (fun h80 => ?_) (fun h80 => ?_)
    · skip
      refine g_iload_1 C dX8_believed_87 rfl ?_
      refine g_iconst (v := 1) C dX8_believed_88 rfl (by decide) ?_
      refine g_icmp_ne (tgt := 96) C dX8_believed_89 rfl (by decide) (fun h89 => ?_) (fun h89 => ?_)
      · skip
        refine g_iload_2 C dX8_believed_96 rfl ?_
        refine g_if_ne (tgt := 104) C dX8_believed_97 rfl (by decide) (fun h97 => ?_) (fun h97 => ?_)
        · skip
          refine g_iload_4 C dX8_believed_104 rfl ?_
          exact g_iret C rfl dX8_believed_106 ⟨by unfold bvV; rw [if_pos (nf_t (fun q => h9 ((bI_0 _).mpr q)))]; rw [if_neg h80]; rw [if_neg h89]; rw [if_neg h97], rfl⟩
        · skip
          refine g_iconst (v := 0) C dX8_believed_100 rfl (by decide) ?_
          refine g_goto (tgt := 106) C dX8_believed_101 (by decide) ?_
          exact g_iret C rfl dX8_believed_106 ⟨by unfold bvV; rw [if_pos (nf_t (fun q => h9 ((bI_0 _).mpr q)))]; rw [if_neg h80]; rw [if_neg h89]; rw [if_pos h97], rfl⟩
      · skip
        refine g_iload_3 C dX8_believed_92 rfl ?_
        refine g_goto (tgt := 106) C dX8_believed_93 (by decide) ?_
        exact g_iret C rfl dX8_believed_106 ⟨by unfold bvV; rw [if_pos (nf_t (fun q => h9 ((bI_0 _).mpr q)))]; rw [if_neg h80]; rw [if_pos h89], rfl⟩
    · skip
      refine g_iload_2 C dX8_believed_83 rfl ?_
      refine g_goto (tgt := 106) C dX8_believed_84 (by decide) ?_
      exact g_iret C rfl dX8_believed_106 ⟨by unfold bvV; rw [if_pos (nf_t (fun q => h9 ((bI_0 _).mpr q)))]; rw [if_pos h80], rfl⟩
  · skip
    refine g_ldc C dX8_believed_12 rfl kc_X8_82 ?_
    exact g_iret C rfl dX8_believed_14 ⟨by unfold bvV; rw [if_neg (by rw [(bI_0 _).mp h9]; decide)], rfl⟩

def jdF (all : Int32) (bw bi : Nat → Int32) : Nat → Nat → Int32
  | 0, _ => -1
  | n + 1, k => if bitI all (bw k) = bi k then jdF all bw bi n (k + 1) else nI k
set_option maxHeartbeats 4000000 in
set_option maxRecDepth 20000 in
theorem lp_X8_judge {κ : Kx} {Φ : Option Value → Mem → Prop} (C : Cx RX8 cX8_judge 3 (some .int) 3 false Φ κ) (S : Mem) (hR : Rs S) (bn : Nat) (hbn : mI S 25 27 = nI bn) (hb15 : bn ≤ 15) (all : Int32) : ∀ (n k : Nat), k + n = bn → Φ (some (.int (jdF all (mA S 40) (mA S 41) n k))) S → G κ 0 0 S 7 [.ref 25, .int all, .int (nI k)] [] := by
  intro n
  induction n with
  | zero =>
    intro k hk hΦ
    refine g_iload_2 C dX8_judge_7 rfl ?_
    refine g_aload_0 C dX8_judge_8 rfl ?_
    refine g_geti C 27 dX8_judge_9 rfl rfl rfl fl_X8_143 ?_
    rw [hbn]
    refine g_icmp_ge (tgt := 42) C dX8_judge_12 rfl (by decide) (fun h12 => ?_) (fun h12 => absurd (nI_le (a := bn) (b := k) (by omega) (by omega)) h12)
    refine g_iconst (v := -1) C dX8_judge_42 rfl (by decide) ?_
    exact g_iret C rfl dX8_judge_43 hΦ
  | succ n ih =>
    intro k hk hΦ
    refine g_iload_2 C dX8_judge_7 rfl ?_
    refine g_aload_0 C dX8_judge_8 rfl ?_
    refine g_geti C 27 dX8_judge_9 rfl rfl rfl fl_X8_143 ?_
    rw [hbn]
    refine g_icmp_ge (tgt := 42) C dX8_judge_12 rfl (by decide) (fun h12 => absurd h12 (nI_ge (a := k) (b := bn) (by omega) (by omega))) (fun h12 => ?_)
    refine g_iload_1 C dX8_judge_15 rfl ?_
    refine g_aload_0 C dX8_judge_16 rfl ?_
    refine g_getr C 28 dX8_judge_17 rfl rfl rfl fl_X8_58 (hR 25 28 40 rfl) ?_
    refine g_iload_2 C dX8_judge_20 rfl ?_
    refine g_iald C dX8_judge_21 rfl rfl (n_in (show k < 15 by omega) (by decide)) ?_
    rw [nI_clamp (show k < 2 ^ 31 by omega)]
    refine g_ishr C dX8_judge_22 rfl ?_
    refine g_iconst (v := 1) C dX8_judge_23 rfl (by decide) ?_
    refine g_iand C dX8_judge_24 rfl ?_
    refine g_aload_0 C dX8_judge_25 rfl ?_
    refine g_getr C 29 dX8_judge_26 rfl rfl rfl fl_X8_61 (hR 25 29 41 rfl) ?_
    refine g_iload_2 C dX8_judge_29 rfl ?_
    refine g_iald C dX8_judge_30 rfl rfl (n_in (show k < 15 by omega) (by decide)) ?_
    rw [nI_clamp (show k < 2 ^ 31 by omega)]
    refine g_icmp_eq (tgt := 36) C dX8_judge_31 rfl (by decide) (fun h31 => ?_) (fun h31 => ?_)
    · skip
      refine g_iinc_2 (z := 1) C rfl dX8_judge_36 rfl (by decide) ?_
      refine g_goto (tgt := 7) C dX8_judge_39 (by decide) ?_
      rw [nI_1]
      exact ih (k + 1) (by omega) (by rw [show jdF all (mA S 40) (mA S 41) (n + 1) k = jdF all (mA S 40) (mA S 41) n (k + 1) from if_pos h31] at hΦ; exact hΦ)
    · skip
      refine g_iload_2 C dX8_judge_34 rfl ?_
      exact g_iret C rfl dX8_judge_35 (by rw [show jdF all (mA S 40) (mA S 41) (n + 1) k = nI k from if_neg h31] at hΦ; exact hΦ)

set_option maxHeartbeats 4000000 in
set_option maxRecDepth 20000 in
theorem ok_X8_judge (S : Mem) (hR : Rs S) (nr : Nat) (hnr : mI S 25 1 = nI nr) (hT : Tn nr (mA S 27)) (bn : Nat) (hbn : mI S 25 27 = nI bn) (hb15 : bn ≤ 15) : Ok yX8_judge cX8_judge 3 (some .int) 3 0 0 [.ref 25] S (RI (jdF (clo nr (mA S 27) (mA S 28) (alw (nI nr) (mA S 29 2)) (mA S 29 0)) (mA S 40) (mA S 41) bn 0) S) := by
  refine Ok.of (by decide) (Nat.le_of_ble_eq_true rfl) rfl (fun κ C hx => ?_)
  have C : Cx RX8 cX8_judge 3 (some .int) 3 false _ κ := C
  refine g_aload_0 C dX8_judge_0 rfl ?_
  refine g_cV0i C dX8_judge_1 rfl ml_X8_155 mz_X8_followsNow (ok_X8_followsNow S hR nr hnr hT) (by decide) rfl rfl rfl rfl (Nat.le_of_ble_eq_true rfl) (fun hn1 => ?_)
  refine g_istore_1 C rfl dX8_judge_4 rfl ?_
  refine g_iconst (v := 0) C dX8_judge_5 rfl (by decide) ?_
  refine g_istore_2 C rfl dX8_judge_6 rfl ?_
  exact lp_X8_judge C S hR bn hbn hb15 _ bn 0 (by omega) ⟨rfl, rfl⟩
end
