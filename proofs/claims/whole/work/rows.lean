section
-- ===== PART A: goes FIRST, ahead of the names: the tables' words, and 'selects' of the private methods out of them =====
/-- a private method of a class that the tables say can be made, by its rows of tables_1 -/
def lw_okq (q : MethodName × Nat) : Prop := (q.1.cls ≠ "java/lang/invoke/MethodHandle" ∧ q.1.cls ≠ "java/lang/invoke/VarHandle") ∧ Cond.instantiable q.1.cls q.2 ∈ tables_1 ∧ Cond.privateMethod q.1 ∈ tables_1 ∧ Cond.instanceMethod q.1 ∈ tables_1
theorem lw_p0 : lw_okq (⟨"HammerEggs$Ring", "copyFrom", "(LHammerEggs$Ring;)V"⟩, 5) := ⟨⟨by decide +kernel, by decide +kernel⟩, List.mem_of_getElem? (i := 25) (by decide +kernel), List.mem_of_getElem? (i := 158) (by decide +kernel), List.mem_of_getElem? (i := 159) (by decide +kernel)⟩
theorem lw_p1 : lw_okq (⟨"HammerEggs$Juggler", "copyFrom", "(LHammerEggs$Juggler;)V"⟩, 5) := ⟨⟨by decide +kernel, by decide +kernel⟩, List.mem_of_getElem? (i := 32) (by decide +kernel), List.mem_of_getElem? (i := 162) (by decide +kernel), List.mem_of_getElem? (i := 163) (by decide +kernel)⟩
theorem lw_p2 : lw_okq (⟨"HammerEggs$Pattern", "copyFrom", "(LHammerEggs$Pattern;)V"⟩, 3) := ⟨⟨by decide +kernel, by decide +kernel⟩, List.mem_of_getElem? (i := 38) (by decide +kernel), List.mem_of_getElem? (i := 166) (by decide +kernel), List.mem_of_getElem? (i := 167) (by decide +kernel)⟩
theorem lw_p3 : lw_okq (⟨"HammerEggs$Thing", "copyFrom", "(LHammerEggs$Thing;)V"⟩, 8) := ⟨⟨by decide +kernel, by decide +kernel⟩, List.mem_of_getElem? (i := 85) (by decide +kernel), List.mem_of_getElem? (i := 170) (by decide +kernel), List.mem_of_getElem? (i := 171) (by decide +kernel)⟩
theorem lw_p4 : lw_okq (⟨"HammerEggs$Ring", "playBeat", "()I"⟩, 5) := ⟨⟨by decide +kernel, by decide +kernel⟩, List.mem_of_getElem? (i := 25) (by decide +kernel), List.mem_of_getElem? (i := 174) (by decide +kernel), List.mem_of_getElem? (i := 175) (by decide +kernel)⟩
theorem lw_p5 : lw_okq (⟨"HammerEggs$Ring", "comeDown", "(I)I"⟩, 5) := ⟨⟨by decide +kernel, by decide +kernel⟩, List.mem_of_getElem? (i := 25) (by decide +kernel), List.mem_of_getElem? (i := 178) (by decide +kernel), List.mem_of_getElem? (i := 179) (by decide +kernel)⟩
theorem lw_p6 : lw_okq (⟨"HammerEggs$Thing", "comesDownIn", "(I)Z"⟩, 8) := ⟨⟨by decide +kernel, by decide +kernel⟩, List.mem_of_getElem? (i := 85) (by decide +kernel), List.mem_of_getElem? (i := 182) (by decide +kernel), List.mem_of_getElem? (i := 183) (by decide +kernel)⟩
theorem lw_p7 : lw_okq (⟨"HammerEggs$Ring", "hasJuggler", "(I)Z"⟩, 5) := ⟨⟨by decide +kernel, by decide +kernel⟩, List.mem_of_getElem? (i := 25) (by decide +kernel), List.mem_of_getElem? (i := 186) (by decide +kernel), List.mem_of_getElem? (i := 187) (by decide +kernel)⟩
theorem lw_p8 : lw_okq (⟨"HammerEggs$Juggler", "canCatch", "(II)Z"⟩, 5) := ⟨⟨by decide +kernel, by decide +kernel⟩, List.mem_of_getElem? (i := 32) (by decide +kernel), List.mem_of_getElem? (i := 190) (by decide +kernel), List.mem_of_getElem? (i := 191) (by decide +kernel)⟩
theorem lw_p9 : lw_okq (⟨"HammerEggs$Ring", "putIntoHand", "(III)V"⟩, 5) := ⟨⟨by decide +kernel, by decide +kernel⟩, List.mem_of_getElem? (i := 25) (by decide +kernel), List.mem_of_getElem? (i := 194) (by decide +kernel), List.mem_of_getElem? (i := 195) (by decide +kernel)⟩
theorem lw_p10 : lw_okq (⟨"HammerEggs$Juggler", "miss", "(LHammerEggs$Thing;)V"⟩, 5) := ⟨⟨by decide +kernel, by decide +kernel⟩, List.mem_of_getElem? (i := 32) (by decide +kernel), List.mem_of_getElem? (i := 198) (by decide +kernel), List.mem_of_getElem? (i := 199) (by decide +kernel)⟩
theorem lw_p11 : lw_okq (⟨"HammerEggs$Thing", "fall", "()V"⟩, 8) := ⟨⟨by decide +kernel, by decide +kernel⟩, List.mem_of_getElem? (i := 85) (by decide +kernel), List.mem_of_getElem? (i := 202) (by decide +kernel), List.mem_of_getElem? (i := 203) (by decide +kernel)⟩
theorem lw_p12 : lw_okq (⟨"HammerEggs$Ring", "throwFrom", "(LHammerEggs$Juggler;I)V"⟩, 5) := ⟨⟨by decide +kernel, by decide +kernel⟩, List.mem_of_getElem? (i := 25) (by decide +kernel), List.mem_of_getElem? (i := 206) (by decide +kernel), List.mem_of_getElem? (i := 207) (by decide +kernel)⟩
theorem lw_p13 : lw_okq (⟨"HammerEggs$Pattern", "placeIn", "(I)I"⟩, 3) := ⟨⟨by decide +kernel, by decide +kernel⟩, List.mem_of_getElem? (i := 38) (by decide +kernel), List.mem_of_getElem? (i := 210) (by decide +kernel), List.mem_of_getElem? (i := 211) (by decide +kernel)⟩
theorem lw_p14 : lw_okq (⟨"HammerEggs$Ring", "hasThing", "(I)Z"⟩, 5) := ⟨⟨by decide +kernel, by decide +kernel⟩, List.mem_of_getElem? (i := 25) (by decide +kernel), List.mem_of_getElem? (i := 217) (by decide +kernel), List.mem_of_getElem? (i := 218) (by decide +kernel)⟩
theorem lw_p15 : lw_okq (⟨"HammerEggs$Thing", "fly", "(III)V"⟩, 8) := ⟨⟨by decide +kernel, by decide +kernel⟩, List.mem_of_getElem? (i := 85) (by decide +kernel), List.mem_of_getElem? (i := 221) (by decide +kernel), List.mem_of_getElem? (i := 222) (by decide +kernel)⟩
def lw_privs_1 : List (MethodName × Nat) := [(⟨"HammerEggs$Ring", "copyFrom", "(LHammerEggs$Ring;)V"⟩, 5), (⟨"HammerEggs$Juggler", "copyFrom", "(LHammerEggs$Juggler;)V"⟩, 5), (⟨"HammerEggs$Pattern", "copyFrom", "(LHammerEggs$Pattern;)V"⟩, 3), (⟨"HammerEggs$Thing", "copyFrom", "(LHammerEggs$Thing;)V"⟩, 8), (⟨"HammerEggs$Ring", "playBeat", "()I"⟩, 5), (⟨"HammerEggs$Ring", "comeDown", "(I)I"⟩, 5), (⟨"HammerEggs$Thing", "comesDownIn", "(I)Z"⟩, 8), (⟨"HammerEggs$Ring", "hasJuggler", "(I)Z"⟩, 5), (⟨"HammerEggs$Juggler", "canCatch", "(II)Z"⟩, 5), (⟨"HammerEggs$Ring", "putIntoHand", "(III)V"⟩, 5), (⟨"HammerEggs$Juggler", "miss", "(LHammerEggs$Thing;)V"⟩, 5), (⟨"HammerEggs$Thing", "fall", "()V"⟩, 8), (⟨"HammerEggs$Ring", "throwFrom", "(LHammerEggs$Juggler;I)V"⟩, 5), (⟨"HammerEggs$Pattern", "placeIn", "(I)I"⟩, 3), (⟨"HammerEggs$Ring", "hasThing", "(I)Z"⟩, 5), (⟨"HammerEggs$Thing", "fly", "(III)V"⟩, 8)]
theorem lw_r1 : ∀ q ∈ lw_privs_1, lw_okq q := List.forall_mem_cons.mpr ⟨lw_p0, List.forall_mem_cons.mpr ⟨lw_p1, List.forall_mem_cons.mpr ⟨lw_p2, List.forall_mem_cons.mpr ⟨lw_p3, List.forall_mem_cons.mpr ⟨lw_p4, List.forall_mem_cons.mpr ⟨lw_p5, List.forall_mem_cons.mpr ⟨lw_p6, List.forall_mem_cons.mpr ⟨lw_p7, List.forall_mem_cons.mpr ⟨lw_p8, List.forall_mem_cons.mpr ⟨lw_p9, List.forall_mem_cons.mpr ⟨lw_p10, List.forall_mem_cons.mpr ⟨lw_p11, List.forall_mem_cons.mpr ⟨lw_p12, List.forall_mem_cons.mpr ⟨lw_p13, List.forall_mem_cons.mpr ⟨lw_p14, List.forall_mem_cons.mpr ⟨lw_p15, fun _ h => absurd h List.not_mem_nil⟩⟩⟩⟩⟩⟩⟩⟩⟩⟩⟩⟩⟩⟩⟩⟩
theorem lw_p16 : lw_okq (⟨"HammerEggs$Thing", "beatsInAir", "(I)I"⟩, 8) := ⟨⟨by decide +kernel, by decide +kernel⟩, List.mem_of_getElem? (i := 85) (by decide +kernel), List.mem_of_getElem? (i := 225) (by decide +kernel), List.mem_of_getElem? (i := 226) (by decide +kernel)⟩
theorem lw_p17 : lw_okq (⟨"HammerEggs$Ring", "allThrown", "()I"⟩, 5) := ⟨⟨by decide +kernel, by decide +kernel⟩, List.mem_of_getElem? (i := 25) (by decide +kernel), List.mem_of_getElem? (i := 233) (by decide +kernel), List.mem_of_getElem? (i := 234) (by decide +kernel)⟩
theorem lw_p18 : lw_okq (⟨"HammerEggs$Ring", "tellCount", "(I)I"⟩, 5) := ⟨⟨by decide +kernel, by decide +kernel⟩, List.mem_of_getElem? (i := 25) (by decide +kernel), List.mem_of_getElem? (i := 243) (by decide +kernel), List.mem_of_getElem? (i := 244) (by decide +kernel)⟩
theorem lw_p19 : lw_okq (⟨"HammerEggs$Ring", "thingsIn", "(I)I"⟩, 5) := ⟨⟨by decide +kernel, by decide +kernel⟩, List.mem_of_getElem? (i := 25) (by decide +kernel), List.mem_of_getElem? (i := 247) (by decide +kernel), List.mem_of_getElem? (i := 248) (by decide +kernel)⟩
theorem lw_p20 : lw_okq (⟨"HammerEggs$Ring", "allFell", "()I"⟩, 5) := ⟨⟨by decide +kernel, by decide +kernel⟩, List.mem_of_getElem? (i := 25) (by decide +kernel), List.mem_of_getElem? (i := 251) (by decide +kernel), List.mem_of_getElem? (i := 252) (by decide +kernel)⟩
theorem lw_p21 : lw_okq (⟨"HammerEggs$Ring", "tellJuggler", "(II)I"⟩, 5) := ⟨⟨by decide +kernel, by decide +kernel⟩, List.mem_of_getElem? (i := 25) (by decide +kernel), List.mem_of_getElem? (i := 256) (by decide +kernel), List.mem_of_getElem? (i := 257) (by decide +kernel)⟩
theorem lw_p22 : lw_okq (⟨"HammerEggs$Ring", "thingsFlyingTo", "(I)I"⟩, 5) := ⟨⟨by decide +kernel, by decide +kernel⟩, List.mem_of_getElem? (i := 25) (by decide +kernel), List.mem_of_getElem? (i := 260) (by decide +kernel), List.mem_of_getElem? (i := 261) (by decide +kernel)⟩
theorem lw_p23 : lw_okq (⟨"HammerEggs$Pattern", "addTo", "(J)J"⟩, 3) := ⟨⟨by decide +kernel, by decide +kernel⟩, List.mem_of_getElem? (i := 38) (by decide +kernel), List.mem_of_getElem? (i := 264) (by decide +kernel), List.mem_of_getElem? (i := 265) (by decide +kernel)⟩
theorem lw_p24 : lw_okq (⟨"HammerEggs$Ring", "tellThing", "(II)I"⟩, 5) := ⟨⟨by decide +kernel, by decide +kernel⟩, List.mem_of_getElem? (i := 25) (by decide +kernel), List.mem_of_getElem? (i := 269) (by decide +kernel), List.mem_of_getElem? (i := 270) (by decide +kernel)⟩
theorem lw_p25 : lw_okq (⟨"java/lang/Throwable", "fillInStackTrace", "(I)Ljava/lang/Throwable;"⟩, 6) := ⟨⟨by decide +kernel, by decide +kernel⟩, List.mem_of_getElem? (i := 320) (by decide +kernel), List.mem_of_getElem? (i := 318) (by decide +kernel), List.mem_of_getElem? (i := 319) (by decide +kernel)⟩
theorem lw_p26 : lw_okq (⟨"HammerEggs$Ring", "addJuggler", "(I)I"⟩, 5) := ⟨⟨by decide +kernel, by decide +kernel⟩, List.mem_of_getElem? (i := 25) (by decide +kernel), List.mem_of_getElem? (i := 366) (by decide +kernel), List.mem_of_getElem? (i := 367) (by decide +kernel)⟩
theorem lw_p27 : lw_okq (⟨"HammerEggs$Pattern", "write", "(III)V"⟩, 3) := ⟨⟨by decide +kernel, by decide +kernel⟩, List.mem_of_getElem? (i := 38) (by decide +kernel), List.mem_of_getElem? (i := 370) (by decide +kernel), List.mem_of_getElem? (i := 371) (by decide +kernel)⟩
theorem lw_p28 : lw_okq (⟨"HammerEggs", "testJuggler", "(I)V"⟩, 2) := ⟨⟨by decide +kernel, by decide +kernel⟩, List.mem_of_getElem? (i := 17) (by decide +kernel), List.mem_of_getElem? (i := 382) (by decide +kernel), List.mem_of_getElem? (i := 383) (by decide +kernel)⟩
theorem lw_p29 : lw_okq (⟨"HammerEggs", "testPlace", "(II)V"⟩, 2) := ⟨⟨by decide +kernel, by decide +kernel⟩, List.mem_of_getElem? (i := 17) (by decide +kernel), List.mem_of_getElem? (i := 416) (by decide +kernel), List.mem_of_getElem? (i := 417) (by decide +kernel)⟩
theorem lw_p30 : lw_okq (⟨"HammerEggs$Ring", "addThing", "(I)I"⟩, 5) := ⟨⟨by decide +kernel, by decide +kernel⟩, List.mem_of_getElem? (i := 25) (by decide +kernel), List.mem_of_getElem? (i := 441) (by decide +kernel), List.mem_of_getElem? (i := 442) (by decide +kernel)⟩
theorem lw_p31 : lw_okq (⟨"HammerEggs", "testThing", "(I)V"⟩, 2) := ⟨⟨by decide +kernel, by decide +kernel⟩, List.mem_of_getElem? (i := 17) (by decide +kernel), List.mem_of_getElem? (i := 452) (by decide +kernel), List.mem_of_getElem? (i := 453) (by decide +kernel)⟩
def lw_privs_2 : List (MethodName × Nat) := [(⟨"HammerEggs$Thing", "beatsInAir", "(I)I"⟩, 8), (⟨"HammerEggs$Ring", "allThrown", "()I"⟩, 5), (⟨"HammerEggs$Ring", "tellCount", "(I)I"⟩, 5), (⟨"HammerEggs$Ring", "thingsIn", "(I)I"⟩, 5), (⟨"HammerEggs$Ring", "allFell", "()I"⟩, 5), (⟨"HammerEggs$Ring", "tellJuggler", "(II)I"⟩, 5), (⟨"HammerEggs$Ring", "thingsFlyingTo", "(I)I"⟩, 5), (⟨"HammerEggs$Pattern", "addTo", "(J)J"⟩, 3), (⟨"HammerEggs$Ring", "tellThing", "(II)I"⟩, 5), (⟨"java/lang/Throwable", "fillInStackTrace", "(I)Ljava/lang/Throwable;"⟩, 6), (⟨"HammerEggs$Ring", "addJuggler", "(I)I"⟩, 5), (⟨"HammerEggs$Pattern", "write", "(III)V"⟩, 3), (⟨"HammerEggs", "testJuggler", "(I)V"⟩, 2), (⟨"HammerEggs", "testPlace", "(II)V"⟩, 2), (⟨"HammerEggs$Ring", "addThing", "(I)I"⟩, 5), (⟨"HammerEggs", "testThing", "(I)V"⟩, 2)]
theorem lw_r2 : ∀ q ∈ lw_privs_2, lw_okq q := List.forall_mem_cons.mpr ⟨lw_p16, List.forall_mem_cons.mpr ⟨lw_p17, List.forall_mem_cons.mpr ⟨lw_p18, List.forall_mem_cons.mpr ⟨lw_p19, List.forall_mem_cons.mpr ⟨lw_p20, List.forall_mem_cons.mpr ⟨lw_p21, List.forall_mem_cons.mpr ⟨lw_p22, List.forall_mem_cons.mpr ⟨lw_p23, List.forall_mem_cons.mpr ⟨lw_p24, List.forall_mem_cons.mpr ⟨lw_p25, List.forall_mem_cons.mpr ⟨lw_p26, List.forall_mem_cons.mpr ⟨lw_p27, List.forall_mem_cons.mpr ⟨lw_p28, List.forall_mem_cons.mpr ⟨lw_p29, List.forall_mem_cons.mpr ⟨lw_p30, List.forall_mem_cons.mpr ⟨lw_p31, fun _ h => absurd h List.not_mem_nil⟩⟩⟩⟩⟩⟩⟩⟩⟩⟩⟩⟩⟩⟩⟩⟩
theorem lw_p32 : lw_okq (⟨"HammerEggs$Juggler", "thingsHeld", "()I"⟩, 5) := ⟨⟨by decide +kernel, by decide +kernel⟩, List.mem_of_getElem? (i := 32) (by decide +kernel), List.mem_of_getElem? (i := 462) (by decide +kernel), List.mem_of_getElem? (i := 463) (by decide +kernel)⟩
theorem lw_p33 : lw_okq (⟨"HammerEggs$Pattern", "landsApart", "()Z"⟩, 3) := ⟨⟨by decide +kernel, by decide +kernel⟩, List.mem_of_getElem? (i := 38) (by decide +kernel), List.mem_of_getElem? (i := 487) (by decide +kernel), List.mem_of_getElem? (i := 488) (by decide +kernel)⟩
theorem lw_p34 : lw_okq (⟨"HammerEggs$Pattern", "ballsAsked", "()I"⟩, 3) := ⟨⟨by decide +kernel, by decide +kernel⟩, List.mem_of_getElem? (i := 38) (by decide +kernel), List.mem_of_getElem? (i := 498) (by decide +kernel), List.mem_of_getElem? (i := 499) (by decide +kernel)⟩
theorem lw_p35 : lw_okq (⟨"HammerEggs$Pattern", "shortestLength", "()I"⟩, 3) := ⟨⟨by decide +kernel, by decide +kernel⟩, List.mem_of_getElem? (i := 38) (by decide +kernel), List.mem_of_getElem? (i := 509) (by decide +kernel), List.mem_of_getElem? (i := 510) (by decide +kernel)⟩
theorem lw_p36 : lw_okq (⟨"HammerEggs$Pattern", "repeatsAfter", "(I)Z"⟩, 3) := ⟨⟨by decide +kernel, by decide +kernel⟩, List.mem_of_getElem? (i := 38) (by decide +kernel), List.mem_of_getElem? (i := 513) (by decide +kernel), List.mem_of_getElem? (i := 514) (by decide +kernel)⟩
theorem lw_p37 : lw_okq (⟨"HammerEggs$Ring", "play", "(I)I"⟩, 5) := ⟨⟨by decide +kernel, by decide +kernel⟩, List.mem_of_getElem? (i := 25) (by decide +kernel), List.mem_of_getElem? (i := 528) (by decide +kernel), List.mem_of_getElem? (i := 529) (by decide +kernel)⟩
theorem lw_p38 : lw_okq (⟨"HammerEggs$Ring", "allBruises", "()I"⟩, 5) := ⟨⟨by decide +kernel, by decide +kernel⟩, List.mem_of_getElem? (i := 25) (by decide +kernel), List.mem_of_getElem? (i := 548) (by decide +kernel), List.mem_of_getElem? (i := 549) (by decide +kernel)⟩
theorem lw_p39 : lw_okq (⟨"HammerEggs", "fallenWith", "(IIII)I"⟩, 2) := ⟨⟨by decide +kernel, by decide +kernel⟩, List.mem_of_getElem? (i := 17) (by decide +kernel), List.mem_of_getElem? (i := 559) (by decide +kernel), List.mem_of_getElem? (i := 560) (by decide +kernel)⟩
theorem lw_p40 : lw_okq (⟨"HammerEggsModel", "no", "(I)I"⟩, 10) := ⟨⟨by decide +kernel, by decide +kernel⟩, List.mem_of_getElem? (i := 563) (by decide +kernel), List.mem_of_getElem? (i := 667) (by decide +kernel), List.mem_of_getElem? (i := 668) (by decide +kernel)⟩
theorem lw_p41 : lw_okq (⟨"HammerEggsModel", "isJuggler", "(I)Z"⟩, 10) := ⟨⟨by decide +kernel, by decide +kernel⟩, List.mem_of_getElem? (i := 563) (by decide +kernel), List.mem_of_getElem? (i := 675) (by decide +kernel), List.mem_of_getElem? (i := 676) (by decide +kernel)⟩
theorem lw_p42 : lw_okq (⟨"HammerEggsModel", "isPlace", "(II)Z"⟩, 10) := ⟨⟨by decide +kernel, by decide +kernel⟩, List.mem_of_getElem? (i := 563) (by decide +kernel), List.mem_of_getElem? (i := 683) (by decide +kernel), List.mem_of_getElem? (i := 684) (by decide +kernel)⟩
theorem lw_p43 : lw_okq (⟨"HammerEggsModel", "isThing", "(I)Z"⟩, 10) := ⟨⟨by decide +kernel, by decide +kernel⟩, List.mem_of_getElem? (i := 563) (by decide +kernel), List.mem_of_getElem? (i := 699) (by decide +kernel), List.mem_of_getElem? (i := 700) (by decide +kernel)⟩
theorem lw_p44 : lw_okq (⟨"HammerEggsModel", "holds", "(I)I"⟩, 10) := ⟨⟨by decide +kernel, by decide +kernel⟩, List.mem_of_getElem? (i := 563) (by decide +kernel), List.mem_of_getElem? (i := 703) (by decide +kernel), List.mem_of_getElem? (i := 704) (by decide +kernel)⟩
theorem lw_p45 : lw_okq (⟨"HammerEggsModel", "thingTold", "(II)I"⟩, 10) := ⟨⟨by decide +kernel, by decide +kernel⟩, List.mem_of_getElem? (i := 563) (by decide +kernel), List.mem_of_getElem? (i := 711) (by decide +kernel), List.mem_of_getElem? (i := 712) (by decide +kernel)⟩
theorem lw_p46 : lw_okq (⟨"HammerEggsModel", "jugglerTold", "(II)I"⟩, 10) := ⟨⟨by decide +kernel, by decide +kernel⟩, List.mem_of_getElem? (i := 563) (by decide +kernel), List.mem_of_getElem? (i := 723) (by decide +kernel), List.mem_of_getElem? (i := 724) (by decide +kernel)⟩
theorem lw_p47 : lw_okq (⟨"HammerEggsModel", "isWritten", "(II)Z"⟩, 10) := ⟨⟨by decide +kernel, by decide +kernel⟩, List.mem_of_getElem? (i := 563) (by decide +kernel), List.mem_of_getElem? (i := 739) (by decide +kernel), List.mem_of_getElem? (i := 740) (by decide +kernel)⟩
def lw_privs_3 : List (MethodName × Nat) := [(⟨"HammerEggs$Juggler", "thingsHeld", "()I"⟩, 5), (⟨"HammerEggs$Pattern", "landsApart", "()Z"⟩, 3), (⟨"HammerEggs$Pattern", "ballsAsked", "()I"⟩, 3), (⟨"HammerEggs$Pattern", "shortestLength", "()I"⟩, 3), (⟨"HammerEggs$Pattern", "repeatsAfter", "(I)Z"⟩, 3), (⟨"HammerEggs$Ring", "play", "(I)I"⟩, 5), (⟨"HammerEggs$Ring", "allBruises", "()I"⟩, 5), (⟨"HammerEggs", "fallenWith", "(IIII)I"⟩, 2), (⟨"HammerEggsModel", "no", "(I)I"⟩, 10), (⟨"HammerEggsModel", "isJuggler", "(I)Z"⟩, 10), (⟨"HammerEggsModel", "isPlace", "(II)Z"⟩, 10), (⟨"HammerEggsModel", "isThing", "(I)Z"⟩, 10), (⟨"HammerEggsModel", "holds", "(I)I"⟩, 10), (⟨"HammerEggsModel", "thingTold", "(II)I"⟩, 10), (⟨"HammerEggsModel", "jugglerTold", "(II)I"⟩, 10), (⟨"HammerEggsModel", "isWritten", "(II)Z"⟩, 10)]
theorem lw_r3 : ∀ q ∈ lw_privs_3, lw_okq q := List.forall_mem_cons.mpr ⟨lw_p32, List.forall_mem_cons.mpr ⟨lw_p33, List.forall_mem_cons.mpr ⟨lw_p34, List.forall_mem_cons.mpr ⟨lw_p35, List.forall_mem_cons.mpr ⟨lw_p36, List.forall_mem_cons.mpr ⟨lw_p37, List.forall_mem_cons.mpr ⟨lw_p38, List.forall_mem_cons.mpr ⟨lw_p39, List.forall_mem_cons.mpr ⟨lw_p40, List.forall_mem_cons.mpr ⟨lw_p41, List.forall_mem_cons.mpr ⟨lw_p42, List.forall_mem_cons.mpr ⟨lw_p43, List.forall_mem_cons.mpr ⟨lw_p44, List.forall_mem_cons.mpr ⟨lw_p45, List.forall_mem_cons.mpr ⟨lw_p46, List.forall_mem_cons.mpr ⟨lw_p47, fun _ h => absurd h List.not_mem_nil⟩⟩⟩⟩⟩⟩⟩⟩⟩⟩⟩⟩⟩⟩⟩⟩
theorem lw_p48 : lw_okq (⟨"HammerEggsModel$State", "comeDown", "(I)V"⟩, 11) := ⟨⟨by decide +kernel, by decide +kernel⟩, List.mem_of_getElem? (i := 569) (by decide +kernel), List.mem_of_getElem? (i := 755) (by decide +kernel), List.mem_of_getElem? (i := 756) (by decide +kernel)⟩
theorem lw_p49 : lw_okq (⟨"HammerEggsModel$State", "throwFrom", "(I)V"⟩, 11) := ⟨⟨by decide +kernel, by decide +kernel⟩, List.mem_of_getElem? (i := 569) (by decide +kernel), List.mem_of_getElem? (i := 759) (by decide +kernel), List.mem_of_getElem? (i := 760) (by decide +kernel)⟩
theorem lw_p50 : lw_okq (⟨"HammerEggsModel", "counted", "(I)I"⟩, 10) := ⟨⟨by decide +kernel, by decide +kernel⟩, List.mem_of_getElem? (i := 563) (by decide +kernel), List.mem_of_getElem? (i := 770) (by decide +kernel), List.mem_of_getElem? (i := 771) (by decide +kernel)⟩
theorem lw_p51 : lw_okq (⟨"HammerEggsModel$State", "copy", "([I[I)V"⟩, 11) := ⟨⟨by decide +kernel, by decide +kernel⟩, List.mem_of_getElem? (i := 569) (by decide +kernel), List.mem_of_getElem? (i := 786) (by decide +kernel), List.mem_of_getElem? (i := 787) (by decide +kernel)⟩
theorem lw_p52 : lw_okq (⟨"HammerEggsModel", "fallsIn", "(I)I"⟩, 10) := ⟨⟨by decide +kernel, by decide +kernel⟩, List.mem_of_getElem? (i := 563) (by decide +kernel), List.mem_of_getElem? (i := 797) (by decide +kernel), List.mem_of_getElem? (i := 798) (by decide +kernel)⟩
def lw_privs_4 : List (MethodName × Nat) := [(⟨"HammerEggsModel$State", "comeDown", "(I)V"⟩, 11), (⟨"HammerEggsModel$State", "throwFrom", "(I)V"⟩, 11), (⟨"HammerEggsModel", "counted", "(I)I"⟩, 10), (⟨"HammerEggsModel$State", "copy", "([I[I)V"⟩, 11), (⟨"HammerEggsModel", "fallsIn", "(I)I"⟩, 10)]
theorem lw_r4 : ∀ q ∈ lw_privs_4, lw_okq q := List.forall_mem_cons.mpr ⟨lw_p48, List.forall_mem_cons.mpr ⟨lw_p49, List.forall_mem_cons.mpr ⟨lw_p50, List.forall_mem_cons.mpr ⟨lw_p51, List.forall_mem_cons.mpr ⟨lw_p52, fun _ h => absurd h List.not_mem_nil⟩⟩⟩⟩⟩
def lw_privs : List (MethodName × Nat) := lw_privs_1 ++ (lw_privs_2 ++ (lw_privs_3 ++ (lw_privs_4)))
def lw_tbl : List Cond := k2_sels lw_privs ++ tables_1
theorem lw_privs_ok : ∀ q ∈ lw_privs, lw_okq q := by
  show ∀ q ∈ lw_privs_1 ++ (lw_privs_2 ++ (lw_privs_3 ++ (lw_privs_4))), lw_okq q
  exact List.forall_mem_append.mpr ⟨lw_r1, List.forall_mem_append.mpr ⟨lw_r2, List.forall_mem_append.mpr ⟨lw_r3, lw_r4⟩⟩⟩
/-- the streams that the claim lets the run draw from -/
abbrev lw_cs : List Choice := [Jvm.Choice.named "NaN.bits"]
theorem lw_bits : nanBits ∈ lw_cs := by first | decide | exact List.mem_cons_self | simp [lw_cs, nanBits]
-- ===== end of PART A; then your names; then what follows =====
end
section
/-! ===== BEGIN words of one list among another's, by their places ===== -/
theorem goodIn_r {big : List Cond} (ws : List Cond) (ps : List Nat) (hp : ws = ps.filterMap (fun i => big[i]?)) (h : ws.all goodWord = true) : GoodIn big ws := by
  intro w hw
  have h1 := List.all_eq_true.mp h w hw
  rw [hp] at hw
  obtain ⟨i, -, hi⟩ := List.mem_filterMap.mp hw
  have hm : w ∈ big := by first | exact List.mem_of_getElem? hi | exact List.getElem?_mem hi
  exact ⟨hm, good_of_word h1⟩
theorem goodIn_app {big a b : List Cond} (ha : GoodIn big a) (hb : GoodIn big b) : GoodIn big (a ++ b) := fun w h => (List.mem_append.mp h).elim (ha w) (hb w)
theorem goodIn_ca {big a b : List Cond} {c : Cond} (ha : GoodIn big (c :: a)) (hb : GoodIn big b) : GoodIn big (c :: (a ++ b)) := fun w h => (List.mem_cons.mp h).elim (fun e => ha w (List.mem_cons.mpr (Or.inl e))) (fun h => (List.mem_append.mp h).elim (fun h => ha w (List.mem_cons.mpr (Or.inr h))) (hb w))
theorem goodIn_sub {big ws : List Cond} (hm : ∀ w ∈ ws, w ∈ big) (h : ws.all goodWord = true) : GoodIn big ws := fun w hw => ⟨hm w hw, good_of_word (List.all_eq_true.mp h w hw)⟩
/-! ===== END ===== -/

/-! ===== BEGIN exceptions that leave a method, and their catching by the caller (launches without stack traces) ===== -/
section VXA
/-! The laws vx_back, vx_callV, vx_callS, vx_callSW, vx_throw0, vx_throwS follow proofs of the library, with one case more: JvmDerived/Free/Laws.lean (Back.of_free), Shelf42/LK1.lean (callV, callS), Shelf/KitTraced.lean (throwNew0V, throwNewS). -/
/-- where a method has thrown q: the class by its name, the cell, what was written, the world -/
def vx_T (XC : String → State → State → Prop) (st : State) (q : Addr) (t : State) (mc ms : Nat) (free : Addr → Prop) : Prop :=
  ∃ (E : String) (ce : Cell) (L : List Loc), XC E st t ∧ t.heap[q]? = some ce ∧ ce.vm = .none ∧ st.vm.findClass E = some ce.cls ∧ st.WarmedH t.vm ∧ st.sameButNew ({ t with vm := st.vm } : State) L mc ms ∧ ∀ z ∈ L, free z.base
def vx_Q (Qc : Array Value → State → Outcome → State → Prop) (XC : String → State → State → Prop) (mc ms : Nat) (free : Addr → Prop) : Array Value → State → Outcome → State → Prop := fun a st o t =>
  (Qc a st o t ∧ ∃ L, FrameEnd st o t L mc ms ∧ ∀ q ∈ L, free q.base) ∨ ∃ q, o = .threw q ∧ vx_T XC st q t mc ms free
/-- a callee that returns or throws -/
def vx_Met (l : Launch) (y : MethodName) (ws : List Cond) (rm : Room) (Pc : Array Value → State → Prop) (Qc : Array Value → State → Outcome → State → Prop) (XC : String → State → State → Prop) (mc ms : Nat) (free : Addr → Prop) : Prop :=
  MetFree l y (headSpec ws rm) Pc (fun _ _ _ _ _ => True) (vx_Q Qc XC mc ms free)
def vx_Post (XC : String → State → State → Prop) (mc ms : Nat) (free : Addr → Prop) : Pt → Array Value → Addr → Pt → Prop := fun A a q B =>
  ∃ (g : JFrame) (mk : MethodId) (t : State) (L : List Loc) (E : String) (ce : Cell), B.U.heap = t.heap ∧ B.U.vm = t.vm ∧ XC E (A.U.calling g mk a) t ∧ t.heap[q]? = some ce ∧ ce.vm = .none ∧ A.U.vm.findClass E = some ce.cls ∧ B.locs = A.locs ++ L ∧ (∀ z ∈ L, free z.base) ∧ B.cells = A.cells + mc ∧ B.slots = A.slots + ms
def vx_Back (l : Launch) (R : Room) (p : Program) (e : Env) (below : List Frame) (s : State) (sargs : Array Value) (y : MethodName) (len W9 : Nat)
    (Pre : Pt → Array Value → Prop) (Post : Pt → Array Value → Option Value → Pt → Prop) (PostX : Pt → Array Value → Addr → Pt → Prop) : Prop :=
  ∀ (m : MethodId) (meth : Method) (c : Code) (A : Pt) (g : JFrame) (ig : Instr) (mk : MethodId) (a : Array Value),
    Stand p l e R s m sargs below meth c A.U A.locs A.cells A.slots → g.method = m → g.locals.size = c.maxLocals → decode c.code g.pc = .ok (ig, len) →
    2 * g.monitorRoom + (g.stack.map fun v => v.category).sum ≤ W9 → A.U.methodNamed? y = some mk → Pre A a →
    (∃ (v : Option Value) (B : Pt), Stand p l e R s m sargs below meth c B.U B.locs B.cells B.slots ∧ Post A a v B ∧
      Steps p.tables e below (doInvoke e (A.U.setTop g) [] mk a).1 (B.U.setTop { g with pc := g.pc + len, stack := v.toList ++ g.stack })) ∨
    (∃ (q : Addr) (B : Pt), Stand p l e R s m sargs below meth c B.U B.locs B.cells B.slots ∧ PostX A a q B ∧
      Steps p.tables e below (doInvoke e (A.U.setTop g) [] mk a).1 ((B.U.setTop g).pushFrame (.throwing q)))
section Payer
variable {l : Launch} {R : Room} {p : Program} {e : Env} {below : List Frame} {s : State} {sargs : Array Value} {y : MethodName} {len W9 : Nat}
theorem vx_back {ws : List Cond} {rm : Room} {Pc : Array Value → State → Prop} {Qc : Array Value → State → Outcome → State → Prop} {XC : String → State → State → Prop} {mc ms : Nat} {free : Addr → Prop} {bytes : ByteArray} {maxL : Nat} {ret : Option FieldType}
    (hM : vx_Met l y ws rm Pc Qc XC mc ms free) (hblind : FrameBlind Pc) (hrc : rm.cells = mc) (hrs : rm.slots = ms)
    (hframes : rm.frames + 1 ≤ R.frames) (hlocals : W9 + (maxL + 11) + rm.locals ≤ R.locals)
    (hws : ∀ w ∈ ws, ∀ a' U, s.WarmedH U.vm → w.before a' U = true) (hcode : Cond.code y bytes maxL ret ∈ ws) (hinit : ∀ a' U, s.WarmedH U.vm → (Cond.initialized y.cls).before a' U = true) :
    vx_Back l R p e below s sargs y len W9 (PreOf R mc ms Pc) (PostOf Qc mc ms free) (vx_Post XC mc ms free) := by
  intro m meth c A g ig mk a X hg hsize hdg hW hn hp
  have h1 : (headSpec ws rm).pre.before a A.U = true := atoms_intro fun w hw => hws w hw _ _ X.warmed
  have h2 : (Cond.code y bytes maxL ret).before a A.U = true := hws _ hcode _ _ X.warmed
  have h3 : (Cond.initialized y.cls).before a A.U = true := hinit _ _ X.warmed
  have h4 : A.cells + (headSpec ws rm).room.cells ≤ R.cells := by rw [show (headSpec ws rm).room.cells = mc from hrc]; exact hp.1
  have h5 : A.slots + (headSpec ws rm).room.slots ≤ R.slots := by rw [show (headSpec ws rm).room.slots = ms from hrs]; exact hp.2.1
  have hPc : Pc a (A.U.calling g mk a) := hblind _ _ _ _ hp.2.2
  obtain ⟨U, Ls, c0, s0⟩ := A
  dsimp only [Pt.U, Pt.locs, Pt.cells, Pt.slots] at h1 h2 h3 h4 h5 X hn hPc ⊢
  obtain ⟨methY, cY, hmY, hcY, -, hlY, -, -, -, -⟩ := Cond.code_spec hn h2
  obtain ⟨kY, hkY, -⟩ := className_of_methodNamed hn
  have hinitY : kY.init = .initialized := Cond.initialized_spec (findClass_of_methodNamed hn) hkY h3
  have h : At U g.method c below := by rw [hg]; exact X.here
  have hlocals9 : W9 + (maxL + 11) + (headSpec ws rm).room.locals ≤ R.locals := hlocals
  have happ : (headSpec ws rm).appliesLoose y e.platform (U.calling g mk a) = true :=
    Spec.appliesLoose_calling (g := g) h hdg hn hkY hinitY
      (X.room_calling (g := g) (R' := (headSpec ws rm).room) hsize hmY hcY hframes (by rw [hlY]; omega) h4 h5) h1
  obtain ⟨mid, hmid⟩ := h.above
  have hfr : (U.setTop g).frames = (.java g :: mid) ++ below := by rw [State.frames_setTop' g h.top, hmid]; rfl
  obtain ⟨o, s₂, hsteps, -, hend, hq⟩ := Steps.callFree hM p X.admits X.cas X.clock (acts := []) hfr happ hPc trivial
  have hq' : vx_Q Qc XC mc ms free a (U.calling g mk a) o s₂ := hq
  rw [State.frames_setTop' g h.top] at hend
  obtain ⟨g₀, hg0⟩ := Option.isSome_iff_exists.mp h.top
  obtain ⟨r, hr⟩ := State.topJava?_eq_some.mp hg0
  have hr' : (({ U with heap := s₂.heap, slotsUsed := s₂.slotsUsed } : State).setVm s₂.vm).frames = .java g₀ :: r := hr
  rcases hq' with ⟨hqc, L, hfe, hL⟩ | ⟨q, rfl, E, ce, L, hx, hce, hcv, hcl, hW₂, hsm, hL⟩
  · obtain ⟨⟨v, rfl⟩, hW₂, e2, q2, q3, q4, q5, q6⟩ := id hfe
    have e3 : s₂ = ({ (U.calling g mk a).setFrames s₂.frames with heap := s₂.heap, slotsUsed := s₂.slotsUsed } : State).setVm s₂.vm := by
      have : s₂ = ({ s₂ with vm := (U.calling g mk a).vm } : State).setVm s₂.vm := rfl
      rw [e2] at this
      exact this
    obtain ⟨c₂, i₂, len₂, hc₂, hd₂, hf₂⟩ := hend
    have hW' : U.WarmedH s₂.vm := hW₂
    have hcc : c₂ = c := by
      have h1 : s₂.code? g.method = U.code? g.method := by
        rw [State.code?_eq, State.code?_eq, hW'.alike.method?]
      exact Option.some.inj (hc₂.symm.trans (h1.trans h.code))
    subst hcc
    have hlen : len₂ = len := by rw [hdg] at hd₂; cases hd₂; rfl
    subst hlen
    have hs₂ : s₂ = (({ U with heap := s₂.heap, slotsUsed := s₂.slotsUsed } : State).setVm s₂.vm).setTop { g with pc := g.pc + len₂, stack := v.toList ++ g.stack } := by
      refine e3.trans ?_
      rw [hf₂, State.calling_eq h.top, State.setFrames_setFrames, State.setTop_of_frames _ hr', hr]
      rfl
    have hsame : U.sameButNew ({ U with heap := s₂.heap, slotsUsed := s₂.slotsUsed } : State) L mc ms := by
      refine ⟨?_, q2, q3, q4, q5, q6⟩
      obtain ⟨t, ht, -⟩ := State.frames_cons hr
      show ({ U with heap := s₂.heap, slotsUsed := s₂.slotsUsed } : State) = { U.setFrames U.frames with heap := s₂.heap, slotsUsed := s₂.slotsUsed }
      rw [State.setFrames_self ht]
    subst hg
    refine Or.inl ⟨v, ⟨(({ U with heap := s₂.heap, slotsUsed := s₂.slotsUsed } : State).setVm s₂.vm), Ls ++ L, c0 + mc, s0 + ms⟩,
      ⟨X.admits, X.cas, X.clock, X.frames, X.room, X.hears, X.method, X.code, (X.here.setHeapUsed s₂.heap s₂.slotsUsed).setVm hW'.alike, X.tail, State.WarmedH.trans X.warmed hW', X.limits, X.bytes, X.same.trans (hsame.setVm s.vm)⟩,
      ⟨g, mk, s₂, L, rfl, rfl, hqc, rfl, hL, rfl, rfl⟩, ?_⟩
    show Steps p.tables e below _ ((({ U with heap := s₂.heap, slotsUsed := s₂.slotsUsed } : State).setVm s₂.vm).setTop { g with pc := g.pc + len₂, stack := v.toList ++ g.stack })
    rw [← hs₂]
    exact hsteps
  · obtain ⟨e2, q2, q3, q4, q5, q6⟩ := id hsm
    have e3 : s₂ = ({ (U.calling g mk a).setFrames s₂.frames with heap := s₂.heap, slotsUsed := s₂.slotsUsed } : State).setVm s₂.vm := by
      have : s₂ = ({ s₂ with vm := (U.calling g mk a).vm } : State).setVm s₂.vm := rfl
      rw [e2] at this
      exact this
    have hf₂ : s₂.frames = .throwing q :: .java g :: U.frames.tail := hend
    have hW' : U.WarmedH s₂.vm := hW₂
    have hs₂ : s₂ = ((({ U with heap := s₂.heap, slotsUsed := s₂.slotsUsed } : State).setVm s₂.vm).setTop g).pushFrame (.throwing q) := by
      refine e3.trans ?_
      rw [hf₂, State.calling_eq h.top, State.setFrames_setFrames, State.pushFrame, State.frames_setTop _ hr', State.setTop_of_frames _ hr', State.setFrames_setFrames, hr]
      rfl
    have hsame : U.sameButNew ({ U with heap := s₂.heap, slotsUsed := s₂.slotsUsed } : State) L mc ms := by
      refine ⟨?_, q2, q3, q4, q5, q6⟩
      obtain ⟨t, ht, -⟩ := State.frames_cons hr
      show ({ U with heap := s₂.heap, slotsUsed := s₂.slotsUsed } : State) = { U.setFrames U.frames with heap := s₂.heap, slotsUsed := s₂.slotsUsed }
      rw [State.setFrames_self ht]
    subst hg
    refine Or.inr ⟨q, ⟨(({ U with heap := s₂.heap, slotsUsed := s₂.slotsUsed } : State).setVm s₂.vm), Ls ++ L, c0 + mc, s0 + ms⟩,
      ⟨X.admits, X.cas, X.clock, X.frames, X.room, X.hears, X.method, X.code, (X.here.setHeapUsed s₂.heap s₂.slotsUsed).setVm hW'.alike, X.tail, State.WarmedH.trans X.warmed hW', X.limits, X.bytes, X.same.trans (hsame.setVm s.vm)⟩,
      ⟨g, mk, s₂, L, E, ce, rfl, rfl, hx, hce, hcv, hcl, rfl, hL, rfl, rfl⟩, ?_⟩
    show Steps p.tables e below _ (((({ U with heap := s₂.heap, slotsUsed := s₂.slotsUsed } : State).setVm s₂.vm).setTop g).pushFrame (.throwing q))
    rw [← hs₂]
    exact hsteps
end Payer
section Calls
variable {p : Program} {l : Launch} {e : Env} {R : Room} {s : State} {m : MethodId} {args : Array Value} {below : List Frame} {meth : Method} {c : Code} {T : State} {locs : List Loc} {cells slots : Nat}
theorem vx_callV (X : Stand p l e R s m args below meth c T locs cells slots) (hexec : p.tables.exec = Jvm.exec) {own C : String} {index : Nat} {y : MethodName} {bytes : ByteArray} {maxL : Nat} {ret : Option FieldType}
    (hown : s.vm.findClass own = some m.cls) (hlink : (Cond.methodLink own index y).before args s = true) (hinst : (Cond.instanceMethod y).before args s = true) (hsel : (Cond.selects C y y).before args s = true)
    (hcode : (Cond.code y bytes maxL ret).before args s = true) (hy : y.cls ≠ "java/lang/invoke/MethodHandle" ∧ y.cls ≠ "java/lang/invoke/VarHandle")
    {W9 : Nat} {Pre : Pt → Array Value → Prop} {Post : Pt → Array Value → Option Value → Pt → Prop} {PostX : Pt → Array Value → Addr → Pt → Prop} (hK : vx_Back l R p e below s args y 3 W9 Pre Post PostX)
    {b : Addr} {cellB : Cell} (hcell : T.heap[b]? = some cellB) (hobj : cellB.vm.isStatics = false) (hcls : s.vm.findClass C = some cellB.cls)
    {g : JFrame} (hg : g.method = m) (hsize : g.locals.size = c.maxLocals) {argsL rest : List Value} (hlen : ∀ sig, parseMethodDescriptor y.desc = some sig → argsL.length = sig.parameters.length)
    (hstack : g.stack = argsL.reverse ++ .ref b :: rest) (hW : 2 * g.monitorRoom + (rest.map fun v => v.category).sum ≤ W9) (hdg : decode c.code g.pc = .ok (.invokevirtual index, 3))
    (hpre : ∀ vm₁, s.WarmedH vm₁ → Pre ⟨T.setVm vm₁, locs, cells, slots⟩ (Value.ref b :: argsL).toArray) :
    (∃ (v : Option Value) (vm₁ : Vm) (B : Pt), s.WarmedH vm₁ ∧ Stand p l e R s m args below meth c B.U B.locs B.cells B.slots ∧ Post ⟨T.setVm vm₁, locs, cells, slots⟩ (Value.ref b :: argsL).toArray v B ∧
      ∀ target, Steps p.tables e below (B.U.setTop { g with pc := g.pc + 3, stack := v.toList ++ rest }) target → Steps p.tables e below (T.setTop g) target) ∨
    (∃ (q : Addr) (vm₁ : Vm) (B : Pt), s.WarmedH vm₁ ∧ Stand p l e R s m args below meth c B.U B.locs B.cells B.slots ∧ PostX ⟨T.setVm vm₁, locs, cells, slots⟩ (Value.ref b :: argsL).toArray q B ∧
      Steps p.tables e below (T.setTop g) ((B.U.setTop { g with stack := rest }).pushFrame (.throwing q))) := by
  obtain ⟨mk, methM, hnamed, hmethM, hstM, habM⟩ := Cond.instanceMethod_spec hinst
  obtain ⟨methM', cM, hmethM', -, -, -, -, -, -, hsigM⟩ := Cond.code_spec hnamed hcode
  cases hmethM.symm.trans hmethM'
  obtain ⟨c2, r2, m2, q1, q2, q3, q4, kP, hkP, hkPi⟩ := Cond.selects_spec hsel
  cases hcls.symm.trans q1
  cases (State.methodFound?_of_named hnamed hy).symm.trans q2
  cases hnamed.symm.trans q3
  have hselP : selectMethod e.platform s.vm cellB.cls mk = .method mk := by rw [Launch.admits_selectMethod X.admits]; exact q4
  obtain ⟨vm₁, X₁, hstep₁⟩ := X.invokevirtual hexec hown hlink hnamed hmethM hstM hkP hkPi hy (a := b) (cell := cellB) hcell
    (fun z h => by rw [h] at hobj; cases hobj) hselP hmethM habM hkP hkPi (g := g) hg (argsL := argsL) (rest := rest) (hlen _ hsigM) hstack hdg
  rcases hK m meth c ⟨T.setVm vm₁, locs, cells, slots⟩ { g with stack := rest } (.invokevirtual index) mk (Value.ref b :: argsL).toArray X₁ hg hsize hdg hW (X₁.named hnamed) (hpre vm₁ X₁.warmed) with ⟨v, B, X', hpost, hsteps⟩ | ⟨q, B, X', hpost, hsteps⟩
  · exact Or.inl ⟨v, vm₁, B, X₁.warmed, X', hpost, fun target h => hstep₁ _ fun acts => by rw [doInvoke_state]; exact hsteps.trans h⟩
  · exact Or.inr ⟨q, vm₁, B, X₁.warmed, X', hpost, hstep₁ _ fun acts => by rw [doInvoke_state]; exact hsteps⟩
theorem vx_callS (X : Stand p l e R s m args below meth c T locs cells slots) (hexec : p.tables.exec = Jvm.exec) {own : String} {index : Nat} {y : MethodName} {bytes : ByteArray} {maxL : Nat} {ret : Option FieldType}
    (hown : s.vm.findClass own = some m.cls) (hlink : (Cond.methodLink own index y).before args s = true) (hstat : (Cond.static y).before args s = true) (hinit : (Cond.initialized y.cls).before args s = true)
    (hcode : (Cond.code y bytes maxL ret).before args s = true) (hy : y.cls ≠ "java/lang/invoke/MethodHandle" ∧ y.cls ≠ "java/lang/invoke/VarHandle")
    {W9 : Nat} {Pre : Pt → Array Value → Prop} {Post : Pt → Array Value → Option Value → Pt → Prop} {PostX : Pt → Array Value → Addr → Pt → Prop} (hK : vx_Back l R p e below s args y 3 W9 Pre Post PostX)
    {g : JFrame} (hg : g.method = m) (hsize : g.locals.size = c.maxLocals) {argsL rest : List Value} (hlen : ∀ sig, parseMethodDescriptor y.desc = some sig → argsL.length = sig.parameters.length)
    (hstack : g.stack = argsL.reverse ++ rest) (hW : 2 * g.monitorRoom + (rest.map fun v => v.category).sum ≤ W9) (hdg : decode c.code g.pc = .ok (.invokestatic index, 3))
    (hpre : ∀ vm₁, s.WarmedH vm₁ → Pre ⟨T.setVm vm₁, locs, cells, slots⟩ argsL.toArray) :
    (∃ (v : Option Value) (vm₁ : Vm) (B : Pt), s.WarmedH vm₁ ∧ Stand p l e R s m args below meth c B.U B.locs B.cells B.slots ∧ Post ⟨T.setVm vm₁, locs, cells, slots⟩ argsL.toArray v B ∧
      ∀ target, Steps p.tables e below (B.U.setTop { g with pc := g.pc + 3, stack := v.toList ++ rest }) target → Steps p.tables e below (T.setTop g) target) ∨
    (∃ (q : Addr) (vm₁ : Vm) (B : Pt), s.WarmedH vm₁ ∧ Stand p l e R s m args below meth c B.U B.locs B.cells B.slots ∧ PostX ⟨T.setVm vm₁, locs, cells, slots⟩ argsL.toArray q B ∧
      Steps p.tables e below (T.setTop g) ((B.U.setTop { g with stack := rest }).pushFrame (.throwing q))) := by
  obtain ⟨mk, hnamed⟩ := Cond.code_named hcode
  obtain ⟨methM, cM, hmethM, -, -, -, -, -, -, hsigM⟩ := Cond.code_spec hnamed hcode
  have hstatic : methM.isStatic = true := Cond.static_spec hnamed hmethM hstat
  obtain ⟨kP, hkP, -⟩ := className_of_methodNamed hnamed
  have hinitP : kP.init = .initialized := Cond.initialized_spec (findClass_of_methodNamed hnamed) hkP hinit
  obtain ⟨vm₁, X₁, hstep₁⟩ := X.invokestatic hexec hown hlink hnamed hmethM hstatic hkP hinitP hy (g := g) hg (argsL := argsL) (rest := rest) (hlen _ hsigM) hstack hdg
  rcases hK m meth c ⟨T.setVm vm₁, locs, cells, slots⟩ { g with stack := rest } (.invokestatic index) mk argsL.toArray X₁ hg hsize hdg hW (X₁.named hnamed) (hpre vm₁ X₁.warmed) with ⟨v, B, X', hpost, hsteps⟩ | ⟨q, B, X', hpost, hsteps⟩
  · exact Or.inl ⟨v, vm₁, B, X₁.warmed, X', hpost, fun target h => hstep₁ _ fun acts => by rw [doInvoke_state]; exact hsteps.trans h⟩
  · exact Or.inr ⟨q, vm₁, B, X₁.warmed, X', hpost, hstep₁ _ fun acts => by rw [doInvoke_state]; exact hsteps⟩
end Calls
theorem vx_cls {s : State} {T : State} {vm₁ : Vm} {E : String} {k : ClassId} (hW : s.WarmedH vm₁) (h : (T.setVm vm₁).vm.findClass E = some k) : s.vm.findClass E = some k := by
  have h1 : vm₁.findClass E = some k := h
  rw [hW.alike.findClass] at h1
  exact h1
/-- the method's frame g, with q thrown over it -/
def vx_W (p : Program) (l : Launch) (e : Env) (R : Room) (s : State) (m : MethodId) (args : Array Value) (below : List Frame) (meth : Method) (c : Code) (H : Heap) (locs : List Loc) (cells slots : Nat) (Q : State → Prop) (g : JFrame) (q : Addr) : Prop :=
  ∀ T : State, T.heap = H → Stand p l e R s m args below meth c T locs cells slots → ∃ t, Steps p.tables e below ((T.setTop g).pushFrame (.throwing q)) t ∧ Q t
def vx_Run (p : Program) (l : Launch) (e : Env) (R : Room) (s : State) (m : MethodId) (args : Array Value) (below : List Frame) (meth : Method) (c : Code) (H : Heap) (locs : List Loc) (cells slots mc ms : Nat) (g : JFrame) (rest : List Value) (Qa : State → Outcome → State → Prop) (XC : String → State → State → Prop) (free : Addr → Prop) : Prop :=
  ∀ T : State, T.heap = H → Stand p l e R s m args below meth c T locs cells slots →
    (∃ (v : Option Value) (st₀ t T' : State) (L : List Loc), st₀.heap = H ∧ Stand p l e R s m args below meth c T' (locs ++ L) (cells + mc) (slots + ms) ∧ (∀ q ∈ L, free q.base) ∧ T'.heap = t.heap ∧ T'.vm = t.vm ∧ Qa st₀ (.returned v) t ∧
      Goes p e below T g T' { g with pc := g.pc + 3, stack := v.toList ++ rest }) ∨
    (∃ (q : Addr) (st₀ t T' : State) (L : List Loc) (E : String) (ce : Cell), st₀.heap = H ∧ Stand p l e R s m args below meth c T' (locs ++ L) (cells + mc) (slots + ms) ∧ (∀ z ∈ L, free z.base) ∧ T'.heap = t.heap ∧ T'.vm = t.vm ∧ XC E st₀ t ∧ t.heap[q]? = some ce ∧ ce.vm = .none ∧ s.vm.findClass E = some ce.cls ∧
      Steps p.tables e below (T.setTop g) ((T'.setTop { g with stack := rest }).pushFrame (.throwing q)))
def vx_X {S : Type} (px : S → Prop) (B : String → S → State → Prop) (A : Nat → Prop) : String → State → State → Prop := fun E st t => ∃ u : S, px u ∧ B E u t ∧ va_F A st t
section Runs
variable {p : Program} {l : Launch} {e : Env} {R : Room} {s : State} {m : MethodId} {args : Array Value} {below : List Frame} {meth : Method} {c : Code} {H : Heap} {locs : List Loc} {cells slots : Nat}
variable {y : MethodName} {bytes cc : ByteArray} {maxL nL mc ms n index : Nat} {ret : Option FieldType} {ws : List Cond} {rm : Room} {Pc : Array Value → State → Prop} {Qc : Array Value → State → Outcome → State → Prop} {XC : String → State → State → Prop} {free : Addr → Prop} {Ts : List Cond} {own C : String} {b : Addr} {As rest : List Value} {g : JFrame}
theorem vx_callBack (cb : CallB R s args own index y bytes maxL ret ws rm mc ms n) (hM : vx_Met l y ws rm Pc Qc XC mc ms free) (hbl : FrameBlind Pc) : vx_Back l R p e below s args y 3 8 (PreOf R mc ms Pc) (PostOf Qc mc ms free) (vx_Post XC mc ms free) := by
  obtain ⟨hrc, hrs, hfr, hlo, hws, hcw, -, hini, -⟩ := cb
  exact vx_back (bytes := bytes) (maxL := maxL) (ret := ret) hM hbl hrc hrs hfr hlo hws hcw (fun a' U hW => word_at hW (Or.inl (by first | rfl | simp [Cond.onTables, Cond.keeps, Cond.steady])) hini)
theorem vx_runV (S : CallFix p m c cc nL s args Ts own) (hM : vx_Met l y ws rm Pc Qc XC mc ms free) (cw : CallW R s args own C index y bytes maxL ret ws rm mc ms n) (hp : PreV s H C b Pc As)
    (hg : g.method = m) (hn : As.length = n) (hsize : g.locals.size = nL) (hstack : g.stack = As.reverse ++ .ref b :: rest) (hW : 2 * g.monitorRoom + (rest.map fun v => v.category).sum ≤ 8) (hdg : decode cc g.pc = .ok (.invokevirtual index, 3)) (hf : cells + mc ≤ R.cells ∧ slots + ms ≤ R.slots) :
    vx_Run p l e R s m args below meth c H locs cells slots mc ms g rest (Qc (Value.ref b :: As).toArray) XC free := by
  have hK : vx_Back l R p e below s args y 3 8 (PreOf R mc ms Pc) (PostOf Qc mc ms free) (vx_Post XC mc ms free) := vx_callBack cw.1 hM hp.1
  obtain ⟨⟨-, -, -, -, -, -, hcode, -, hy, hlen, hl⟩, hin, hse⟩ := cw
  obtain ⟨hx, hb, hml, ho, -⟩ := S
  obtain ⟨-, ⟨cellB, hcB, hoB, hclB⟩, hPc⟩ := hp
  intro T hT X
  rcases vx_callV X hx (C := C) (bytes := bytes) (maxL := maxL) (ret := ret) ho hl hin hse hcode hy hK (by rw [hT]; exact hcB) hoB hclB hg (hsize.trans hml.symm) (argsL := As) (rest := rest) (fun sig h => hn.trans (hlen sig h)) hstack hW (by rw [hb]; exact hdg)
    (fun vm₁ hW₁ => ⟨hf.1, hf.2, hPc (T.setVm vm₁) hT hW₁⟩) with ⟨v, vm₁, ⟨U', l2, c2, s2⟩, hW₁, X', ⟨g', mk, t, L, e1, e2, hq, h1, hL, h2, h3⟩, st⟩ | ⟨q, vm₁, ⟨U', l2, c2, s2⟩, hW₁, X', ⟨g', mk, t, L, E, ce, e1, e2, hq, hce, hcv, hcl, h1, hL, h2, h3⟩, st⟩
  · dsimp only [Pt.U, Pt.locs, Pt.cells, Pt.slots] at X' e1 e2 h1 h2 h3 st
    subst h1; subst h2; subst h3
    exact Or.inl ⟨v, (T.setVm vm₁).calling g' mk (Value.ref b :: As).toArray, t, U', L, hT, X', hL, e1, e2, hq, st⟩
  · dsimp only [Pt.U, Pt.locs, Pt.cells, Pt.slots] at X' e1 e2 h1 h2 h3 st hcl
    subst h1; subst h2; subst h3
    exact Or.inr ⟨q, (T.setVm vm₁).calling g' mk (Value.ref b :: As).toArray, t, U', L, E, ce, hT, X', hL, e1, e2, hq, hce, hcv, vx_cls hW₁ hcl, st⟩
theorem vx_runS (S : CallFix p m c cc nL s args Ts own) (hM : vx_Met l y ws rm Pc Qc XC mc ms free) (cw : CallB R s args own index y bytes maxL ret ws rm mc ms n ∧ (Cond.static y).before args s = true) (hp : PreS s H Pc As)
    (hg : g.method = m) (hn : As.length = n) (hsize : g.locals.size = nL) (hstack : g.stack = As.reverse ++ rest) (hW : 2 * g.monitorRoom + (rest.map fun v => v.category).sum ≤ 8) (hdg : decode cc g.pc = .ok (.invokestatic index, 3)) (hf : cells + mc ≤ R.cells ∧ slots + ms ≤ R.slots) :
    vx_Run p l e R s m args below meth c H locs cells slots mc ms g rest (Qc As.toArray) XC free := by
  have hK : vx_Back l R p e below s args y 3 8 (PreOf R mc ms Pc) (PostOf Qc mc ms free) (vx_Post XC mc ms free) := vx_callBack cw.1 hM hp.1
  obtain ⟨⟨-, -, -, -, -, -, hcode, hini, hy, hlen, hl⟩, hstt⟩ := cw
  obtain ⟨hx, hb, hml, ho, -⟩ := S
  intro T hT X
  rcases vx_callS X hx (bytes := bytes) (maxL := maxL) (ret := ret) ho hl hstt hini hcode hy hK hg (hsize.trans hml.symm) (argsL := As) (rest := rest) (fun sig h => hn.trans (hlen sig h)) hstack hW (by rw [hb]; exact hdg)
    (fun vm₁ hW₁ => ⟨hf.1, hf.2, hp.2 (T.setVm vm₁) hT hW₁⟩) with ⟨v, vm₁, ⟨U', l2, c2, s2⟩, hW₁, X', ⟨g', mk, t, L, e1, e2, hq, h1, hL, h2, h3⟩, st⟩ | ⟨q, vm₁, ⟨U', l2, c2, s2⟩, hW₁, X', ⟨g', mk, t, L, E, ce, e1, e2, hq, hce, hcv, hcl, h1, hL, h2, h3⟩, st⟩
  · dsimp only [Pt.U, Pt.locs, Pt.cells, Pt.slots] at X' e1 e2 h1 h2 h3 st
    subst h1; subst h2; subst h3
    exact Or.inl ⟨v, (T.setVm vm₁).calling g' mk As.toArray, t, U', L, hT, X', hL, e1, e2, hq, st⟩
  · dsimp only [Pt.U, Pt.locs, Pt.cells, Pt.slots] at X' e1 e2 h1 h2 h3 st hcl
    subst h1; subst h2; subst h3
    exact Or.inr ⟨q, (T.setVm vm₁).calling g' mk As.toArray, t, U', L, E, ce, hT, X', hL, e1, e2, hq, hce, hcv, vx_cls hW₁ hcl, st⟩
end Runs
section Rows
variable {p : Program} {l : Launch} {e : Env} {R : Room} {s : State} {m : MethodId} {args : Array Value} {below : List Frame} {meth : Method} {c : Code} {H : Heap} {locs : List Loc} {cells slots : Nat} {Q : State → Prop}
variable {mc ms : Nat} {free : Addr → Prop} {A0 A1 : Nat → Prop} {H0 : Heap} {a : Array Value} {pc : Nat} {ls : Array Slot} {st0 rest : List Value}
theorem vx_keep {st₀ t T' : State} {L : List Loc} (h0 : st₀.heap = H) (e1 : T'.heap = t.heap) (hS : va_S A0 H0 H locs) (hA : ∀ q, q < H.size → A1 q → A0 q) (hf : ∀ q, free q → A0 q) (hL : ∀ q ∈ L, free q.base) (hF : va_F A1 st₀ t) :
    H.size ≤ T'.heap.size ∧ (∀ q : Nat, q < H.size → ¬ A1 q → T'.heap[q]? = H[q]?) ∧ va_S A0 H0 T'.heap (locs ++ L) := by
  obtain ⟨hz, hk⟩ := hF
  rw [h0] at hz hk
  exact ⟨by rw [e1]; exact hz, fun q h1 h2 => by rw [e1]; exact hk q h1 h2,
    ⟨Nat.le_trans hS.1 (by rw [e1]; exact hz), fun q h1 h2 => by rw [e1, hk q (Nat.lt_of_lt_of_le h1 hS.1) (fun z => h2 (hA q (Nat.lt_of_lt_of_le h1 hS.1) z))]; exact hS.2.1 q h1 h2, fun q hq => by
      rcases List.mem_append.mp hq with h | h
      · exact hS.2.2 q h
      · exact hf _ (hL q h)⟩⟩
theorem vx_calli {S SX : Type} {post : Int32 → S → Prop} {px : SX → Prop} {B : S → State → Prop} {BX : String → SX → State → Prop} {AX : Nat → Prop} (hr : vx_Run p l e R s m args below meth c H locs cells slots mc ms (F0 m pc ls st0) rest (va_Qi post B A1 a) (vx_X px BX AX) free) (hS : va_S A0 H0 H locs) (hA : ∀ q, q < H.size → A1 q → A0 q) (hf : ∀ q, free q → A0 q) (hAX : ∀ q, q < H.size → AX q → A0 q)
    (kx : ∀ (E : String) (ce : Cell) (q9 : Addr) (u : SX) (t : State) (H1 : Heap) (locs1 : List Loc), t.heap = H1 → s.vm.Alike t.vm → px u → BX E u t → H.size ≤ H1.size → (∀ q : Nat, q < H.size → ¬ AX q → H1[q]? = H[q]?) → va_S A0 H0 H1 locs1 → H1[q9]? = some ce → ce.vm = .none → s.vm.findClass E = some ce.cls → vx_W p l e R s m args below meth c H1 locs1 (cells + mc) (slots + ms) Q (F0 m pc ls rest) q9)
    (kk : ∀ (r : Int32) (u : S) (t : State) (H1 : Heap) (locs1 : List Loc), t.heap = H1 → s.vm.Alike t.vm → post r u → B u t → H.size ≤ H1.size → (∀ q : Nat, q < H.size → ¬ A1 q → H1[q]? = H[q]?) → va_S A0 H0 H1 locs1 → W p l e R s m args below meth c H1 locs1 (cells + mc) (slots + ms) Q (F0 m (pc + 3) ls (.int r :: rest))) : W p l e R s m args below meth c H locs cells slots Q (F0 m pc ls st0) := by
  intro T hT X
  rcases hr T hT X with ⟨v, st₀, t, T', L, h0, X', hL, e1, e2, ⟨⟨r, u, hv, hp, hb⟩, hF⟩, st⟩ | ⟨q, st₀, t, T', L, E, ce, h0, X', hL, e1, e2, ⟨u, hp, hb, hF⟩, hce, hcv, hcl, st⟩
  · cases hv
    obtain ⟨k1, k2, k3⟩ := vx_keep h0 e1 hS hA hf hL hF
    obtain ⟨t2, a1, b1⟩ := kk r u t T'.heap (locs ++ L) e1.symm (by rw [← e2]; exact X'.warmed.alike) hp hb k1 k2 k3 T' rfl X'
    exact ⟨t2, st t2 a1, b1⟩
  · obtain ⟨k1, k2, k3⟩ := vx_keep h0 e1 hS hAX hf hL hF
    obtain ⟨t2, a1, b1⟩ := kx E ce q u t T'.heap (locs ++ L) e1.symm (by rw [← e2]; exact X'.warmed.alike) hp hb k1 k2 k3 (by rw [e1]; exact hce) hcv hcl T' rfl X'
    exact ⟨t2, st.trans a1, b1⟩
theorem vx_calll {S SX : Type} {post : Int64 → S → Prop} {px : SX → Prop} {B : S → State → Prop} {BX : String → SX → State → Prop} {AX : Nat → Prop} (hr : vx_Run p l e R s m args below meth c H locs cells slots mc ms (F0 m pc ls st0) rest (va_Ql post B A1 a) (vx_X px BX AX) free) (hS : va_S A0 H0 H locs) (hA : ∀ q, q < H.size → A1 q → A0 q) (hf : ∀ q, free q → A0 q) (hAX : ∀ q, q < H.size → AX q → A0 q)
    (kx : ∀ (E : String) (ce : Cell) (q9 : Addr) (u : SX) (t : State) (H1 : Heap) (locs1 : List Loc), t.heap = H1 → s.vm.Alike t.vm → px u → BX E u t → H.size ≤ H1.size → (∀ q : Nat, q < H.size → ¬ AX q → H1[q]? = H[q]?) → va_S A0 H0 H1 locs1 → H1[q9]? = some ce → ce.vm = .none → s.vm.findClass E = some ce.cls → vx_W p l e R s m args below meth c H1 locs1 (cells + mc) (slots + ms) Q (F0 m pc ls rest) q9)
    (kk : ∀ (r : Int64) (u : S) (t : State) (H1 : Heap) (locs1 : List Loc), t.heap = H1 → s.vm.Alike t.vm → post r u → B u t → H.size ≤ H1.size → (∀ q : Nat, q < H.size → ¬ A1 q → H1[q]? = H[q]?) → va_S A0 H0 H1 locs1 → W p l e R s m args below meth c H1 locs1 (cells + mc) (slots + ms) Q (F0 m (pc + 3) ls (.long r :: rest))) : W p l e R s m args below meth c H locs cells slots Q (F0 m pc ls st0) := by
  intro T hT X
  rcases hr T hT X with ⟨v, st₀, t, T', L, h0, X', hL, e1, e2, ⟨⟨r, u, hv, hp, hb⟩, hF⟩, st⟩ | ⟨q, st₀, t, T', L, E, ce, h0, X', hL, e1, e2, ⟨u, hp, hb, hF⟩, hce, hcv, hcl, st⟩
  · cases hv
    obtain ⟨k1, k2, k3⟩ := vx_keep h0 e1 hS hA hf hL hF
    obtain ⟨t2, a1, b1⟩ := kk r u t T'.heap (locs ++ L) e1.symm (by rw [← e2]; exact X'.warmed.alike) hp hb k1 k2 k3 T' rfl X'
    exact ⟨t2, st t2 a1, b1⟩
  · obtain ⟨k1, k2, k3⟩ := vx_keep h0 e1 hS hAX hf hL hF
    obtain ⟨t2, a1, b1⟩ := kx E ce q u t T'.heap (locs ++ L) e1.symm (by rw [← e2]; exact X'.warmed.alike) hp hb k1 k2 k3 (by rw [e1]; exact hce) hcv hcl T' rfl X'
    exact ⟨t2, st.trans a1, b1⟩
theorem vx_callf {S SX : Type} {post : UInt32 → S → Prop} {px : SX → Prop} {B : S → State → Prop} {BX : String → SX → State → Prop} {AX : Nat → Prop} (hr : vx_Run p l e R s m args below meth c H locs cells slots mc ms (F0 m pc ls st0) rest (va_Qf post B A1 a) (vx_X px BX AX) free) (hS : va_S A0 H0 H locs) (hA : ∀ q, q < H.size → A1 q → A0 q) (hf : ∀ q, free q → A0 q) (hAX : ∀ q, q < H.size → AX q → A0 q)
    (kx : ∀ (E : String) (ce : Cell) (q9 : Addr) (u : SX) (t : State) (H1 : Heap) (locs1 : List Loc), t.heap = H1 → s.vm.Alike t.vm → px u → BX E u t → H.size ≤ H1.size → (∀ q : Nat, q < H.size → ¬ AX q → H1[q]? = H[q]?) → va_S A0 H0 H1 locs1 → H1[q9]? = some ce → ce.vm = .none → s.vm.findClass E = some ce.cls → vx_W p l e R s m args below meth c H1 locs1 (cells + mc) (slots + ms) Q (F0 m pc ls rest) q9)
    (kk : ∀ (r : UInt32) (u : S) (t : State) (H1 : Heap) (locs1 : List Loc), t.heap = H1 → s.vm.Alike t.vm → post r u → B u t → H.size ≤ H1.size → (∀ q : Nat, q < H.size → ¬ A1 q → H1[q]? = H[q]?) → va_S A0 H0 H1 locs1 → W p l e R s m args below meth c H1 locs1 (cells + mc) (slots + ms) Q (F0 m (pc + 3) ls (.float r :: rest))) : W p l e R s m args below meth c H locs cells slots Q (F0 m pc ls st0) := by
  intro T hT X
  rcases hr T hT X with ⟨v, st₀, t, T', L, h0, X', hL, e1, e2, ⟨⟨r, u, hv, hp, hb⟩, hF⟩, st⟩ | ⟨q, st₀, t, T', L, E, ce, h0, X', hL, e1, e2, ⟨u, hp, hb, hF⟩, hce, hcv, hcl, st⟩
  · cases hv
    obtain ⟨k1, k2, k3⟩ := vx_keep h0 e1 hS hA hf hL hF
    obtain ⟨t2, a1, b1⟩ := kk r u t T'.heap (locs ++ L) e1.symm (by rw [← e2]; exact X'.warmed.alike) hp hb k1 k2 k3 T' rfl X'
    exact ⟨t2, st t2 a1, b1⟩
  · obtain ⟨k1, k2, k3⟩ := vx_keep h0 e1 hS hAX hf hL hF
    obtain ⟨t2, a1, b1⟩ := kx E ce q u t T'.heap (locs ++ L) e1.symm (by rw [← e2]; exact X'.warmed.alike) hp hb k1 k2 k3 (by rw [e1]; exact hce) hcv hcl T' rfl X'
    exact ⟨t2, st.trans a1, b1⟩
theorem vx_calld {S SX : Type} {post : UInt64 → S → Prop} {px : SX → Prop} {B : S → State → Prop} {BX : String → SX → State → Prop} {AX : Nat → Prop} (hr : vx_Run p l e R s m args below meth c H locs cells slots mc ms (F0 m pc ls st0) rest (va_Qd post B A1 a) (vx_X px BX AX) free) (hS : va_S A0 H0 H locs) (hA : ∀ q, q < H.size → A1 q → A0 q) (hf : ∀ q, free q → A0 q) (hAX : ∀ q, q < H.size → AX q → A0 q)
    (kx : ∀ (E : String) (ce : Cell) (q9 : Addr) (u : SX) (t : State) (H1 : Heap) (locs1 : List Loc), t.heap = H1 → s.vm.Alike t.vm → px u → BX E u t → H.size ≤ H1.size → (∀ q : Nat, q < H.size → ¬ AX q → H1[q]? = H[q]?) → va_S A0 H0 H1 locs1 → H1[q9]? = some ce → ce.vm = .none → s.vm.findClass E = some ce.cls → vx_W p l e R s m args below meth c H1 locs1 (cells + mc) (slots + ms) Q (F0 m pc ls rest) q9)
    (kk : ∀ (r : UInt64) (u : S) (t : State) (H1 : Heap) (locs1 : List Loc), t.heap = H1 → s.vm.Alike t.vm → post r u → B u t → H.size ≤ H1.size → (∀ q : Nat, q < H.size → ¬ A1 q → H1[q]? = H[q]?) → va_S A0 H0 H1 locs1 → W p l e R s m args below meth c H1 locs1 (cells + mc) (slots + ms) Q (F0 m (pc + 3) ls (.double r :: rest))) : W p l e R s m args below meth c H locs cells slots Q (F0 m pc ls st0) := by
  intro T hT X
  rcases hr T hT X with ⟨v, st₀, t, T', L, h0, X', hL, e1, e2, ⟨⟨r, u, hv, hp, hb⟩, hF⟩, st⟩ | ⟨q, st₀, t, T', L, E, ce, h0, X', hL, e1, e2, ⟨u, hp, hb, hF⟩, hce, hcv, hcl, st⟩
  · cases hv
    obtain ⟨k1, k2, k3⟩ := vx_keep h0 e1 hS hA hf hL hF
    obtain ⟨t2, a1, b1⟩ := kk r u t T'.heap (locs ++ L) e1.symm (by rw [← e2]; exact X'.warmed.alike) hp hb k1 k2 k3 T' rfl X'
    exact ⟨t2, st t2 a1, b1⟩
  · obtain ⟨k1, k2, k3⟩ := vx_keep h0 e1 hS hAX hf hL hF
    obtain ⟨t2, a1, b1⟩ := kx E ce q u t T'.heap (locs ++ L) e1.symm (by rw [← e2]; exact X'.warmed.alike) hp hb k1 k2 k3 (by rw [e1]; exact hce) hcv hcl T' rfl X'
    exact ⟨t2, st.trans a1, b1⟩
theorem vx_callv {S SX : Type} {post : S → Prop} {px : SX → Prop} {B : S → State → Prop} {BX : String → SX → State → Prop} {AX : Nat → Prop} (hr : vx_Run p l e R s m args below meth c H locs cells slots mc ms (F0 m pc ls st0) rest (va_Qv post B A1 a) (vx_X px BX AX) free) (hS : va_S A0 H0 H locs) (hA : ∀ q, q < H.size → A1 q → A0 q) (hf : ∀ q, free q → A0 q) (hAX : ∀ q, q < H.size → AX q → A0 q)
    (kx : ∀ (E : String) (ce : Cell) (q9 : Addr) (u : SX) (t : State) (H1 : Heap) (locs1 : List Loc), t.heap = H1 → s.vm.Alike t.vm → px u → BX E u t → H.size ≤ H1.size → (∀ q : Nat, q < H.size → ¬ AX q → H1[q]? = H[q]?) → va_S A0 H0 H1 locs1 → H1[q9]? = some ce → ce.vm = .none → s.vm.findClass E = some ce.cls → vx_W p l e R s m args below meth c H1 locs1 (cells + mc) (slots + ms) Q (F0 m pc ls rest) q9)
    (kk : ∀ (u : S) (t : State) (H1 : Heap) (locs1 : List Loc), t.heap = H1 → s.vm.Alike t.vm → post u → B u t → H.size ≤ H1.size → (∀ q : Nat, q < H.size → ¬ A1 q → H1[q]? = H[q]?) → va_S A0 H0 H1 locs1 → W p l e R s m args below meth c H1 locs1 (cells + mc) (slots + ms) Q (F0 m (pc + 3) ls (rest))) : W p l e R s m args below meth c H locs cells slots Q (F0 m pc ls st0) := by
  intro T hT X
  rcases hr T hT X with ⟨v, st₀, t, T', L, h0, X', hL, e1, e2, ⟨⟨u, hv, hp, hb⟩, hF⟩, st⟩ | ⟨q, st₀, t, T', L, E, ce, h0, X', hL, e1, e2, ⟨u, hp, hb, hF⟩, hce, hcv, hcl, st⟩
  · cases hv
    obtain ⟨k1, k2, k3⟩ := vx_keep h0 e1 hS hA hf hL hF
    obtain ⟨t2, a1, b1⟩ := kk u t T'.heap (locs ++ L) e1.symm (by rw [← e2]; exact X'.warmed.alike) hp hb k1 k2 k3 T' rfl X'
    exact ⟨t2, st t2 a1, b1⟩
  · obtain ⟨k1, k2, k3⟩ := vx_keep h0 e1 hS hAX hf hL hF
    obtain ⟨t2, a1, b1⟩ := kx E ce q u t T'.heap (locs ++ L) e1.symm (by rw [← e2]; exact X'.warmed.alike) hp hb k1 k2 k3 (by rw [e1]; exact hce) hcv hcl T' rfl X'
    exact ⟨t2, st.trans a1, b1⟩
/-- caught by the row x of this method's table; the rows ahead don't take it -/
theorem vx_catch {own name : String} {E : String} {ce : Cell} {q : Addr} (hown : s.vm.findClass own = some m.cls) (pre : List ExceptionTableEntry) (x : ExceptionTableEntry) (suf : List ExceptionTableEntry) (hsplit : c.exceptionTable.toList = pre ++ x :: suf)
    (hpass : ∀ z ∈ pre, covers z pc = false ∨ (z.catchType ≠ 0 ∧ ∃ nm : String, (Cond.classLink own z.catchType nm).before args s = true ∧ va_Nc E nm s)) (hx : covers x pc = true) (h0 : x.catchType ≠ 0)
    (hlink : (Cond.classLink own x.catchType name).before args s = true) (hcast : (Cond.castable E name).before args s = true) (hcell : H[q]? = some ce) (hv : ce.vm = .none) (hcl : s.vm.findClass E = some ce.cls)
    (kk : W p l e R s m args below meth c H locs cells slots Q (F0 m x.handlerPc ls [.ref q])) : vx_W p l e R s m args below meth c H locs cells slots Q (F0 m pc ls rest) q := by
  intro T hT X
  have hpl : e.platform.magicAccessors = ({} : Platform).magicAccessors := by rw [X.admits.platform]
  obtain ⟨c3, c4, hc3, hc4, hasg⟩ := Cond.castable_spec hcast
  cases Option.some.inj (hc3.symm.trans hcl)
  obtain ⟨c5, hc5, hcl5⟩ := Cond.classLink_spec hown hlink e.platform hpl
  cases Option.some.inj (hc4.symm.trans hc5)
  obtain ⟨vm', X', st⟩ := X.thenCaughtThrough q (g := F0 m pc ls rest) rfl (Steps.refl _) (by rw [hT]; exact hcell) (by rw [hv]; rfl) (by obtain ⟨k9, h9, -⟩ := Vm.findClass_spec hcl; exact ⟨k9, h9⟩) pre x suf hsplit
    (fun z hz => by
      rcases hpass z hz with h | ⟨hz0, nm, hl1, hn1⟩
      · exact Or.inl h
      · obtain ⟨c6, hc6, hcl6⟩ := Cond.classLink_spec hown hl1 e.platform hpl
        obtain ⟨a8, b8, h1, h2, h3⟩ := hn1
        cases Option.some.inj (h1.symm.trans hcl)
        cases Option.some.inj (h2.symm.trans hc6)
        exact Or.inr ⟨hz0, _, hcl6, h3⟩) hx (Or.inr ⟨h0, c4, hcl5, hasg⟩)
  obtain ⟨t, a1, b1⟩ := kk (T.setVm vm') hT X'
  exact ⟨t, st.trans a1, b1⟩
end Rows
section Ends
variable {p : Program} {l : Launch} {e : Env} {R : Room} {s : State} {m : MethodId} {args : Array Value} {below : List Frame} {meth : Method} {c : Code} {H : Heap} {locs : List Loc} {cells slots : Nat} {Q : State → Prop}
variable {mc ms : Nat} {free : Addr → Prop} {A0 A1 : Nat → Prop} {H0 : Heap} {a : Array Value} {ls : Array Slot} {st0 rest : List Value}
variable {Qc : Array Value → State → Outcome → State → Prop} {XC : String → State → State → Prop}
/-- what a body that may throw owes at its end -/
def vx_MQ (below : List Frame) (Qc : Array Value → State → Outcome → State → Prop) (XC : String → State → State → Prop) (a : Array Value) (s : State) (mc ms : Nat) (free : Addr → Prop) : State → Prop := fun t =>
  ∃ o, t.status = .running ∧ Ended t below o ∧ vx_Q Qc XC mc ms free a s o t
theorem vx_ret {g : JFrame} {mc ms : Nat} (k : W p l e R s m args below meth c H locs cells slots (MQ below Qc args s mc ms free) g) : W p l e R s m args below meth c H locs cells slots (vx_MQ below Qc XC args s mc ms free) g := by
  intro T hT X
  obtain ⟨t, a1, o, b1, b2, b3, b4⟩ := k T hT X
  exact ⟨t, a1, o, b1, b2, Or.inl ⟨b3, b4⟩⟩
/-- not caught here: it goes on to the caller -/
theorem vx_widen {g : JFrame} {q : Addr} {k n : Nat} (h1 : cells ≤ k) (h2 : slots ≤ n) (kk : vx_W p l e R s m args below meth c H locs k n Q g q) : vx_W p l e R s m args below meth c H locs cells slots Q g q := fun T hT X => kk T hT (stand_widen X h1 h2)
theorem vx_out {pc : Nat} {E : String} {ce : Cell} {q : Addr} {mc ms : Nat} (hout : ∀ x ∈ c.exceptionTable.toList, covers x pc = false) (hlocks : meth.locks = false) (hcell : H[q]? = some ce) (hv : ce.vm = .none) (hcl : s.vm.findClass E = some ce.cls)
    (hx : ∀ t : State, t.heap = H → s.vm.Alike t.vm → XC E s t) (hf : ∀ z ∈ locs, free z.base) (hc : cells ≤ mc) (hs : slots ≤ ms) :
    vx_W p l e R s m args below meth c H locs cells slots (vx_MQ below Qc XC args s mc ms free) (F0 m pc ls rest) q := by
  intro T hT X
  obtain ⟨st1, hrun, hend, hW, hsm⟩ := X.leaveThrown q (g := F0 m pc ls rest) rfl rfl rfl hout hlocks
  have hcell9 : (T.setFrames (.throwing q :: below)).heap[q]? = some ce := by
    show T.heap[q]? = some ce
    rw [hT]; exact hcell
  exact ⟨_, st1, .threw q, hrun, hend, Or.inr ⟨q, rfl, E, ce, locs, hx _ hT hW.alike, hcell9, hv, hcl, hW, hsm.mono hc hs, hf⟩⟩
theorem vx_frame {U : State} {k n : Nat} (h : s.sameButNew ({ U with vm := s.vm } : State) locs k n) : s.heap.size ≤ U.heap.size ∧ ∀ q : Nat, q < s.heap.size → (∀ z ∈ locs, z.base ≠ q) → U.heap[q]? = s.heap[q]? := by
  obtain ⟨-, h2, -, -, -, h6⟩ := h
  refine ⟨h2, fun q hq hz => ?_⟩
  obtain ⟨c9, e1, e2, e3, e4⟩ := h6 q _ (Array.getElem?_eq_getElem hq)
  have hs : c9.slots = (s.heap[q]).slots := Array.ext_getElem? fun i => e4 i fun hm => hz _ hm rfl
  have h9 : c9 = s.heap[q] := by
    rw [hs] at e2
    exact e2
  have e5 : U.heap[q]? = some c9 := e1
  rw [e5, h9, Array.getElem?_eq_getElem hq]
/-- the words of a throw but the four that speak of the heap -/
def vx_no (w : Cond) : Bool := decide (w ≠ .isRef (.static Bundle.tN "UNASSIGNED_STACK" Bundle.steD)) && decide (w ≠ .isRef (.static Bundle.tN "SUPPRESSED_SENTINEL" Bundle.listD)) && decide (w ≠ .laysStatic Bundle.tN "UNASSIGNED_STACK" Bundle.steD) && decide (w ≠ .laysStatic Bundle.tN "SUPPRESSED_SENTINEL" Bundle.listD)
def vx_at0 (own : String) (ic : Nat) (X : String) (names : List String) : List Cond := (Bundle.ownAtoms0 own ic X names).filter vx_no
def vx_atS (own : String) (ic : Nat) (X : String) (names : List String) : List Cond := (Bundle.ownAtoms own ic X names).filter vx_no
/-- a word that the tables alone decide, or a good one -/
def vx_ot (w : Cond) : Bool := w.onTables || goodWord w
theorem vx_ot_at {args a' : Array Value} {s U : State} {w : Cond} (hW : s.WarmedH U.vm) (hvm : s.vm = U.vm) (hg : vx_ot w = true) (h : w.before args s = true) : w.before a' U = true := by
  simp only [vx_ot, Bool.or_eq_true] at hg
  rcases hg with hg | hg
  · exact va_tabs hg hvm h
  · exact word_at hW (good_of_word hg) h
/-- a list's words: the good ones out of the method's own list, the others by premises of their own -/
theorem vx_hat {args : Array Value} {s : State} {L B : List Cond} (h1 : ∀ w ∈ L.filter goodWord, w.before args s = true) (h2 : ∀ w ∈ L.filter (fun w => !goodWord w), w ∈ B) (h3 : ∀ w ∈ B, w.before args s = true) : ∀ w ∈ L, w.before args s = true := by
  intro w hw
  by_cases g : goodWord w = true
  · exact h1 w (List.mem_filter.mpr ⟨hw, g⟩)
  · refine h3 w (h2 w (List.mem_filter.mpr ⟨hw, ?_⟩))
    show (!goodWord w) = true
    cases hgw : goodWord w
    · rfl
    · exact absurd hgw g
theorem vx_c {args : Array Value} {s : State} {w : Cond} {B : List Cond} (h : w.before args s = true) (t : ∀ w ∈ B, w.before args s = true) : ∀ w' ∈ w :: B, w'.before args s = true := fun w' h' => (List.mem_cons.mp h').elim (fun e => by rw [e]; exact h) (t w')
theorem vx_n {args : Array Value} {s : State} : ∀ w ∈ ([] : List Cond), w.before args s = true := fun _ h => nomatch h
theorem vx_own {args : Array Value} {s : State} {L : List Cond} (h1 : ∀ w ∈ L.filter vx_no, w.before args s = true)
    (hU : (Cond.isRef (.static Bundle.tN "UNASSIGNED_STACK" Bundle.steD)).before args s = true) (hN : (Cond.isRef (.static Bundle.tN "SUPPRESSED_SENTINEL" Bundle.listD)).before args s = true)
    (lU : (Cond.laysStatic Bundle.tN "UNASSIGNED_STACK" Bundle.steD).before args s = true) (lN : (Cond.laysStatic Bundle.tN "SUPPRESSED_SENTINEL" Bundle.listD).before args s = true) : ∀ w ∈ L, w.before args s = true := by
  intro w hw
  by_cases e1 : w = .isRef (.static Bundle.tN "UNASSIGNED_STACK" Bundle.steD)
  · rw [e1]; exact hU
  · by_cases e2 : w = .isRef (.static Bundle.tN "SUPPRESSED_SENTINEL" Bundle.listD)
    · rw [e2]; exact hN
    · by_cases e3 : w = .laysStatic Bundle.tN "UNASSIGNED_STACK" Bundle.steD
      · rw [e3]; exact lU
      · by_cases e4 : w = .laysStatic Bundle.tN "SUPPRESSED_SENTINEL" Bundle.listD
        · rw [e4]; exact lN
        · exact h1 w (List.mem_filter.mpr ⟨hw, by unfold vx_no; rw [decide_eq_true e1, decide_eq_true e2, decide_eq_true e3, decide_eq_true e4]; rfl⟩)
/-- where a static field lies, its class's statics cell in H -/
def vx_L (C n d : String) (A : Nat → Prop) (U : State) (H : Heap) : Prop := ∃ (c : ClassId) (k : Class) (i : Nat) (f : Field) (a : Nat) (cell : Cell), U.vm.findClass C = some c ∧ U.fieldFound? C n d = some (c, k, i, f) ∧ f.isStatic = true ∧ k.statics = some a ∧ H[a]? = some cell ∧ cell.vm.isStatics = true ∧ cell.cls = c ∧ f.slot < cell.slots.size ∧ k.staticTypes[f.slot]? = some f.type ∧ ¬ A a
theorem vx_L.moved {C n d : String} {A : Nat → Prop} {u U : State} {H : Heap} (hvm : u.vm.Alike U.vm) (h : vx_L C n d A u H) : vx_L C n d A U H := by
  obtain ⟨c, k, i, f, a, cell, h1, h2, h3, h4, h5, h6, h7, h8, h9, h10⟩ := h
  obtain ⟨k', hi', he⟩ := State.fieldFound?_setVm hvm h2
  exact ⟨c, k', i, f, a, cell, by rw [hvm.findClass]; exact h1, hi', h3, by rw [he]; exact h4, h5, h6, h7, h8, by rw [he]; exact h9, h10⟩
theorem vx_L.kept {C n d : String} {A : Nat → Prop} {U : State} {H H1 : Heap} (h : vx_L C n d A U H) (hq : ∀ a : Nat, a < H.size → ¬ A a → H1[a]? = H[a]?) : vx_L C n d A U H1 := by
  obtain ⟨c, k, i, f, a, cell, h1, h2, h3, h4, h5, h6, h7, h8, h9, h10⟩ := h
  exact ⟨c, k, i, f, a, cell, h1, h2, h3, h4, by rw [hq a (Array.getElem?_eq_some_iff.mp h5).1 h10]; exact h5, h6, h7, h8, h9, h10⟩
theorem vx_L.narrow {C n d : String} {A B : Nat → Prop} {U : State} {H : Heap} (h : vx_L C n d A U H) (hAB : ∀ q, B q → A q) : vx_L C n d B U H := by
  obtain ⟨c, k, i, f, a, cell, h1, h2, h3, h4, h5, h6, h7, h8, h9, h10⟩ := h
  exact ⟨c, k, i, f, a, cell, h1, h2, h3, h4, h5, h6, h7, h8, h9, fun z => h10 (hAB _ z)⟩
theorem vx_L.word {C n d : String} {A : Nat → Prop} {s : State} {args : Array Value} (h : vx_L C n d A s s.heap) : (Cond.laysStatic C n d).before args s = true := by
  obtain ⟨c, k, i, f, a, cell, h1, h2, h3, h4, h5, h6, h7, h8, h9, -⟩ := h
  show (Cond.laysStatic C n d).holds args s none s [] = true
  exact Cond.laysStatic_of h1 h2 h3 h4 h5 h6 h7 h8 h9
/-- .. and what it holds: null or some reference -/
def vx_Zq (C n d : String) (A : Nat → Prop) (U : State) (H : Heap) : Prop := va_Zq C n d A U H ∧ vx_L C n d A U H
theorem vx_Zq.moved {C n d : String} {A : Nat → Prop} {u U : State} {H : Heap} (hvm : u.vm.Alike U.vm) (h : vx_Zq C n d A u H) : vx_Zq C n d A U H := ⟨va_Zq.moved hvm h.1, vx_L.moved hvm h.2⟩
theorem vx_Zq.kept {C n d : String} {A : Nat → Prop} {U : State} {H H1 : Heap} (h : vx_Zq C n d A U H) (hq : ∀ a : Nat, a < H.size → ¬ A a → H1[a]? = H[a]?) : vx_Zq C n d A U H1 := ⟨va_Zq.kept h.1 hq, vx_L.kept h.2 hq⟩
theorem vx_Zq.narrow {C n d : String} {A B : Nat → Prop} {U : State} {H : Heap} (h : vx_Zq C n d A U H) (hAB : ∀ q, B q → A q) : vx_Zq C n d B U H := ⟨va_Zq.narrow h.1 hAB, vx_L.narrow h.2 hAB⟩
theorem vx_Zqof {args : Array Value} {s : State} {C n d : String} {A : Nat → Prop} (hl : (Cond.laysStatic C n d).before args s = true) (hini : (Cond.initialized C).before args s = true) (h : (Cond.isRef (.static C n d)).before args s = true) (hA : ∀ a : Nat, a < s.heap.size → ¬ A a) : vx_Zq C n d A s s.heap := by
  refine ⟨va_Zqof hl hini h hA, ?_⟩
  obtain ⟨c, k, i, f, a, cell, h1, h2, h3, h4, h5, h6, h7, h8, h9⟩ := Cond.laysStatic_spec hl
  exact ⟨c, k, i, f, a, cell, h1, h2, h3, h4, h5, h6, h7, h8, h9, hA a (Array.getElem?_eq_some_iff.mp h5).1⟩
theorem vx_isRef {C n d : String} {v : Value} {A : Nat → Prop} {s : State} {args : Array Value} (h : va_Z C n d v A s s.heap) (hv : v.isRef = true) : (Cond.isRef (.static C n d)).before args s = true := by
  obtain ⟨cf, kf, fi, f, a, cell, h1, h2, h3, h4, h5, h6, h7, -⟩ := h
  have he : (Term.static C n d).eval args s none [] s = some v := by
    simp [Term.eval, State.fieldNamed?, h1, h2, h4, h5, h6, h7]
  simp only [Cond.before, Cond.holds, Cond.value, he]
  cases v <;> simp_all [Value.isRef]
theorem vx_isRefq {C n d : String} {A : Nat → Prop} {s : State} {args : Array Value} (h : va_Zq C n d A s s.heap) : (Cond.isRef (.static C n d)).before args s = true := by
  rcases h with h | ⟨t, h⟩
  · exact vx_isRef h rfl
  · exact vx_isRef h rfl
/-- the same frame, seen from here: as if the method were called anew in this heap -/
theorem vx_rebase {T : State} (X : Stand p l e R s m args below meth c T locs cells slots) {R' : Room} (hf : R'.frames ≤ R.frames) (hl : R'.locals ≤ R.locals) (hc : cells + R'.cells ≤ R.cells) (hs : slots + R'.slots ≤ R.slots) :
    Stand p l e R' ((T.setVm s.vm).setFrames (.invoking m args :: below)) m args below meth c T [] 0 0 := by
  have htop : (T.setVm s.vm).topJava?.isSome := X.here.top
  have hF : ((T.setVm s.vm).setFrames (.invoking m args :: below)).frames = .invoking m args :: below := State.frames_setFrames _ (State.cur_lt_of_top htop)
  obtain ⟨g₀, hg0⟩ := Option.isSome_iff_exists.mp htop
  obtain ⟨r, hr⟩ := State.topJava?_eq_some.mp hg0
  have hl9 : e.platform.stackLimits (T.setVm s.vm).me = e.platform.stackLimits s.me := X.limits
  have hb9 : (T.setVm s.vm).me.stackBytes = s.me.stackBytes := X.bytes
  refine ⟨X.admits, X.cas, X.clock, hF, ?_, X.hears, X.method, X.code, X.here, X.tail, X.warmed, ?_, ?_, ?_⟩
  · have h := X.room
    have hU : ((T.setVm s.vm).setFrames (.invoking m args :: below)).localsInUse = s.localsInUse := by
      rw [State.localsInUse_invoking hF (meth := meth) (c := c) X.method X.code, State.localsInUse_invoking X.frames X.method X.code]
    simp only [State.hasRoom, Bool.and_eq_true, decide_eq_true_eq] at h ⊢
    obtain ⟨⟨⟨⟨h1, h2, h3, h4, h5, h6⟩, h7⟩, h8⟩, h9⟩ := h
    rw [X.frames, List.length_cons] at h2 h3
    have q1 := X.heapSize
    have q2 := X.used
    simp only [hF, hU, List.length_cons, State.stackLimits_setFrames, State.stackBytes_setFrames, hl9, hb9]
    refine ⟨⟨⟨⟨by omega, by omega, by omega, by omega, by omega, h6⟩, ?_⟩, ?_⟩, X.book⟩
    · show T.heap.size + R'.cells ≤ e.platform.maxCells
      omega
    · show T.slotsUsed + R'.slots ≤ e.platform.maxSlots
      omega
  · rw [State.stackLimits_setFrames]; rfl
  · rw [State.stackBytes_setFrames]; rfl
  · refine ⟨?_, Nat.le_refl _, Nat.le_refl _, ?_, ?_, fun a c9 h9 => ⟨c9, h9, rfl, rfl, fun _ _ => rfl⟩⟩
    · obtain ⟨t, ht, -⟩ := State.frames_cons hr
      show T.setVm s.vm = { ((T.setVm s.vm).setFrames (.invoking m args :: below)).setFrames (T.setVm s.vm).frames with heap := T.heap, slotsUsed := T.slotsUsed }
      rw [State.setFrames_setFrames, State.setFrames_self ht]
      rfl
    · show T.slotsUsed = T.slotsUsed + ((T.heap.toList.drop T.heap.size).map (·.slots.size)).sum
      rw [List.drop_eq_nil_of_le (Nat.le_of_eq Array.length_toList)]
      rfl
    · show ((T.heap.toList.drop T.heap.size).map (·.slots.size)).sum ≤ 0
      rw [List.drop_eq_nil_of_le (Nat.le_of_eq Array.length_toList)]
      exact Nat.le_refl _
/-- 'throw new E()': new; dup; invokespecial; athrow -/
theorem vx_throw0 {cc : ByteArray} {pc : Nat} (hexec : p.tables.exec = Jvm.exec) (hb : c.code = cc) (hl : l.stackTraces = false) {own cls : String} {names : List String} {ik ic mc ms : Nat} {A : Nat → Prop}
    (hown : s.vm.findClass own = some m.cls) (hcls : Bundle.fit cls = true) (hnames : ∀ n ∈ names, Bundle.fit n = true)
    (hk : (Cond.classLink own ik cls).before args s = true) (hini : (Cond.initialized cls).before args s = true) (hat : ∀ w ∈ vx_at0 own ic cls names, w.before args s = true)
    (hgood : ∀ w ∈ Cond.classLink own ik cls :: Cond.initialized cls :: vx_at0 own ic cls names, vx_ot w = true)
    (hU : vx_Zq Bundle.tN "UNASSIGNED_STACK" Bundle.steD A s s.heap) (hN : vx_Zq Bundle.tN "SUPPRESSED_SENTINEL" Bundle.listD A s s.heap) (hS : va_S A s.heap H locs) (hsize : ls.size = c.maxLocals)
    (d0 : decode cc pc = .ok (.new ik, 3)) (d3 : decode cc (pc + 3) = .ok (.dup, 1)) (d4 : decode cc (pc + 4) = .ok (.invokespecial ic, 3)) (d7 : decode cc (pc + 7) = .ok (.athrow, 1))
    (hout : ∀ x ∈ c.exceptionTable.toList, covers x (pc + 7) = false)
    (hRframes : names.length + 3 < R.frames) (hRlocals : (rest.map fun v => v.category).sum + (13 * (names.length + 1) + 42) ≤ R.locals) (hRcells : cells + 1 ≤ R.cells) (hRslots : slots + 6 ≤ R.slots) (hlocks : meth.locks = false)
    (hx : ∀ t : State, s.vm.Alike t.vm → H.size ≤ t.heap.size → (∀ q : Nat, q < H.size → t.heap[q]? = H[q]?) → XC cls s t)
    (hf : ∀ z ∈ locs, free z.base) (hc : cells + 1 ≤ mc) (hs : slots + 6 ≤ ms) :
    W p l e R s m args below meth c H locs cells slots (vx_MQ below Qc XC args s mc ms free) (F0 m pc ls rest) := by
  intro T hT X
  have htr : e.platform.stackTraces = false := (show e.platform.stackTraces = l.stackTraces by rw [X.admits.platform]).trans hl
  have Y := vx_rebase X (R' := { frames := R.frames, locals := R.locals, cells := 1, slots := 6 }) (Nat.le_refl _) (Nat.le_refl _) hRcells hRslots
  obtain ⟨s', hA⟩ : ∃ z, z = (T.setVm s.vm).setFrames (.invoking m args :: below) := ⟨_, rfl⟩
  rw [← hA] at Y
  have hvm : s'.vm = s.vm := by rw [hA]; rfl
  have hhp : s'.heap = H := by rw [hA]; exact hT
  have hW0 : s.WarmedH s'.vm := by rw [hvm]; exact State.WarmedH.refl s
  have hat' : ∀ w ∈ vx_at0 own ic cls names, w.before args s' = true := fun w hw => vx_ot_at hW0 hvm.symm (hgood w (List.mem_cons_of_mem _ (List.mem_cons_of_mem _ hw))) (hat w hw)
  have hk' : (Cond.classLink own ik cls).before args s' = true := vx_ot_at hW0 hvm.symm (hgood _ List.mem_cons_self) hk
  have hini' : (Cond.initialized cls).before args s' = true := vx_ot_at hW0 hvm.symm (hgood _ (List.mem_cons_of_mem _ List.mem_cons_self)) hini
  have hU' : vx_Zq Bundle.tN "UNASSIGNED_STACK" Bundle.steD A s' s'.heap := by rw [hhp]; exact vx_Zq.moved hW0.alike (hU.kept hS.2.1)
  have hN' : vx_Zq Bundle.tN "SUPPRESSED_SENTINEL" Bundle.listD A s' s'.heap := by rw [hhp]; exact vx_Zq.moved hW0.alike (hN.kept hS.2.1)
  have h : ∀ w ∈ Bundle.ownAtoms0 own ic cls names, w.before args s' = true := vx_own hat' (vx_isRefq hU'.1) (vx_isRefq hN'.1) hU'.2.word hN'.2.word
  have hown' : s'.vm.findClass own = some m.cls := by rw [hvm]; exact hown
  have hins : (Cond.instantiable cls 6).before args s' = true := h _ (by simp [Bundle.ownAtoms0])
  obtain ⟨vm₁, cX, kX, hfX, hkX, -, -, X₁, st1⟩ := Y.newCold hexec (own := own) (C := cls) (index := ik) (n := 6) hown' hk' hins hini'
    (g := F0 m pc ls rest) rfl (by rw [hb]; exact d0) (Nat.le_refl _) (Nat.le_refl _)
  generalize hT1 : (T.setVm vm₁).pushCell { cls := cX, slots := kX.instanceTypes.map defaultValue, vm := .none } = T1 at X₁ st1
  have hcat : (Value.ref T.heap.size).category = 1 := rfl
  have hcellA : T1.heap[T.heap.size]? = some (freshCell cX kX) := by rw [← hT1]; exact State.heap_pushCell_size _ _
  have d3' : decode c.code (pc + 3) = .ok (.dup, 1) := by rw [hb]; exact d3
  obtain ⟨U, hsteps, hrun, hend, hW, hsame, ce, hce, hO⟩ := X₁.ctorThrow0 hexec htr (own := own) (cls := cls) (names := names) (ic := ic) hown' hcls hnames h (fun x hx => nomatch hx) hfX hkX hcellA (by rw [hhp, hT]; exact Nat.le_refl _)
    (g := { method := m, pc := pc + 4, locals := ls, stack := .ref T.heap.size :: .ref T.heap.size :: rest, locked := none }) rfl hsize rfl rfl (rest := rest) rfl
    (by rw [hb]; exact d4) (by rw [hb]; exact d7) hout hRframes (by simp only [List.map_cons, List.sum_cons, hcat]; omega) hlocks
  obtain ⟨f1, f2⟩ := vx_frame hsame
  rw [hhp] at f1 f2
  have hWs : s.WarmedH U.vm := State.WarmedH.trans hW0 hW
  have hcl : s.vm.findClass cls = some ce.cls := by
    have h9 := hO.cls
    rw [hvm] at h9
    exact h9
  have hall : s.sameButNew ({ U with vm := s.vm } : State) locs mc ms := by
    subst hA
    obtain ⟨e1, e2⟩ := hsame
    rw [State.setFrames_setFrames] at e1
    have h2 : (T.setVm s.vm).sameButNew ({ U with vm := s.vm } : State) [] (0 + 1) (0 + 6) := ⟨e1, e2⟩
    have h3 := X.same.trans h2
    rw [List.append_nil] at h3
    exact h3.mono hc hs
  refine ⟨U, ?_, .threw T.heap.size, hrun, hend, Or.inr ⟨T.heap.size, rfl, cls, ce, locs, hx U hWs.alike f1 (fun q hq => f2 q hq (fun z hz => nomatch hz)), hce, hO.vm, hcl, hWs, hall, hf⟩⟩
  refine st1 _ ?_
  show Steps p.tables e below (T1.setTop { method := m, pc := pc + 3, locals := ls, stack := .ref T.heap.size :: rest, locked := none }) _
  jvm_step X₁.here [X₁.here.top, hexec, d3', Value.category]
  exact hsteps
/-- 'throw new E("text")': new; dup; ldc; invokespecial; athrow -/
theorem vx_throwS {cc : ByteArray} {pc : Nat} (hexec : p.tables.exec = Jvm.exec) (hb : c.code = cc) (hl : l.stackTraces = false) {own cls text : String} {names : List String} {ik is ic mc ms sa : Nat} {A : Nat → Prop}
    (hown : s.vm.findClass own = some m.cls) (hcls : Bundle.fit cls = true) (hnames : ∀ n ∈ names, Bundle.fit n = true)
    (hk : (Cond.classLink own ik cls).before args s = true) (hini : (Cond.initialized cls).before args s = true) (hstr : vk_R own is text sa s) (hat : ∀ w ∈ vx_atS own ic cls names, w.before args s = true)
    (hgood : ∀ w ∈ Cond.classLink own ik cls :: Cond.initialized cls :: vx_atS own ic cls names, vx_ot w = true)
    (hU : vx_Zq Bundle.tN "UNASSIGNED_STACK" Bundle.steD A s s.heap) (hN : vx_Zq Bundle.tN "SUPPRESSED_SENTINEL" Bundle.listD A s s.heap) (hS : va_S A s.heap H locs) (hsize : ls.size = c.maxLocals)
    (d0 : decode cc pc = .ok (.new ik, 3)) (d3 : decode cc (pc + 3) = .ok (.dup, 1)) (d4 : decode cc (pc + 4) = .ok (.ldc is, 2)) (d6 : decode cc (pc + 6) = .ok (.invokespecial ic, 3)) (d9 : decode cc (pc + 9) = .ok (.athrow, 1))
    (hout : ∀ x ∈ c.exceptionTable.toList, covers x (pc + 9) = false)
    (hRframes : names.length + 3 < R.frames) (hRlocals : (rest.map fun v => v.category).sum + (13 * (names.length + 1) + 43) ≤ R.locals) (hRcells : cells + 1 ≤ R.cells) (hRslots : slots + 6 ≤ R.slots) (hlocks : meth.locks = false)
    (hx : ∀ t : State, s.vm.Alike t.vm → H.size ≤ t.heap.size → (∀ q : Nat, q < H.size → t.heap[q]? = H[q]?) → XC cls s t)
    (hf : ∀ z ∈ locs, free z.base) (hc : cells + 1 ≤ mc) (hs : slots + 6 ≤ ms) :
    W p l e R s m args below meth c H locs cells slots (vx_MQ below Qc XC args s mc ms free) (F0 m pc ls rest) := by
  intro T hT X
  have htr : e.platform.stackTraces = false := (show e.platform.stackTraces = l.stackTraces by rw [X.admits.platform]).trans hl
  have Y := vx_rebase X (R' := { frames := R.frames, locals := R.locals, cells := 1, slots := 6 }) (Nat.le_refl _) (Nat.le_refl _) hRcells hRslots
  obtain ⟨s', hA⟩ : ∃ z, z = (T.setVm s.vm).setFrames (.invoking m args :: below) := ⟨_, rfl⟩
  rw [← hA] at Y
  have hvm : s'.vm = s.vm := by rw [hA]; rfl
  have hhp : s'.heap = H := by rw [hA]; exact hT
  have hW0 : s.WarmedH s'.vm := by rw [hvm]; exact State.WarmedH.refl s
  have hat' : ∀ w ∈ vx_atS own ic cls names, w.before args s' = true := fun w hw => vx_ot_at hW0 hvm.symm (hgood w (List.mem_cons_of_mem _ (List.mem_cons_of_mem _ hw))) (hat w hw)
  have hk' : (Cond.classLink own ik cls).before args s' = true := vx_ot_at hW0 hvm.symm (hgood _ List.mem_cons_self) hk
  have hini' : (Cond.initialized cls).before args s' = true := vx_ot_at hW0 hvm.symm (hgood _ (List.mem_cons_of_mem _ List.mem_cons_self)) hini
  have hU' : vx_Zq Bundle.tN "UNASSIGNED_STACK" Bundle.steD A s' s'.heap := by rw [hhp]; exact vx_Zq.moved hW0.alike (hU.kept hS.2.1)
  have hN' : vx_Zq Bundle.tN "SUPPRESSED_SENTINEL" Bundle.listD A s' s'.heap := by rw [hhp]; exact vx_Zq.moved hW0.alike (hN.kept hS.2.1)
  have h : ∀ w ∈ Bundle.ownAtoms own ic cls names, w.before args s' = true := vx_own hat' (vx_isRefq hU'.1) (vx_isRefq hN'.1) hU'.2.word hN'.2.word
  have hown' : s'.vm.findClass own = some m.cls := by rw [hvm]; exact hown
  have hins : (Cond.instantiable cls 6).before args s' = true := h _ (by simp [Bundle.ownAtoms])
  obtain ⟨vm₁, cX, kX, hfX, hkX, -, -, X₁, st1⟩ := Y.newCold hexec (own := own) (C := cls) (index := ik) (n := 6) hown' hk' hins hini'
    (g := F0 m pc ls rest) rfl (by rw [hb]; exact d0) (Nat.le_refl _) (Nat.le_refl _)
  generalize hT1 : (T.setVm vm₁).pushCell { cls := cX, slots := kX.instanceTypes.map defaultValue, vm := .none } = T1 at X₁ st1
  have hcat : (Value.ref T.heap.size).category = 1 := rfl
  have hcellA : T1.heap[T.heap.size]? = some (freshCell cX kX) := by rw [← hT1]; exact State.heap_pushCell_size _ _
  have d3' : decode c.code (pc + 3) = .ok (.dup, 1) := by rw [hb]; exact d3
  have d4' : decode c.code (pc + 4) = .ok (.ldc is, 2) := by rw [hb]; exact d4
  have hstr' : vk_R own is text sa s' := vk_R.warm hW0 hstr
  obtain ⟨U, hsteps, hrun, hend, hW, hsame, ce, hce, hO⟩ := X₁.ctorThrowS hexec htr (own := own) (cls := cls) (names := names) (ic := ic) hown' hcls hnames h (fun x hx => nomatch hx) hfX hkX hcellA (by rw [hhp, hT]; exact Nat.le_refl _) (msg := .ref sa) rfl
    (g := { method := m, pc := pc + 6, locals := ls, stack := .ref sa :: .ref T.heap.size :: .ref T.heap.size :: rest, locked := none }) rfl hsize rfl rfl (rest := rest) rfl
    (by rw [hb]; exact d6) (by rw [hb]; exact d9) hout hRframes (by simp only [List.map_cons, List.sum_cons, hcat]; omega) hlocks
  obtain ⟨f1, f2⟩ := vx_frame hsame
  rw [hhp] at f1 f2
  have hWs : s.WarmedH U.vm := State.WarmedH.trans hW0 hW
  have hcl : s.vm.findClass cls = some ce.cls := by
    have h9 := hO.cls
    rw [hvm] at h9
    exact h9
  have hall : s.sameButNew ({ U with vm := s.vm } : State) locs mc ms := by
    subst hA
    obtain ⟨e1, e2⟩ := hsame
    rw [State.setFrames_setFrames] at e1
    have h2 : (T.setVm s.vm).sameButNew ({ U with vm := s.vm } : State) [] (0 + 1) (0 + 6) := ⟨e1, e2⟩
    have h3 := X.same.trans h2
    rw [List.append_nil] at h3
    exact h3.mono hc hs
  refine ⟨U, ?_, .threw T.heap.size, hrun, hend, Or.inr ⟨T.heap.size, rfl, cls, ce, locs, hx U hWs.alike f1 (fun q hq => f2 q hq (fun z hz => nomatch hz)), hce, hO.vm, hcl, hWs, hall, hf⟩⟩
  refine st1 _ ?_
  show Steps p.tables e below (T1.setTop { method := m, pc := pc + 3, locals := ls, stack := .ref T.heap.size :: rest, locked := none }) _
  jvm_step X₁.here [X₁.here.top, hexec, d3', Value.category]
  exact X₁.ldcString hexec (own := own) (text := text) (index := is) (a := sa) hown' hstr'.1 hstr'.2
    (g := { method := m, pc := pc + 4, locals := ls, stack := .ref T.heap.size :: .ref T.heap.size :: rest, locked := none }) rfl d4' _ hsteps
/-- 'throw new E("text")', the text by a wide index -/
theorem vx_throwSW {cc : ByteArray} {pc : Nat} (hexec : p.tables.exec = Jvm.exec) (hb : c.code = cc) (hl : l.stackTraces = false) {own cls text : String} {names : List String} {ik is ic mc ms sa : Nat} {A : Nat → Prop}
    (hown : s.vm.findClass own = some m.cls) (hcls : Bundle.fit cls = true) (hnames : ∀ n ∈ names, Bundle.fit n = true)
    (hk : (Cond.classLink own ik cls).before args s = true) (hini : (Cond.initialized cls).before args s = true) (hstr : vk_R own is text sa s) (hat : ∀ w ∈ vx_atS own ic cls names, w.before args s = true)
    (hgood : ∀ w ∈ Cond.classLink own ik cls :: Cond.initialized cls :: vx_atS own ic cls names, vx_ot w = true)
    (hU : vx_Zq Bundle.tN "UNASSIGNED_STACK" Bundle.steD A s s.heap) (hN : vx_Zq Bundle.tN "SUPPRESSED_SENTINEL" Bundle.listD A s s.heap) (hS : va_S A s.heap H locs) (hsize : ls.size = c.maxLocals)
    (d0 : decode cc pc = .ok (.new ik, 3)) (d3 : decode cc (pc + 3) = .ok (.dup, 1)) (d4 : decode cc (pc + 4) = .ok (.ldc_w is, 3)) (d7 : decode cc (pc + 7) = .ok (.invokespecial ic, 3)) (d10 : decode cc (pc + 10) = .ok (.athrow, 1))
    (hout : ∀ x ∈ c.exceptionTable.toList, covers x (pc + 10) = false)
    (hRframes : names.length + 3 < R.frames) (hRlocals : (rest.map fun v => v.category).sum + (13 * (names.length + 1) + 43) ≤ R.locals) (hRcells : cells + 1 ≤ R.cells) (hRslots : slots + 6 ≤ R.slots) (hlocks : meth.locks = false)
    (hx : ∀ t : State, s.vm.Alike t.vm → H.size ≤ t.heap.size → (∀ q : Nat, q < H.size → t.heap[q]? = H[q]?) → XC cls s t)
    (hf : ∀ z ∈ locs, free z.base) (hc : cells + 1 ≤ mc) (hs : slots + 6 ≤ ms) :
    W p l e R s m args below meth c H locs cells slots (vx_MQ below Qc XC args s mc ms free) (F0 m pc ls rest) := by
  intro T hT X
  have htr : e.platform.stackTraces = false := (show e.platform.stackTraces = l.stackTraces by rw [X.admits.platform]).trans hl
  have Y := vx_rebase X (R' := { frames := R.frames, locals := R.locals, cells := 1, slots := 6 }) (Nat.le_refl _) (Nat.le_refl _) hRcells hRslots
  obtain ⟨s', hA⟩ : ∃ z, z = (T.setVm s.vm).setFrames (.invoking m args :: below) := ⟨_, rfl⟩
  rw [← hA] at Y
  have hvm : s'.vm = s.vm := by rw [hA]; rfl
  have hhp : s'.heap = H := by rw [hA]; exact hT
  have hW0 : s.WarmedH s'.vm := by rw [hvm]; exact State.WarmedH.refl s
  have hat' : ∀ w ∈ vx_atS own ic cls names, w.before args s' = true := fun w hw => vx_ot_at hW0 hvm.symm (hgood w (List.mem_cons_of_mem _ (List.mem_cons_of_mem _ hw))) (hat w hw)
  have hk' : (Cond.classLink own ik cls).before args s' = true := vx_ot_at hW0 hvm.symm (hgood _ List.mem_cons_self) hk
  have hini' : (Cond.initialized cls).before args s' = true := vx_ot_at hW0 hvm.symm (hgood _ (List.mem_cons_of_mem _ List.mem_cons_self)) hini
  have hU' : vx_Zq Bundle.tN "UNASSIGNED_STACK" Bundle.steD A s' s'.heap := by rw [hhp]; exact vx_Zq.moved hW0.alike (hU.kept hS.2.1)
  have hN' : vx_Zq Bundle.tN "SUPPRESSED_SENTINEL" Bundle.listD A s' s'.heap := by rw [hhp]; exact vx_Zq.moved hW0.alike (hN.kept hS.2.1)
  have h : ∀ w ∈ Bundle.ownAtoms own ic cls names, w.before args s' = true := vx_own hat' (vx_isRefq hU'.1) (vx_isRefq hN'.1) hU'.2.word hN'.2.word
  have hown' : s'.vm.findClass own = some m.cls := by rw [hvm]; exact hown
  have hins : (Cond.instantiable cls 6).before args s' = true := h _ (by simp [Bundle.ownAtoms])
  obtain ⟨vm₁, cX, kX, hfX, hkX, -, -, X₁, st1⟩ := Y.newCold hexec (own := own) (C := cls) (index := ik) (n := 6) hown' hk' hins hini'
    (g := F0 m pc ls rest) rfl (by rw [hb]; exact d0) (Nat.le_refl _) (Nat.le_refl _)
  generalize hT1 : (T.setVm vm₁).pushCell { cls := cX, slots := kX.instanceTypes.map defaultValue, vm := .none } = T1 at X₁ st1
  have hcat : (Value.ref T.heap.size).category = 1 := rfl
  have hcellA : T1.heap[T.heap.size]? = some (freshCell cX kX) := by rw [← hT1]; exact State.heap_pushCell_size _ _
  have d3' : decode c.code (pc + 3) = .ok (.dup, 1) := by rw [hb]; exact d3
  have d4' : decode c.code (pc + 4) = .ok (.ldc_w is, 3) := by rw [hb]; exact d4
  have hstr' : vk_R own is text sa s' := vk_R.warm hW0 hstr
  obtain ⟨U, hsteps, hrun, hend, hW, hsame, ce, hce, hO⟩ := X₁.ctorThrowS hexec htr (own := own) (cls := cls) (names := names) (ic := ic) hown' hcls hnames h (fun x hx => nomatch hx) hfX hkX hcellA (by rw [hhp, hT]; exact Nat.le_refl _) (msg := .ref sa) rfl
    (g := { method := m, pc := pc + 7, locals := ls, stack := .ref sa :: .ref T.heap.size :: .ref T.heap.size :: rest, locked := none }) rfl hsize rfl rfl (rest := rest) rfl
    (by rw [hb]; exact d7) (by rw [hb]; exact d10) hout hRframes (by simp only [List.map_cons, List.sum_cons, hcat]; omega) hlocks
  obtain ⟨f1, f2⟩ := vx_frame hsame
  rw [hhp] at f1 f2
  have hWs : s.WarmedH U.vm := State.WarmedH.trans hW0 hW
  have hcl : s.vm.findClass cls = some ce.cls := by
    have h9 := hO.cls
    rw [hvm] at h9
    exact h9
  have hall : s.sameButNew ({ U with vm := s.vm } : State) locs mc ms := by
    subst hA
    obtain ⟨e1, e2⟩ := hsame
    rw [State.setFrames_setFrames] at e1
    have h2 : (T.setVm s.vm).sameButNew ({ U with vm := s.vm } : State) [] (0 + 1) (0 + 6) := ⟨e1, e2⟩
    have h3 := X.same.trans h2
    rw [List.append_nil] at h3
    exact h3.mono hc hs
  refine ⟨U, ?_, .threw T.heap.size, hrun, hend, Or.inr ⟨T.heap.size, rfl, cls, ce, locs, hx U hWs.alike f1 (fun q hq => f2 q hq (fun z hz => nomatch hz)), hce, hO.vm, hcl, hWs, hall, hf⟩⟩
  refine st1 _ ?_
  show Steps p.tables e below (T1.setTop { method := m, pc := pc + 3, locals := ls, stack := .ref T.heap.size :: rest, locked := none }) _
  jvm_step X₁.here [X₁.here.top, hexec, d3', Value.category]
  exact X₁.ldcStringW hexec (own := own) (text := text) (index := is) (a := sa) hown' hstr'.1 hstr'.2
    (g := { method := m, pc := pc + 4, locals := ls, stack := .ref T.heap.size :: .ref T.heap.size :: rest, locked := none }) rfl d4' _ hsteps
end Ends
section Bodies
variable {l : Launch}
theorem vx_ofW {y : MethodName} {ws ws' : List Cond} {rm : Room} {Pc : Array Value → State → Prop} {Qc : Array Value → State → Outcome → State → Prop} {XC : String → State → State → Prop} {mc ms : Nat} {free : Addr → Prop} {cc : ByteArray} {maxL : Nat} {ret : Option FieldType}
    (hy : plainName y.cls = true) (hw : ws = Cond.code y cc maxL ret :: ws')
    (body : ∀ p e s m args below meth c s₁, BodyLoose p l y (headSpec ws rm) cc maxL ret e s m args below meth c s₁ → c.maxLocals = maxL → (∀ x ∈ c.exceptionTable.toList, False) → Pc args s →
      W p l e (headSpec ws rm).room s m args below meth c s.heap [] 0 0 (vx_MQ below Qc XC args s mc ms free) (entryFrame m args maxL)) : vx_Met l y ws rm Pc Qc XC mc ms free := by
  refine MetFree.of_bodyS (code := cc) (maxLocals := maxL) (ret := ret) hy ?_ ?_
  · intro args s m h hn
    obtain ⟨meth, c, h1, h2, h3, h4, h5, h6, -, -⟩ := Cond.code_spec hn (atoms_spec (ws := ws) h _ (by rw [hw]; exact List.mem_cons_self))
    exact ⟨meth, c, h1, h2, h3, h4, h5, h6⟩
  · intro p e s m args below meth c s₁ B hml hP _
    have hh0 : s₁.heap = s.heap := by rw [B.state]; rfl
    have ht : ∀ x ∈ c.exceptionTable.toList, False := by
      obtain ⟨meth9, c9, h1, h2, -, -, -, -, h7, -⟩ := Cond.code_spec B.named (atoms_spec (ws := ws) B.pre _ (by rw [hw]; exact List.mem_cons_self))
      cases Option.some.inj (h1.symm.trans B.method)
      cases Option.some.inj (h2.symm.trans (Stand.of_body B).code)
      intro x hx
      rw [Array.isEmpty_iff.mp h7] at hx
      cases hx
    obtain ⟨t, a1, o, b1, b2, b3⟩ := body p e s m args below meth c s₁ B hml ht hP s₁ hh0 (Stand.of_body B)
    exact ⟨t, o, a1, b1, b2, b3⟩
/-- the table of a body with handlers -/
theorem vx_table {p : Program} {x y : MethodName} {S : Spec} {cc bytes : ByteArray} {maxL maxL' : Nat} {ret ret' : Option FieldType} {e : Env} {s s₁ : State} {m : MethodId} {args : Array Value} {below : List Frame} {meth : Method} {c : Code} {hh : List (Nat × Nat × Nat × Nat)}
    (B : BodyLoose p l y S cc maxL ret e s m args below meth c s₁) (h : (Cond.codeWith y bytes maxL' ret' hh).before args s = true) : c.exceptionTable.toList = tableOf hh := by
  obtain ⟨m9, meth9, c9, hn9, h1, h2, -, -, h6, -⟩ := Cond.codeWith_spec h
  cases Option.some.inj (hn9.symm.trans B.named)
  cases Option.some.inj (h1.symm.trans B.method)
  cases Option.some.inj (h2.symm.trans (Stand.of_body B).code)
  rw [← h6, table_eq]
end Bodies
end VXA
/-! ===== END ===== -/
/-! ===== BEGIN a static call of a method with an exception table ===== -/
section VXS
variable {p : Program} {l : Launch} {e : Env} {R : Room} {s : State} {m : MethodId} {args : Array Value} {below : List Frame} {meth : Method} {c : Code} {T : State} {H : Heap} {locs : List Loc} {cells slots : Nat}
abbrev vx_CSW (R : Room) (s : State) (args : Array Value) (own : String) (index : Nat) (y : MethodName) (bytes : ByteArray) (maxL : Nat) (ret : Option FieldType) (hh : List (Nat × Nat × Nat × Nat)) (ws : List Cond) (rm : Room) (mc ms n : Nat) : Prop :=
  (rm.cells = mc ∧ rm.slots = ms ∧ rm.frames + 1 ≤ R.frames ∧ 8 + (maxL + 11) + rm.locals ≤ R.locals ∧ (∀ w ∈ ws, ∀ (a' : Array Value) (U : State), s.WarmedH U.vm → w.before a' U = true) ∧ Cond.codeWith y bytes maxL ret hh ∈ ws) ∧
  (Cond.codeWith y bytes maxL ret hh).before args s = true ∧ (Cond.initialized y.cls).before args s = true ∧ (y.cls ≠ "java/lang/invoke/MethodHandle" ∧ y.cls ≠ "java/lang/invoke/VarHandle") ∧
  (∀ sig, parseMethodDescriptor y.desc = some sig → n = sig.parameters.length) ∧ (Cond.methodLink own index y).before args s = true ∧ (Cond.static y).before args s = true
theorem vx_cwSW {own : String} {index maxL mc ms : Nat} {y : MethodName} {bytes : ByteArray} {ret : Option FieldType} {hh : List (Nat × Nat × Nat × Nat)} {Ts ws ws' : List Cond} {rm : Room} (n : Nat) (ht : ∀ w ∈ Ts, w.before args s = true) (hT : GoodIn Ts (va_wsS own index y ws)) (hw : ws = Cond.codeWith y bytes maxL ret hh :: ws') (hrc : rm.cells = mc) (hrs : rm.slots = ms)
    (hd : y.cls ≠ "java/lang/invoke/MethodHandle" ∧ y.cls ≠ "java/lang/invoke/VarHandle" ∧ (parseMethodDescriptor y.desc).map (fun d => d.parameters.length) = some n) (hR : rm.frames + 1 ≤ R.frames ∧ 8 + (maxL + 11) + rm.locals ≤ R.locals) :
    vx_CSW R s args own index y bytes maxL ret hh ws rm mc ms n := by
  have ok : ∀ w ∈ va_wsS own index y ws, w.before args s = true := fun w h => ht w (hT w h).1
  have hG : GoodIn Ts ws := fun w h => hT w (by unfold va_wsS; exact List.mem_append_right _ h)
  have hc : Cond.codeWith y bytes maxL ret hh ∈ ws := by rw [hw]; exact List.mem_cons_self
  refine ⟨⟨hrc, hrs, hR.1, hR.2, pay_in ht hG, hc⟩, ht _ (hG _ hc).1, ok _ (by simp [va_wsS]), ⟨hd.1, hd.2.1⟩, fun sig h => ?_, ok _ (by simp [va_wsS]), ok _ (by simp [va_wsS])⟩
  have h2 := hd.2.2
  rw [h] at h2
  exact (Option.some.inj h2).symm
theorem vx_callSW (X : Stand p l e R s m args below meth c T locs cells slots) (hexec : p.tables.exec = Jvm.exec) {own : String} {index : Nat} {y : MethodName} {bytes : ByteArray} {maxL : Nat} {ret : Option FieldType} {hh : List (Nat × Nat × Nat × Nat)}
    (hown : s.vm.findClass own = some m.cls) (hlink : (Cond.methodLink own index y).before args s = true) (hstat : (Cond.static y).before args s = true) (hinit : (Cond.initialized y.cls).before args s = true)
    (hcode : (Cond.codeWith y bytes maxL ret hh).before args s = true) (hy : y.cls ≠ "java/lang/invoke/MethodHandle" ∧ y.cls ≠ "java/lang/invoke/VarHandle")
    {W9 : Nat} {Pre : Pt → Array Value → Prop} {Post : Pt → Array Value → Option Value → Pt → Prop} (hK : Back l R p e below s args y 3 W9 Pre Post)
    {g : JFrame} (hg : g.method = m) (hsize : g.locals.size = c.maxLocals) {argsL rest : List Value} (hlen : ∀ sig, parseMethodDescriptor y.desc = some sig → argsL.length = sig.parameters.length)
    (hstack : g.stack = argsL.reverse ++ rest) (hW : 2 * g.monitorRoom + (rest.map fun v => v.category).sum ≤ W9) (hdg : decode c.code g.pc = .ok (.invokestatic index, 3))
    (hpre : ∀ vm₁, s.WarmedH vm₁ → Pre ⟨T.setVm vm₁, locs, cells, slots⟩ argsL.toArray) :
    ∃ (v : Option Value) (vm₁ : Vm) (B : Pt), s.WarmedH vm₁ ∧ Stand p l e R s m args below meth c B.U B.locs B.cells B.slots ∧ Post ⟨T.setVm vm₁, locs, cells, slots⟩ argsL.toArray v B ∧
      ∀ target, Steps p.tables e below (B.U.setTop { g with pc := g.pc + 3, stack := v.toList ++ rest }) target → Steps p.tables e below (T.setTop g) target := by
  obtain ⟨mk, methM, cM, hnamed, hmethM, -, -, -, -, -, -, hsigM⟩ := Cond.codeWith_spec hcode
  have hstatic : methM.isStatic = true := Cond.static_spec hnamed hmethM hstat
  obtain ⟨kP, hkP, -⟩ := className_of_methodNamed hnamed
  have hinitP : kP.init = .initialized := Cond.initialized_spec (findClass_of_methodNamed hnamed) hkP hinit
  obtain ⟨vm₁, X₁, hstep₁⟩ := X.invokestatic hexec hown hlink hnamed hmethM hstatic hkP hinitP hy (g := g) hg (argsL := argsL) (rest := rest) (hlen _ hsigM) hstack hdg
  obtain ⟨v, B, X', hpost, hsteps⟩ := hK m meth c ⟨T.setVm vm₁, locs, cells, slots⟩ { g with stack := rest } (.invokestatic index) mk argsL.toArray X₁ hg hsize hdg hW (X₁.named hnamed) (hpre vm₁ X₁.warmed)
  exact ⟨v, vm₁, B, X₁.warmed, X', hpost, fun target h => hstep₁ _ fun acts => by rw [doInvoke_state]; exact hsteps.trans h⟩
theorem vx_runSW {y : MethodName} {bytes cc : ByteArray} {maxL nL mc ms n index : Nat} {ret : Option FieldType} {hh : List (Nat × Nat × Nat × Nat)} {ws : List Cond} {rm : Room} {Pc : Array Value → State → Prop} {Qc : Array Value → State → Outcome → State → Prop} {free : Addr → Prop} {Ts : List Cond} {own : String} {As rest : List Value} {g : JFrame}
    (S : CallFix p m c cc nL s args Ts own) (hM : Met l y ws rm Pc Qc mc ms free) (cw : vx_CSW R s args own index y bytes maxL ret hh ws rm mc ms n) (hp : PreS s H Pc As)
    (hg : g.method = m) (hn : As.length = n) (hsize : g.locals.size = nL) (hstack : g.stack = As.reverse ++ rest) (hW : 2 * g.monitorRoom + (rest.map fun v => v.category).sum ≤ 8) (hdg : decode cc g.pc = .ok (.invokestatic index, 3)) (hf : cells + mc ≤ R.cells ∧ slots + ms ≤ R.slots) :
    va_Run p l e R s m args below meth c H locs cells slots mc ms g rest (Qc As.toArray) (free) := by
  obtain ⟨⟨hrc, hrs, hfr, hlo, hws, hcw⟩, hcode, hini, hy, hlen, hl, hstt⟩ := cw
  have hK : Back l R p e below s args y 3 8 (PreOf R mc ms Pc) (PostOf Qc mc ms free) := va_backW (hh := hh) (bytes := bytes) (maxL := maxL) (ret := ret) hM hp.1 hrc hrs hfr hlo hws hcw (fun a' U hW => word_at hW (Or.inl (by first | rfl | simp [Cond.onTables, Cond.keeps, Cond.steady])) hini)
  obtain ⟨hx, hb, hml, ho, -⟩ := S
  intro T hT X
  obtain ⟨v, vm₁, ⟨U', l2, c2, s2⟩, hW₁, X', ⟨g', mk, t, L, e1, e2, hq, h1, hL, h2, h3⟩, st⟩ := vx_callSW X hx (hh := hh) (bytes := bytes) (maxL := maxL) (ret := ret) ho hl hstt hini hcode hy hK hg (hsize.trans hml.symm) (argsL := As) (rest := rest) (fun sig h => hn.trans (hlen sig h)) hstack hW (by rw [hb]; exact hdg)
    (fun vm₁ hW₁ => ⟨hf.1, hf.2, hp.2 (T.setVm vm₁) hT hW₁⟩)
  dsimp only [Pt.U, Pt.locs, Pt.cells, Pt.slots] at X' e1 e2 h1 h2 h3 st
  subst h1; subst h2; subst h3
  exact ⟨v, (T.setVm vm₁).calling g' mk As.toArray, t, U', L, hT, X', hL, e1, e2, hq, st⟩
/-- not caught here, past rows that name other classes: it goes on to the caller -/
theorem vx_outP {p : Program} {l : Launch} {e : Env} {R : Room} {s : State} {m : MethodId} {args : Array Value} {below : List Frame} {meth : Method} {c : Code} {H : Heap} {locs : List Loc} {cells slots : Nat} {free : Addr → Prop} {ls : Array Slot} {rest : List Value} {Qc : Array Value → State → Outcome → State → Prop} {XC : String → State → State → Prop}
    {pc : Nat} {own E : String} {ce : Cell} {q : Addr} {mc ms : Nat} (hown : s.vm.findClass own = some m.cls) (hlocks : meth.locks = false)
    (hpass : ∀ z ∈ c.exceptionTable.toList, covers z pc = false ∨ (z.catchType ≠ 0 ∧ ∃ nm : String, (Cond.classLink own z.catchType nm).before args s = true ∧ va_Nc E nm s)) (hcell : H[q]? = some ce) (hv : ce.vm = .none) (hcl : s.vm.findClass E = some ce.cls)
    (hx : ∀ t : State, t.heap = H → s.vm.Alike t.vm → XC E s t) (hf : ∀ z ∈ locs, free z.base) (hc : cells ≤ mc) (hs : slots ≤ ms) :
    vx_W p l e R s m args below meth c H locs cells slots (vx_MQ below Qc XC args s mc ms free) (F0 m pc ls rest) q := by
  intro T hT X
  have hpl : e.platform.magicAccessors = ({} : Platform).magicAccessors := by rw [X.admits.platform]
  obtain ⟨vm', hW', X', st⟩ := X.outThrough hlocks q (g := F0 m pc ls rest) rfl rfl rfl (cell := ce) (by rw [hT]; exact hcell) (by rw [hv]; rfl)
    (by obtain ⟨k9, h9, -⟩ := Vm.findClass_spec hcl; exact ⟨k9, h9⟩) (fun z hz => by
      rcases hpass z hz with h | ⟨hz0, nm, hl1, hn1⟩
      · exact Or.inl h
      · obtain ⟨c6, hc6, hcl6⟩ := Cond.classLink_spec hown hl1 e.platform hpl
        obtain ⟨a8, b8, h1, h2, h3⟩ := hn1
        cases Option.some.inj (h1.symm.trans hcl)
        cases Option.some.inj (h2.symm.trans hc6)
        exact Or.inr ⟨hz0, _, hcl6, h3⟩)
  obtain ⟨g₀, hfr⟩ := X'.frames_eq
  have hcell9 : ((T.setVm vm').setFrames (.throwing q :: below)).heap[q]? = some ce := by
    show T.heap[q]? = some ce
    rw [hT]; exact hcell
  have hend : Ended ((T.setVm vm').setFrames (.throwing q :: below)) below (.threw q) := State.frames_setFrames _ (State.cur_lt_of_frames hfr)
  refine ⟨(T.setVm vm').setFrames (.throwing q :: below), ?_, .threw q, X'.here.running, hend, Or.inr ⟨q, rfl, E, ce, locs, hx _ hT (X'.ends _).1.alike, hcell9, hv, hcl, (X'.ends _).1, (X'.ends _).2.mono hc hs, hf⟩⟩
  rw [X.pushThrowing_eq]
  exact st
/-- a thing of a world lies in the heap -/
theorem vx_lt {D : va_G} {cl : List vw_C} {ws : va_W} {H1 : Heap} (h : va_P D cl ws H1) {k : Nat} {q : Nat × va_E} (hk : ws[k]? = some q) : q.1 < H1.size := (h k q hk).lt
end VXS
/-! ===== END ===== -/
/-! ===== BEGIN methods with a table of their own: called by a name, returning or throwing ===== -/
section VXH
/-! vx_backW, vx_callVX, vx_callSX, vx_callVW, vx_runVW, vx_runVX, vx_runSX, vx_ofWH follow the same proofs as their sisters above (Free/Laws.lean, Shelf42/LK1.lean); vx_outP calls Shelf42/NT130.lean (outThrough). -/
section
variable {l : Launch} {R : Room} {p : Program} {e : Env} {below : List Frame} {s : State} {sargs : Array Value} {y : MethodName} {len W9 : Nat}
theorem vx_backW {ws : List Cond} {rm : Room} {Pc : Array Value → State → Prop} {Qc : Array Value → State → Outcome → State → Prop} {XC : String → State → State → Prop} {mc ms : Nat} {free : Addr → Prop} {bytes : ByteArray} {maxL : Nat} {ret : Option FieldType} {hh : List (Nat × Nat × Nat × Nat)}
    (hM : vx_Met l y ws rm Pc Qc XC mc ms free) (hblind : FrameBlind Pc) (hrc : rm.cells = mc) (hrs : rm.slots = ms)
    (hframes : rm.frames + 1 ≤ R.frames) (hlocals : W9 + (maxL + 11) + rm.locals ≤ R.locals)
    (hws : ∀ w ∈ ws, ∀ a' U, s.WarmedH U.vm → w.before a' U = true) (hcode : Cond.codeWith y bytes maxL ret hh ∈ ws) (hinit : ∀ a' U, s.WarmedH U.vm → (Cond.initialized y.cls).before a' U = true) :
    vx_Back l R p e below s sargs y len W9 (PreOf R mc ms Pc) (PostOf Qc mc ms free) (vx_Post XC mc ms free) := by
  intro m meth c A g ig mk a X hg hsize hdg hW hn hp
  have h1 : (headSpec ws rm).pre.before a A.U = true := atoms_intro fun w hw => hws w hw _ _ X.warmed
  have h2 : (Cond.codeWith y bytes maxL ret hh).before a A.U = true := hws _ hcode _ _ X.warmed
  have h3 : (Cond.initialized y.cls).before a A.U = true := hinit _ _ X.warmed
  have h4 : A.cells + (headSpec ws rm).room.cells ≤ R.cells := by rw [show (headSpec ws rm).room.cells = mc from hrc]; exact hp.1
  have h5 : A.slots + (headSpec ws rm).room.slots ≤ R.slots := by rw [show (headSpec ws rm).room.slots = ms from hrs]; exact hp.2.1
  have hPc : Pc a (A.U.calling g mk a) := hblind _ _ _ _ hp.2.2
  obtain ⟨U, Ls, c0, s0⟩ := A
  dsimp only [Pt.U, Pt.locs, Pt.cells, Pt.slots] at h1 h2 h3 h4 h5 X hn hPc ⊢
  obtain ⟨m9, methY, cY, hn9, hmY, hcY, -, hlY, -⟩ := Cond.codeWith_spec h2
  cases Option.some.inj (hn9.symm.trans hn)
  obtain ⟨kY, hkY, -⟩ := className_of_methodNamed hn
  have hinitY : kY.init = .initialized := Cond.initialized_spec (findClass_of_methodNamed hn) hkY h3
  have h : At U g.method c below := by rw [hg]; exact X.here
  have hlocals9 : W9 + (maxL + 11) + (headSpec ws rm).room.locals ≤ R.locals := hlocals
  have happ : (headSpec ws rm).appliesLoose y e.platform (U.calling g mk a) = true :=
    Spec.appliesLoose_calling (g := g) h hdg hn hkY hinitY
      (X.room_calling (g := g) (R' := (headSpec ws rm).room) hsize hmY hcY hframes (by rw [hlY]; omega) h4 h5) h1
  obtain ⟨mid, hmid⟩ := h.above
  have hfr : (U.setTop g).frames = (.java g :: mid) ++ below := by rw [State.frames_setTop' g h.top, hmid]; rfl
  obtain ⟨o, s₂, hsteps, -, hend, hq⟩ := Steps.callFree hM p X.admits X.cas X.clock (acts := []) hfr happ hPc trivial
  have hq' : vx_Q Qc XC mc ms free a (U.calling g mk a) o s₂ := hq
  rw [State.frames_setTop' g h.top] at hend
  obtain ⟨g₀, hg0⟩ := Option.isSome_iff_exists.mp h.top
  obtain ⟨r, hr⟩ := State.topJava?_eq_some.mp hg0
  have hr' : (({ U with heap := s₂.heap, slotsUsed := s₂.slotsUsed } : State).setVm s₂.vm).frames = .java g₀ :: r := hr
  rcases hq' with ⟨hqc, L, hfe, hL⟩ | ⟨q, rfl, E, ce, L, hx, hce, hcv, hcl, hW₂, hsm, hL⟩
  · obtain ⟨⟨v, rfl⟩, hW₂, e2, q2, q3, q4, q5, q6⟩ := id hfe
    have e3 : s₂ = ({ (U.calling g mk a).setFrames s₂.frames with heap := s₂.heap, slotsUsed := s₂.slotsUsed } : State).setVm s₂.vm := by
      have : s₂ = ({ s₂ with vm := (U.calling g mk a).vm } : State).setVm s₂.vm := rfl
      rw [e2] at this
      exact this
    obtain ⟨c₂, i₂, len₂, hc₂, hd₂, hf₂⟩ := hend
    have hW' : U.WarmedH s₂.vm := hW₂
    have hcc : c₂ = c := by
      have h1 : s₂.code? g.method = U.code? g.method := by
        rw [State.code?_eq, State.code?_eq, hW'.alike.method?]
      exact Option.some.inj (hc₂.symm.trans (h1.trans h.code))
    subst hcc
    have hlen : len₂ = len := by rw [hdg] at hd₂; cases hd₂; rfl
    subst hlen
    have hs₂ : s₂ = (({ U with heap := s₂.heap, slotsUsed := s₂.slotsUsed } : State).setVm s₂.vm).setTop { g with pc := g.pc + len₂, stack := v.toList ++ g.stack } := by
      refine e3.trans ?_
      rw [hf₂, State.calling_eq h.top, State.setFrames_setFrames, State.setTop_of_frames _ hr', hr]
      rfl
    have hsame : U.sameButNew ({ U with heap := s₂.heap, slotsUsed := s₂.slotsUsed } : State) L mc ms := by
      refine ⟨?_, q2, q3, q4, q5, q6⟩
      obtain ⟨t, ht, -⟩ := State.frames_cons hr
      show ({ U with heap := s₂.heap, slotsUsed := s₂.slotsUsed } : State) = { U.setFrames U.frames with heap := s₂.heap, slotsUsed := s₂.slotsUsed }
      rw [State.setFrames_self ht]
    subst hg
    refine Or.inl ⟨v, ⟨(({ U with heap := s₂.heap, slotsUsed := s₂.slotsUsed } : State).setVm s₂.vm), Ls ++ L, c0 + mc, s0 + ms⟩,
      ⟨X.admits, X.cas, X.clock, X.frames, X.room, X.hears, X.method, X.code, (X.here.setHeapUsed s₂.heap s₂.slotsUsed).setVm hW'.alike, X.tail, State.WarmedH.trans X.warmed hW', X.limits, X.bytes, X.same.trans (hsame.setVm s.vm)⟩,
      ⟨g, mk, s₂, L, rfl, rfl, hqc, rfl, hL, rfl, rfl⟩, ?_⟩
    show Steps p.tables e below _ ((({ U with heap := s₂.heap, slotsUsed := s₂.slotsUsed } : State).setVm s₂.vm).setTop { g with pc := g.pc + len₂, stack := v.toList ++ g.stack })
    rw [← hs₂]
    exact hsteps
  · obtain ⟨e2, q2, q3, q4, q5, q6⟩ := id hsm
    have e3 : s₂ = ({ (U.calling g mk a).setFrames s₂.frames with heap := s₂.heap, slotsUsed := s₂.slotsUsed } : State).setVm s₂.vm := by
      have : s₂ = ({ s₂ with vm := (U.calling g mk a).vm } : State).setVm s₂.vm := rfl
      rw [e2] at this
      exact this
    have hf₂ : s₂.frames = .throwing q :: .java g :: U.frames.tail := hend
    have hW' : U.WarmedH s₂.vm := hW₂
    have hs₂ : s₂ = ((({ U with heap := s₂.heap, slotsUsed := s₂.slotsUsed } : State).setVm s₂.vm).setTop g).pushFrame (.throwing q) := by
      refine e3.trans ?_
      rw [hf₂, State.calling_eq h.top, State.setFrames_setFrames, State.pushFrame, State.frames_setTop _ hr', State.setTop_of_frames _ hr', State.setFrames_setFrames, hr]
      rfl
    have hsame : U.sameButNew ({ U with heap := s₂.heap, slotsUsed := s₂.slotsUsed } : State) L mc ms := by
      refine ⟨?_, q2, q3, q4, q5, q6⟩
      obtain ⟨t, ht, -⟩ := State.frames_cons hr
      show ({ U with heap := s₂.heap, slotsUsed := s₂.slotsUsed } : State) = { U.setFrames U.frames with heap := s₂.heap, slotsUsed := s₂.slotsUsed }
      rw [State.setFrames_self ht]
    subst hg
    refine Or.inr ⟨q, ⟨(({ U with heap := s₂.heap, slotsUsed := s₂.slotsUsed } : State).setVm s₂.vm), Ls ++ L, c0 + mc, s0 + ms⟩,
      ⟨X.admits, X.cas, X.clock, X.frames, X.room, X.hears, X.method, X.code, (X.here.setHeapUsed s₂.heap s₂.slotsUsed).setVm hW'.alike, X.tail, State.WarmedH.trans X.warmed hW', X.limits, X.bytes, X.same.trans (hsame.setVm s.vm)⟩,
      ⟨g, mk, s₂, L, E, ce, rfl, rfl, hx, hce, hcv, hcl, rfl, hL, rfl, rfl⟩, ?_⟩
    show Steps p.tables e below _ (((({ U with heap := s₂.heap, slotsUsed := s₂.slotsUsed } : State).setVm s₂.vm).setTop g).pushFrame (.throwing q))
    rw [← hs₂]
    exact hsteps
end
variable {p : Program} {l : Launch} {e : Env} {R : Room} {s : State} {m : MethodId} {args : Array Value} {below : List Frame} {meth : Method} {c : Code} {T : State} {H : Heap} {locs : List Loc} {cells slots : Nat}
theorem vx_callVX (X : Stand p l e R s m args below meth c T locs cells slots) (hexec : p.tables.exec = Jvm.exec) {own C : String} {index : Nat} {y : MethodName} {bytes : ByteArray} {maxL : Nat} {ret : Option FieldType} {hh : List (Nat × Nat × Nat × Nat)}
    (hown : s.vm.findClass own = some m.cls) (hlink : (Cond.methodLink own index y).before args s = true) (hinst : (Cond.instanceMethod y).before args s = true) (hsel : (Cond.selects C y y).before args s = true)
    (hcode : (Cond.codeWith y bytes maxL ret hh).before args s = true) (hy : y.cls ≠ "java/lang/invoke/MethodHandle" ∧ y.cls ≠ "java/lang/invoke/VarHandle")
    {W9 : Nat} {Pre : Pt → Array Value → Prop} {Post : Pt → Array Value → Option Value → Pt → Prop} {PostX : Pt → Array Value → Addr → Pt → Prop} (hK : vx_Back l R p e below s args y 3 W9 Pre Post PostX)
    {b : Addr} {cellB : Cell} (hcell : T.heap[b]? = some cellB) (hobj : cellB.vm.isStatics = false) (hcls : s.vm.findClass C = some cellB.cls)
    {g : JFrame} (hg : g.method = m) (hsize : g.locals.size = c.maxLocals) {argsL rest : List Value} (hlen : ∀ sig, parseMethodDescriptor y.desc = some sig → argsL.length = sig.parameters.length)
    (hstack : g.stack = argsL.reverse ++ .ref b :: rest) (hW : 2 * g.monitorRoom + (rest.map fun v => v.category).sum ≤ W9) (hdg : decode c.code g.pc = .ok (.invokevirtual index, 3))
    (hpre : ∀ vm₁, s.WarmedH vm₁ → Pre ⟨T.setVm vm₁, locs, cells, slots⟩ (Value.ref b :: argsL).toArray) :
    (∃ (v : Option Value) (vm₁ : Vm) (B : Pt), s.WarmedH vm₁ ∧ Stand p l e R s m args below meth c B.U B.locs B.cells B.slots ∧ Post ⟨T.setVm vm₁, locs, cells, slots⟩ (Value.ref b :: argsL).toArray v B ∧
      ∀ target, Steps p.tables e below (B.U.setTop { g with pc := g.pc + 3, stack := v.toList ++ rest }) target → Steps p.tables e below (T.setTop g) target) ∨
    (∃ (q : Addr) (vm₁ : Vm) (B : Pt), s.WarmedH vm₁ ∧ Stand p l e R s m args below meth c B.U B.locs B.cells B.slots ∧ PostX ⟨T.setVm vm₁, locs, cells, slots⟩ (Value.ref b :: argsL).toArray q B ∧
      Steps p.tables e below (T.setTop g) ((B.U.setTop { g with stack := rest }).pushFrame (.throwing q))) := by
  obtain ⟨mk, methM, hnamed, hmethM, hstM, habM⟩ := Cond.instanceMethod_spec hinst
  obtain ⟨m8, methM', cM, hn8, hmethM', -, -, -, -, -, -, hsigM⟩ := Cond.codeWith_spec hcode
  cases Option.some.inj (hn8.symm.trans hnamed)
  cases hmethM.symm.trans hmethM'
  obtain ⟨c2, r2, m2, q1, q2, q3, q4, kP, hkP, hkPi⟩ := Cond.selects_spec hsel
  cases hcls.symm.trans q1
  cases (State.methodFound?_of_named hnamed hy).symm.trans q2
  cases hnamed.symm.trans q3
  have hselP : selectMethod e.platform s.vm cellB.cls mk = .method mk := by rw [Launch.admits_selectMethod X.admits]; exact q4
  obtain ⟨vm₁, X₁, hstep₁⟩ := X.invokevirtual hexec hown hlink hnamed hmethM hstM hkP hkPi hy (a := b) (cell := cellB) hcell
    (fun z h => by rw [h] at hobj; cases hobj) hselP hmethM habM hkP hkPi (g := g) hg (argsL := argsL) (rest := rest) (hlen _ hsigM) hstack hdg
  rcases hK m meth c ⟨T.setVm vm₁, locs, cells, slots⟩ { g with stack := rest } (.invokevirtual index) mk (Value.ref b :: argsL).toArray X₁ hg hsize hdg hW (X₁.named hnamed) (hpre vm₁ X₁.warmed) with ⟨v, B, X', hpost, hsteps⟩ | ⟨q, B, X', hpost, hsteps⟩
  · exact Or.inl ⟨v, vm₁, B, X₁.warmed, X', hpost, fun target h => hstep₁ _ fun acts => by rw [doInvoke_state]; exact hsteps.trans h⟩
  · exact Or.inr ⟨q, vm₁, B, X₁.warmed, X', hpost, hstep₁ _ fun acts => by rw [doInvoke_state]; exact hsteps⟩
theorem vx_callSX (X : Stand p l e R s m args below meth c T locs cells slots) (hexec : p.tables.exec = Jvm.exec) {own : String} {index : Nat} {y : MethodName} {bytes : ByteArray} {maxL : Nat} {ret : Option FieldType} {hh : List (Nat × Nat × Nat × Nat)}
    (hown : s.vm.findClass own = some m.cls) (hlink : (Cond.methodLink own index y).before args s = true) (hstat : (Cond.static y).before args s = true) (hinit : (Cond.initialized y.cls).before args s = true)
    (hcode : (Cond.codeWith y bytes maxL ret hh).before args s = true) (hy : y.cls ≠ "java/lang/invoke/MethodHandle" ∧ y.cls ≠ "java/lang/invoke/VarHandle")
    {W9 : Nat} {Pre : Pt → Array Value → Prop} {Post : Pt → Array Value → Option Value → Pt → Prop} {PostX : Pt → Array Value → Addr → Pt → Prop} (hK : vx_Back l R p e below s args y 3 W9 Pre Post PostX)
    {g : JFrame} (hg : g.method = m) (hsize : g.locals.size = c.maxLocals) {argsL rest : List Value} (hlen : ∀ sig, parseMethodDescriptor y.desc = some sig → argsL.length = sig.parameters.length)
    (hstack : g.stack = argsL.reverse ++ rest) (hW : 2 * g.monitorRoom + (rest.map fun v => v.category).sum ≤ W9) (hdg : decode c.code g.pc = .ok (.invokestatic index, 3))
    (hpre : ∀ vm₁, s.WarmedH vm₁ → Pre ⟨T.setVm vm₁, locs, cells, slots⟩ argsL.toArray) :
    (∃ (v : Option Value) (vm₁ : Vm) (B : Pt), s.WarmedH vm₁ ∧ Stand p l e R s m args below meth c B.U B.locs B.cells B.slots ∧ Post ⟨T.setVm vm₁, locs, cells, slots⟩ argsL.toArray v B ∧
      ∀ target, Steps p.tables e below (B.U.setTop { g with pc := g.pc + 3, stack := v.toList ++ rest }) target → Steps p.tables e below (T.setTop g) target) ∨
    (∃ (q : Addr) (vm₁ : Vm) (B : Pt), s.WarmedH vm₁ ∧ Stand p l e R s m args below meth c B.U B.locs B.cells B.slots ∧ PostX ⟨T.setVm vm₁, locs, cells, slots⟩ argsL.toArray q B ∧
      Steps p.tables e below (T.setTop g) ((B.U.setTop { g with stack := rest }).pushFrame (.throwing q))) := by
  obtain ⟨mk, methM, cM, hnamed, hmethM, -, -, -, -, -, -, hsigM⟩ := Cond.codeWith_spec hcode
  have hstatic : methM.isStatic = true := Cond.static_spec hnamed hmethM hstat
  obtain ⟨kP, hkP, -⟩ := className_of_methodNamed hnamed
  have hinitP : kP.init = .initialized := Cond.initialized_spec (findClass_of_methodNamed hnamed) hkP hinit
  obtain ⟨vm₁, X₁, hstep₁⟩ := X.invokestatic hexec hown hlink hnamed hmethM hstatic hkP hinitP hy (g := g) hg (argsL := argsL) (rest := rest) (hlen _ hsigM) hstack hdg
  rcases hK m meth c ⟨T.setVm vm₁, locs, cells, slots⟩ { g with stack := rest } (.invokestatic index) mk argsL.toArray X₁ hg hsize hdg hW (X₁.named hnamed) (hpre vm₁ X₁.warmed) with ⟨v, B, X', hpost, hsteps⟩ | ⟨q, B, X', hpost, hsteps⟩
  · exact Or.inl ⟨v, vm₁, B, X₁.warmed, X', hpost, fun target h => hstep₁ _ fun acts => by rw [doInvoke_state]; exact hsteps.trans h⟩
  · exact Or.inr ⟨q, vm₁, B, X₁.warmed, X', hpost, hstep₁ _ fun acts => by rw [doInvoke_state]; exact hsteps⟩
theorem vx_callVW (X : Stand p l e R s m args below meth c T locs cells slots) (hexec : p.tables.exec = Jvm.exec) {own C : String} {index : Nat} {y : MethodName} {bytes : ByteArray} {maxL : Nat} {ret : Option FieldType} {hh : List (Nat × Nat × Nat × Nat)}
    (hown : s.vm.findClass own = some m.cls) (hlink : (Cond.methodLink own index y).before args s = true) (hinst : (Cond.instanceMethod y).before args s = true) (hsel : (Cond.selects C y y).before args s = true)
    (hcode : (Cond.codeWith y bytes maxL ret hh).before args s = true) (hy : y.cls ≠ "java/lang/invoke/MethodHandle" ∧ y.cls ≠ "java/lang/invoke/VarHandle")
    {W9 : Nat} {Pre : Pt → Array Value → Prop} {Post : Pt → Array Value → Option Value → Pt → Prop} (hK : Back l R p e below s args y 3 W9 Pre Post)
    {b : Addr} {cellB : Cell} (hcell : T.heap[b]? = some cellB) (hobj : cellB.vm.isStatics = false) (hcls : s.vm.findClass C = some cellB.cls)
    {g : JFrame} (hg : g.method = m) (hsize : g.locals.size = c.maxLocals) {argsL rest : List Value} (hlen : ∀ sig, parseMethodDescriptor y.desc = some sig → argsL.length = sig.parameters.length)
    (hstack : g.stack = argsL.reverse ++ .ref b :: rest) (hW : 2 * g.monitorRoom + (rest.map fun v => v.category).sum ≤ W9) (hdg : decode c.code g.pc = .ok (.invokevirtual index, 3))
    (hpre : ∀ vm₁, s.WarmedH vm₁ → Pre ⟨T.setVm vm₁, locs, cells, slots⟩ (Value.ref b :: argsL).toArray) :
    ∃ (v : Option Value) (vm₁ : Vm) (B : Pt), s.WarmedH vm₁ ∧ Stand p l e R s m args below meth c B.U B.locs B.cells B.slots ∧ Post ⟨T.setVm vm₁, locs, cells, slots⟩ (Value.ref b :: argsL).toArray v B ∧
      ∀ target, Steps p.tables e below (B.U.setTop { g with pc := g.pc + 3, stack := v.toList ++ rest }) target → Steps p.tables e below (T.setTop g) target := by
  obtain ⟨mk, methM, hnamed, hmethM, hstM, habM⟩ := Cond.instanceMethod_spec hinst
  obtain ⟨m8, methM', cM, hn8, hmethM', -, -, -, -, -, -, hsigM⟩ := Cond.codeWith_spec hcode
  cases Option.some.inj (hn8.symm.trans hnamed)
  cases hmethM.symm.trans hmethM'
  obtain ⟨c2, r2, m2, q1, q2, q3, q4, kP, hkP, hkPi⟩ := Cond.selects_spec hsel
  cases hcls.symm.trans q1
  cases (State.methodFound?_of_named hnamed hy).symm.trans q2
  cases hnamed.symm.trans q3
  have hselP : selectMethod e.platform s.vm cellB.cls mk = .method mk := by rw [Launch.admits_selectMethod X.admits]; exact q4
  obtain ⟨vm₁, X₁, hstep₁⟩ := X.invokevirtual hexec hown hlink hnamed hmethM hstM hkP hkPi hy (a := b) (cell := cellB) hcell
    (fun z h => by rw [h] at hobj; cases hobj) hselP hmethM habM hkP hkPi (g := g) hg (argsL := argsL) (rest := rest) (hlen _ hsigM) hstack hdg
  obtain ⟨v, B, X', hpost, hsteps⟩ := hK m meth c ⟨T.setVm vm₁, locs, cells, slots⟩ { g with stack := rest } (.invokevirtual index) mk (Value.ref b :: argsL).toArray X₁ hg hsize hdg hW (X₁.named hnamed) (hpre vm₁ X₁.warmed)
  exact ⟨v, vm₁, B, X₁.warmed, X', hpost, fun target h => hstep₁ _ fun acts => by rw [doInvoke_state]; exact hsteps.trans h⟩
abbrev vx_CVW (R : Room) (s : State) (args : Array Value) (own C : String) (index : Nat) (y : MethodName) (bytes : ByteArray) (maxL : Nat) (ret : Option FieldType) (hh : List (Nat × Nat × Nat × Nat)) (ws : List Cond) (rm : Room) (mc ms n : Nat) : Prop :=
  (rm.cells = mc ∧ rm.slots = ms ∧ rm.frames + 1 ≤ R.frames ∧ 8 + (maxL + 11) + rm.locals ≤ R.locals ∧ (∀ w ∈ ws, ∀ (a' : Array Value) (U : State), s.WarmedH U.vm → w.before a' U = true) ∧ Cond.codeWith y bytes maxL ret hh ∈ ws) ∧
  (Cond.codeWith y bytes maxL ret hh).before args s = true ∧ (Cond.initialized y.cls).before args s = true ∧ (y.cls ≠ "java/lang/invoke/MethodHandle" ∧ y.cls ≠ "java/lang/invoke/VarHandle") ∧
  (∀ sig, parseMethodDescriptor y.desc = some sig → n = sig.parameters.length) ∧ (Cond.methodLink own index y).before args s = true ∧ (Cond.instanceMethod y).before args s = true ∧ (Cond.selects C y y).before args s = true
theorem vx_cwVW {own C : String} {index maxL mc ms : Nat} {y : MethodName} {bytes : ByteArray} {ret : Option FieldType} {hh : List (Nat × Nat × Nat × Nat)} {Ts ws ws' : List Cond} {rm : Room} (n : Nat) (ht : ∀ w ∈ Ts, w.before args s = true) (hT : GoodIn Ts (wsV own index C y ws)) (hw : ws = Cond.codeWith y bytes maxL ret hh :: ws') (hrc : rm.cells = mc) (hrs : rm.slots = ms)
    (hd : y.cls = C ∧ y.cls ≠ "java/lang/invoke/MethodHandle" ∧ y.cls ≠ "java/lang/invoke/VarHandle" ∧ (parseMethodDescriptor y.desc).map (fun d => d.parameters.length) = some n) (hR : rm.frames + 1 ≤ R.frames ∧ 8 + (maxL + 11) + rm.locals ≤ R.locals) :
    vx_CVW R s args own C index y bytes maxL ret hh ws rm mc ms n := by
  obtain ⟨hC, hd⟩ := hd
  subst hC
  have ok : ∀ w ∈ wsV own index y.cls y ws, w.before args s = true := fun w h => ht w (hT w h).1
  have hG : GoodIn Ts ws := fun w h => hT w (by unfold wsV; exact List.mem_append_right _ h)
  have hc : Cond.codeWith y bytes maxL ret hh ∈ ws := by rw [hw]; exact List.mem_cons_self
  refine ⟨⟨hrc, hrs, hR.1, hR.2, pay_in ht hG, hc⟩, ht _ (hG _ hc).1, ok _ (by simp [wsV]), ⟨hd.1, hd.2.1⟩, fun sig h => ?_, ok _ (by simp [wsV]), ok _ (by simp [wsV]), ok _ (by simp [wsV])⟩
  have h2 := hd.2.2
  rw [h] at h2
  exact (Option.some.inj h2).symm
theorem vx_runVW {y : MethodName} {bytes cc : ByteArray} {maxL nL mc ms n index : Nat} {ret : Option FieldType} {hh : List (Nat × Nat × Nat × Nat)} {ws : List Cond} {rm : Room} {Pc : Array Value → State → Prop} {Qc : Array Value → State → Outcome → State → Prop} {free : Addr → Prop} {Ts : List Cond} {own C : String} {b : Addr} {As rest : List Value} {g : JFrame}
    (S : CallFix p m c cc nL s args Ts own) (hM : Met l y ws rm Pc Qc mc ms free) (cw : vx_CVW R s args own C index y bytes maxL ret hh ws rm mc ms n) (hp : PreV s H C b Pc As)
    (hg : g.method = m) (hn : As.length = n) (hsize : g.locals.size = nL) (hstack : g.stack = As.reverse ++ .ref b :: rest) (hW : 2 * g.monitorRoom + (rest.map fun v => v.category).sum ≤ 8) (hdg : decode cc g.pc = .ok (.invokevirtual index, 3)) (hf : cells + mc ≤ R.cells ∧ slots + ms ≤ R.slots) :
    va_Run p l e R s m args below meth c H locs cells slots mc ms g rest (Qc (Value.ref b :: As).toArray) free := by
  obtain ⟨⟨hrc, hrs, hfr, hlo, hws, hcw⟩, hcode, hini, hy, hlen, hl, hin, hse⟩ := cw
  have hK : Back l R p e below s args y 3 8 (PreOf R mc ms Pc) (PostOf Qc mc ms free) := va_backW (hh := hh) (bytes := bytes) (maxL := maxL) (ret := ret) hM hp.1 hrc hrs hfr hlo hws hcw (fun a' U hW => word_at hW (Or.inl (by first | rfl | simp [Cond.onTables, Cond.keeps, Cond.steady])) hini)
  obtain ⟨hx, hb, hml, ho, -⟩ := S
  obtain ⟨-, ⟨cellB, hcB, hoB, hclB⟩, hPc⟩ := hp
  intro T hT X
  obtain ⟨v, vm₁, ⟨U', l2, c2, s2⟩, hW₁, X', ⟨g', mk, t, L, e1, e2, hq, h1, hL, h2, h3⟩, st⟩ := vx_callVW X hx (C := C) (hh := hh) (bytes := bytes) (maxL := maxL) (ret := ret) ho hl hin hse hcode hy hK (by rw [hT]; exact hcB) hoB hclB hg (hsize.trans hml.symm) (argsL := As) (rest := rest) (fun sig h => hn.trans (hlen sig h)) hstack hW (by rw [hb]; exact hdg)
    (fun vm₁ hW₁ => ⟨hf.1, hf.2, hPc (T.setVm vm₁) hT hW₁⟩)
  dsimp only [Pt.U, Pt.locs, Pt.cells, Pt.slots] at X' e1 e2 h1 h2 h3 st
  subst h1; subst h2; subst h3
  exact ⟨v, (T.setVm vm₁).calling g' mk (Value.ref b :: As).toArray, t, U', L, hT, X', hL, e1, e2, hq, st⟩
section
variable {y : MethodName} {bytes cc : ByteArray} {maxL nL mc ms n index : Nat} {ret : Option FieldType} {ws : List Cond} {rm : Room} {Pc : Array Value → State → Prop} {Qc : Array Value → State → Outcome → State → Prop} {XC : String → State → State → Prop} {free : Addr → Prop} {Ts : List Cond} {own C : String} {b : Addr} {As rest : List Value} {g : JFrame}
theorem vx_runVX {hh : List (Nat × Nat × Nat × Nat)} (S : CallFix p m c cc nL s args Ts own) (hM : vx_Met l y ws rm Pc Qc XC mc ms free) (cw : vx_CVW R s args own C index y bytes maxL ret hh ws rm mc ms n) (hp : PreV s H C b Pc As)
    (hg : g.method = m) (hn : As.length = n) (hsize : g.locals.size = nL) (hstack : g.stack = As.reverse ++ .ref b :: rest) (hW : 2 * g.monitorRoom + (rest.map fun v => v.category).sum ≤ 8) (hdg : decode cc g.pc = .ok (.invokevirtual index, 3)) (hf : cells + mc ≤ R.cells ∧ slots + ms ≤ R.slots) :
    vx_Run p l e R s m args below meth c H locs cells slots mc ms g rest (Qc (Value.ref b :: As).toArray) XC free := by
  obtain ⟨⟨hrc, hrs, hfr, hlo, hws, hcw⟩, hcode, hini, hy, hlen, hl, hin, hse⟩ := cw
  have hK : vx_Back l R p e below s args y 3 8 (PreOf R mc ms Pc) (PostOf Qc mc ms free) (vx_Post XC mc ms free) := vx_backW (hh := hh) (bytes := bytes) (maxL := maxL) (ret := ret) hM hp.1 hrc hrs hfr hlo hws hcw (fun a' U hW => word_at hW (Or.inl (by first | rfl | simp [Cond.onTables, Cond.keeps, Cond.steady])) hini)
  obtain ⟨hx, hb, hml, ho, -⟩ := S
  obtain ⟨-, ⟨cellB, hcB, hoB, hclB⟩, hPc⟩ := hp
  intro T hT X
  rcases vx_callVX X hx (C := C) (hh := hh) (bytes := bytes) (maxL := maxL) (ret := ret) ho hl hin hse hcode hy hK (by rw [hT]; exact hcB) hoB hclB hg (hsize.trans hml.symm) (argsL := As) (rest := rest) (fun sig h => hn.trans (hlen sig h)) hstack hW (by rw [hb]; exact hdg)
    (fun vm₁ hW₁ => ⟨hf.1, hf.2, hPc (T.setVm vm₁) hT hW₁⟩) with ⟨v, vm₁, ⟨U', l2, c2, s2⟩, hW₁, X', ⟨g', mk, t, L, e1, e2, hq, h1, hL, h2, h3⟩, st⟩ | ⟨q, vm₁, ⟨U', l2, c2, s2⟩, hW₁, X', ⟨g', mk, t, L, E, ce, e1, e2, hq, hce, hcv, hcl, h1, hL, h2, h3⟩, st⟩
  · dsimp only [Pt.U, Pt.locs, Pt.cells, Pt.slots] at X' e1 e2 h1 h2 h3 st
    subst h1; subst h2; subst h3
    exact Or.inl ⟨v, (T.setVm vm₁).calling g' mk (Value.ref b :: As).toArray, t, U', L, hT, X', hL, e1, e2, hq, st⟩
  · dsimp only [Pt.U, Pt.locs, Pt.cells, Pt.slots] at X' e1 e2 h1 h2 h3 st hcl
    subst h1; subst h2; subst h3
    exact Or.inr ⟨q, (T.setVm vm₁).calling g' mk (Value.ref b :: As).toArray, t, U', L, E, ce, hT, X', hL, e1, e2, hq, hce, hcv, vx_cls hW₁ hcl, st⟩
theorem vx_runSX {hh : List (Nat × Nat × Nat × Nat)} (S : CallFix p m c cc nL s args Ts own) (hM : vx_Met l y ws rm Pc Qc XC mc ms free) (cw : vx_CSW R s args own index y bytes maxL ret hh ws rm mc ms n) (hp : PreS s H Pc As)
    (hg : g.method = m) (hn : As.length = n) (hsize : g.locals.size = nL) (hstack : g.stack = As.reverse ++ rest) (hW : 2 * g.monitorRoom + (rest.map fun v => v.category).sum ≤ 8) (hdg : decode cc g.pc = .ok (.invokestatic index, 3)) (hf : cells + mc ≤ R.cells ∧ slots + ms ≤ R.slots) :
    vx_Run p l e R s m args below meth c H locs cells slots mc ms g rest (Qc As.toArray) XC free := by
  obtain ⟨⟨hrc, hrs, hfr, hlo, hws, hcw⟩, hcode, hini, hy, hlen, hl, hstt⟩ := cw
  have hK : vx_Back l R p e below s args y 3 8 (PreOf R mc ms Pc) (PostOf Qc mc ms free) (vx_Post XC mc ms free) := vx_backW (hh := hh) (bytes := bytes) (maxL := maxL) (ret := ret) hM hp.1 hrc hrs hfr hlo hws hcw (fun a' U hW => word_at hW (Or.inl (by first | rfl | simp [Cond.onTables, Cond.keeps, Cond.steady])) hini)
  obtain ⟨hx, hb, hml, ho, -⟩ := S
  intro T hT X
  rcases vx_callSX X hx (hh := hh) (bytes := bytes) (maxL := maxL) (ret := ret) ho hl hstt hini hcode hy hK hg (hsize.trans hml.symm) (argsL := As) (rest := rest) (fun sig h => hn.trans (hlen sig h)) hstack hW (by rw [hb]; exact hdg)
    (fun vm₁ hW₁ => ⟨hf.1, hf.2, hp.2 (T.setVm vm₁) hT hW₁⟩) with ⟨v, vm₁, ⟨U', l2, c2, s2⟩, hW₁, X', ⟨g', mk, t, L, e1, e2, hq, h1, hL, h2, h3⟩, st⟩ | ⟨q, vm₁, ⟨U', l2, c2, s2⟩, hW₁, X', ⟨g', mk, t, L, E, ce, e1, e2, hq, hce, hcv, hcl, h1, hL, h2, h3⟩, st⟩
  · dsimp only [Pt.U, Pt.locs, Pt.cells, Pt.slots] at X' e1 e2 h1 h2 h3 st
    subst h1; subst h2; subst h3
    exact Or.inl ⟨v, (T.setVm vm₁).calling g' mk As.toArray, t, U', L, hT, X', hL, e1, e2, hq, st⟩
  · dsimp only [Pt.U, Pt.locs, Pt.cells, Pt.slots] at X' e1 e2 h1 h2 h3 st hcl
    subst h1; subst h2; subst h3
    exact Or.inr ⟨q, (T.setVm vm₁).calling g' mk As.toArray, t, U', L, E, ce, hT, X', hL, e1, e2, hq, hce, hcv, vx_cls hW₁ hcl, st⟩
end
end VXH
theorem vx_ofWH {l : Launch} {y : MethodName} {ws ws' : List Cond} {rm : Room} {Pc : Array Value → State → Prop} {Qc : Array Value → State → Outcome → State → Prop} {XC : String → State → State → Prop} {mc ms : Nat} {free : Addr → Prop} {cc : ByteArray} {maxL : Nat} {ret : Option FieldType} {hh : List (Nat × Nat × Nat × Nat)}
    (hy : plainName y.cls = true) (hw : ws = Cond.codeWith y cc maxL ret hh :: ws')
    (body : ∀ p e s m args below meth c s₁, BodyLoose p l y (headSpec ws rm) cc maxL ret e s m args below meth c s₁ → c.maxLocals = maxL → Pc args s →
      W p l e (headSpec ws rm).room s m args below meth c s.heap [] 0 0 (vx_MQ below Qc XC args s mc ms free) (entryFrame m args maxL)) : vx_Met l y ws rm Pc Qc XC mc ms free := by
  refine MetFree.of_bodyS (code := cc) (maxLocals := maxL) (ret := ret) hy ?_ ?_
  · intro args s m h hn
    obtain ⟨m9, meth, c, hn9, h1, h2, h3, h4, -, h5, h6, -⟩ := Cond.codeWith_spec (atoms_spec (ws := ws) h _ (by rw [hw]; exact List.mem_cons_self))
    cases hn.symm.trans hn9
    exact ⟨meth, c, h1, h2, h3, h4, h5, h6⟩
  · intro p e s m args below meth c s₁ B hml hP _
    have hh0 : s₁.heap = s.heap := by rw [B.state]; rfl
    obtain ⟨t, a1, o, b1, b2, b3⟩ := body p e s m args below meth c s₁ B hml hP s₁ hh0 (Stand.of_body B)
    exact ⟨t, o, a1, b1, b2, b3⟩
/-! ===== END ===== -/
end
section
/-! ===== BEGIN printed: names, fields, word lists, decode rows ===== -/
def RX0 : String := "HammerEggs$Juggler"
def TX0 : u_T := fun k => match k with
  | 0 => ("HammerEggs$Juggler", "pattern", "LHammerEggs$Pattern;", true)
  | 1 => ("HammerEggs$Juggler", "hands", "[I", true)
  | 2 => ("HammerEggs$Juggler", "skill", "I", false)
  | 3 => ("HammerEggs$Juggler", "bruises", "I", false)
  | _ => ("HammerEggs$Juggler", "caught", "I", false)
def tyX0 : Nat → FieldType := fun k => match k with
  | 0 => .object "HammerEggs$Pattern"
  | 1 => .array .int
  | 2 => .int
  | 3 => .int
  | _ => .int
abbrev wsX00 : List Cond := u_ws RX0 TX0 5
theorem nmX0 : ∀ a, a < 5 → ∀ b, b < 5 → a ≠ b → (TX0 a).2.1 ≠ (TX0 b).2.1 := by decide +kernel
theorem tyX0_ok : ∀ k, k < 5 → parseFieldDescriptor (TX0 k).2.2.1 = some (tyX0 k) := by decide +kernel
abbrev cX0_init : ByteArray := prog_2_method_1_code
def yX0_init : MethodName := ⟨RX0, "<init>", "()V"⟩
abbrev cX0_copyFrom : ByteArray := prog_2_method_2_code
def yX0_copyFrom : MethodName := ⟨RX0, "copyFrom", "(LHammerEggs$Juggler;)V"⟩
abbrev cX0_canCatch : ByteArray := prog_2_method_3_code
def yX0_canCatch : MethodName := ⟨RX0, "canCatch", "(II)Z"⟩
abbrev cX0_miss : ByteArray := prog_2_method_4_code
def yX0_miss : MethodName := ⟨RX0, "miss", "(LHammerEggs$Thing;)V"⟩
abbrev cX0_thingsHeld : ByteArray := prog_2_method_5_code
def yX0_thingsHeld : MethodName := ⟨RX0, "thingsHeld", "()I"⟩
def RX1 : String := "HammerEggs$Pattern"
def TX1 : u_T := fun k => match k with
  | 0 => ("HammerEggs$Pattern", "heights", "[I", true)
  | 1 => ("HammerEggs$Pattern", "receivers", "[I", true)
  | _ => ("HammerEggs$Pattern", "length", "I", false)
def tyX1 : Nat → FieldType := fun k => match k with
  | 0 => .array .int
  | 1 => .array .int
  | _ => .int
abbrev wsX10 : List Cond := u_ws RX1 TX1 3
theorem nmX1 : ∀ a, a < 3 → ∀ b, b < 3 → a ≠ b → (TX1 a).2.1 ≠ (TX1 b).2.1 := by decide +kernel
theorem tyX1_ok : ∀ k, k < 3 → parseFieldDescriptor (TX1 k).2.2.1 = some (tyX1 k) := by decide +kernel
abbrev cX1_init : ByteArray := prog_3_method_1_code
def yX1_init : MethodName := ⟨RX1, "<init>", "()V"⟩
abbrev cX1_write : ByteArray := prog_3_method_2_code
def yX1_write : MethodName := ⟨RX1, "write", "(III)V"⟩
abbrev cX1_copyFrom : ByteArray := prog_3_method_3_code
def yX1_copyFrom : MethodName := ⟨RX1, "copyFrom", "(LHammerEggs$Pattern;)V"⟩
abbrev cX1_placeIn : ByteArray := prog_3_method_4_code
def yX1_placeIn : MethodName := ⟨RX1, "placeIn", "(I)I"⟩
abbrev cX1_landsApart : ByteArray := prog_3_method_5_code
def yX1_landsApart : MethodName := ⟨RX1, "landsApart", "()Z"⟩
abbrev cX1_ballsAsked : ByteArray := prog_3_method_6_code
def yX1_ballsAsked : MethodName := ⟨RX1, "ballsAsked", "()I"⟩
abbrev cX1_shortestLength : ByteArray := prog_3_method_7_code
def yX1_shortestLength : MethodName := ⟨RX1, "shortestLength", "()I"⟩
abbrev cX1_repeatsAfter : ByteArray := prog_3_method_8_code
def yX1_repeatsAfter : MethodName := ⟨RX1, "repeatsAfter", "(I)Z"⟩
abbrev cX1_addTo : ByteArray := prog_3_method_9_code
def yX1_addTo : MethodName := ⟨RX1, "addTo", "(J)J"⟩
def RX2 : String := "HammerEggs$Ring"
def TX2 : u_T := fun k => match k with
  | 0 => ("HammerEggs$Ring", "jugglers", "[LHammerEggs$Juggler;", true)
  | 1 => ("HammerEggs$Ring", "things", "[LHammerEggs$Thing;", true)
  | 2 => ("HammerEggs$Ring", "jugglerCount", "I", false)
  | 3 => ("HammerEggs$Ring", "thingCount", "I", false)
  | _ => ("HammerEggs$Ring", "beat", "I", false)
def tyX2 : Nat → FieldType := fun k => match k with
  | 0 => .array (.object "HammerEggs$Juggler")
  | 1 => .array (.object "HammerEggs$Thing")
  | 2 => .int
  | 3 => .int
  | _ => .int
abbrev wsX20 : List Cond := u_ws RX2 TX2 5
theorem nmX2 : ∀ a, a < 5 → ∀ b, b < 5 → a ≠ b → (TX2 a).2.1 ≠ (TX2 b).2.1 := by decide +kernel
theorem tyX2_ok : ∀ k, k < 5 → parseFieldDescriptor (TX2 k).2.2.1 = some (tyX2 k) := by decide +kernel
abbrev cX2_init : ByteArray := prog_4_method_1_code
def yX2_init : MethodName := ⟨RX2, "<init>", "()V"⟩
abbrev cX2_copyFrom : ByteArray := prog_4_method_2_code
def yX2_copyFrom : MethodName := ⟨RX2, "copyFrom", "(LHammerEggs$Ring;)V"⟩
abbrev cX2_hasJuggler : ByteArray := prog_4_method_3_code
def yX2_hasJuggler : MethodName := ⟨RX2, "hasJuggler", "(I)Z"⟩
abbrev cX2_hasThing : ByteArray := prog_4_method_4_code
def yX2_hasThing : MethodName := ⟨RX2, "hasThing", "(I)Z"⟩
abbrev cX2_addJuggler : ByteArray := prog_4_method_5_code
def yX2_addJuggler : MethodName := ⟨RX2, "addJuggler", "(I)I"⟩
abbrev cX2_addThing : ByteArray := prog_4_method_6_code
def yX2_addThing : MethodName := ⟨RX2, "addThing", "(I)I"⟩
abbrev cX2_putIntoHand : ByteArray := prog_4_method_7_code
def yX2_putIntoHand : MethodName := ⟨RX2, "putIntoHand", "(III)V"⟩
abbrev cX2_play : ByteArray := prog_4_method_8_code
def yX2_play : MethodName := ⟨RX2, "play", "(I)I"⟩
abbrev cX2_playBeat : ByteArray := prog_4_method_9_code
def yX2_playBeat : MethodName := ⟨RX2, "playBeat", "()I"⟩
abbrev cX2_comeDown : ByteArray := prog_4_method_10_code
def yX2_comeDown : MethodName := ⟨RX2, "comeDown", "(I)I"⟩
abbrev cX2_throwFrom : ByteArray := prog_4_method_11_code
def yX2_throwFrom : MethodName := ⟨RX2, "throwFrom", "(LHammerEggs$Juggler;I)V"⟩
abbrev cX2_thingsIn : ByteArray := prog_4_method_12_code
def yX2_thingsIn : MethodName := ⟨RX2, "thingsIn", "(I)I"⟩
abbrev cX2_thingsFlyingTo : ByteArray := prog_4_method_13_code
def yX2_thingsFlyingTo : MethodName := ⟨RX2, "thingsFlyingTo", "(I)I"⟩
abbrev cX2_allThrown : ByteArray := prog_4_method_14_code
def yX2_allThrown : MethodName := ⟨RX2, "allThrown", "()I"⟩
abbrev cX2_allFell : ByteArray := prog_4_method_15_code
def yX2_allFell : MethodName := ⟨RX2, "allFell", "()I"⟩
abbrev cX2_allBruises : ByteArray := prog_4_method_16_code
def yX2_allBruises : MethodName := ⟨RX2, "allBruises", "()I"⟩
abbrev cX2_tellThing : ByteArray := prog_4_method_17_code
def yX2_tellThing : MethodName := ⟨RX2, "tellThing", "(II)I"⟩
abbrev cX2_tellJuggler : ByteArray := prog_4_method_18_code
def yX2_tellJuggler : MethodName := ⟨RX2, "tellJuggler", "(II)I"⟩
abbrev cX2_tellCount : ByteArray := prog_4_method_19_code
def yX2_tellCount : MethodName := ⟨RX2, "tellCount", "(I)I"⟩
def RX3 : String := "HammerEggs$Thing"
def TX3 : u_T := fun k => match k with
  | 0 => ("HammerEggs$Thing", "kind", "I", false)
  | 1 => ("HammerEggs$Thing", "state", "I", false)
  | 2 => ("HammerEggs$Thing", "juggler", "I", false)
  | 3 => ("HammerEggs$Thing", "hand", "I", false)
  | 4 => ("HammerEggs$Thing", "due", "I", false)
  | 5 => ("HammerEggs$Thing", "height", "I", false)
  | 6 => ("HammerEggs$Thing", "thrown", "I", false)
  | _ => ("HammerEggs$Thing", "fell", "I", false)
def tyX3 : Nat → FieldType := fun k => match k with
  | 0 => .int
  | 1 => .int
  | 2 => .int
  | 3 => .int
  | 4 => .int
  | 5 => .int
  | 6 => .int
  | _ => .int
abbrev wsX30 : List Cond := u_ws RX3 TX3 8
theorem nmX3 : ∀ a, a < 8 → ∀ b, b < 8 → a ≠ b → (TX3 a).2.1 ≠ (TX3 b).2.1 := by decide +kernel
theorem tyX3_ok : ∀ k, k < 8 → parseFieldDescriptor (TX3 k).2.2.1 = some (tyX3 k) := by decide +kernel
abbrev cX3_init : ByteArray := prog_5_method_1_code
def yX3_init : MethodName := ⟨RX3, "<init>", "()V"⟩
abbrev cX3_copyFrom : ByteArray := prog_5_method_2_code
def yX3_copyFrom : MethodName := ⟨RX3, "copyFrom", "(LHammerEggs$Thing;)V"⟩
abbrev cX3_comesDownIn : ByteArray := prog_5_method_3_code
def yX3_comesDownIn : MethodName := ⟨RX3, "comesDownIn", "(I)Z"⟩
abbrev cX3_beatsInAir : ByteArray := prog_5_method_4_code
def yX3_beatsInAir : MethodName := ⟨RX3, "beatsInAir", "(I)I"⟩
abbrev cX3_fly : ByteArray := prog_5_method_5_code
def yX3_fly : MethodName := ⟨RX3, "fly", "(III)V"⟩
abbrev cX3_fall : ByteArray := prog_5_method_6_code
def yX3_fall : MethodName := ⟨RX3, "fall", "()V"⟩
def RX4 : String := "HammerEggs"
def TX4 : u_T := fun k => match k with
  | 0 => ("HammerEggs", "now", "LHammerEggs$Ring;", true)
  | _ => ("HammerEggs", "trial", "LHammerEggs$Ring;", true)
def tyX4 : Nat → FieldType := fun k => match k with
  | 0 => .object "HammerEggs$Ring"
  | _ => .object "HammerEggs$Ring"
abbrev wsX40 : List Cond := u_ws RX4 TX4 2
theorem nmX4 : ∀ a, a < 2 → ∀ b, b < 2 → a ≠ b → (TX4 a).2.1 ≠ (TX4 b).2.1 := by decide +kernel
theorem tyX4_ok : ∀ k, k < 2 → parseFieldDescriptor (TX4 k).2.2.1 = some (tyX4 k) := by decide +kernel
abbrev cX4_init : ByteArray := prog_1_method_1_code
def yX4_init : MethodName := ⟨RX4, "<init>", "()V"⟩
abbrev cX4_come : ByteArray := prog_1_method_2_code
def yX4_come : MethodName := ⟨RX4, "come", "(I)I"⟩
abbrev cX4_setPattern : ByteArray := prog_1_method_3_code
def yX4_setPattern : MethodName := ⟨RX4, "setPattern", "(III)I"⟩
abbrev cX4_pass : ByteArray := prog_1_method_4_code
def yX4_pass : MethodName := ⟨RX4, "pass", "(III)I"⟩
abbrev cX4_written : ByteArray := prog_1_method_5_code
def yX4_written : MethodName := ⟨RX4, "written", "(III)I"⟩
abbrev cX4_make : ByteArray := prog_1_method_6_code
def yX4_make : MethodName := ⟨RX4, "make", "(I)I"⟩
abbrev cX4_give : ByteArray := prog_1_method_7_code
def yX4_give : MethodName := ⟨RX4, "give", "(III)I"⟩
abbrev cX4_thing : ByteArray := prog_1_method_8_code
def yX4_thing : MethodName := ⟨RX4, "thing", "(II)I"⟩
abbrev cX4_juggler : ByteArray := prog_1_method_9_code
def yX4_juggler : MethodName := ⟨RX4, "juggler", "(II)I"⟩
abbrev cX4_lasts : ByteArray := prog_1_method_10_code
def yX4_lasts : MethodName := ⟨RX4, "lasts", "(I)Z"⟩
abbrev cX4_asks : ByteArray := prog_1_method_11_code
def yX4_asks : MethodName := ⟨RX4, "asks", "(I)I"⟩
abbrev cX4_shortest : ByteArray := prog_1_method_12_code
def yX4_shortest : MethodName := ⟨RX4, "shortest", "(I)I"⟩
abbrev cX4_go : ByteArray := prog_1_method_13_code
def yX4_go : MethodName := ⟨RX4, "go", "(I)I"⟩
abbrev cX4_count : ByteArray := prog_1_method_14_code
def yX4_count : MethodName := ⟨RX4, "count", "(I)I"⟩
abbrev cX4_falls : ByteArray := prog_1_method_15_code
def yX4_falls : MethodName := ⟨RX4, "falls", "()I"⟩
abbrev cX4_foresee : ByteArray := prog_1_method_16_code
def yX4_foresee : MethodName := ⟨RX4, "foresee", "(II)I"⟩
abbrev cX4_advise : ByteArray := prog_1_method_17_code
def yX4_advise : MethodName := ⟨RX4, "advise", "(II)I"⟩
abbrev cX4_mean : ByteArray := prog_1_method_18_code
def yX4_mean : MethodName := ⟨RX4, "mean", "()D"⟩
abbrev cX4_digest : ByteArray := prog_1_method_19_code
def yX4_digest : MethodName := ⟨RX4, "digest", "()J"⟩
abbrev cX4_fallenWith : ByteArray := prog_1_method_20_code
def yX4_fallenWith : MethodName := ⟨RX4, "fallenWith", "(IIII)I"⟩
abbrev cX4_testJuggler : ByteArray := prog_1_method_21_code
def yX4_testJuggler : MethodName := ⟨RX4, "testJuggler", "(I)V"⟩
abbrev cX4_testPlace : ByteArray := prog_1_method_22_code
def yX4_testPlace : MethodName := ⟨RX4, "testPlace", "(II)V"⟩
abbrev cX4_testThing : ByteArray := prog_1_method_23_code
def yX4_testThing : MethodName := ⟨RX4, "testThing", "(I)V"⟩
abbrev cX4_testWhat : ByteArray := prog_1_method_24_code
def yX4_testWhat : MethodName := ⟨RX4, "testWhat", "(II)V"⟩
abbrev cX4_testBeats : ByteArray := prog_1_method_25_code
def yX4_testBeats : MethodName := ⟨RX4, "testBeats", "(II)V"⟩
abbrev cX4_powerOfTen : ByteArray := prog_1_method_26_code
def yX4_powerOfTen : MethodName := ⟨RX4, "powerOfTen", "(I)I"⟩
def RX5 : String := "HammerEggsModel$State"
def TX5 : u_T := fun k => match k with
  | 0 => ("HammerEggsModel$State", "beat", "I", false)
  | 1 => ("HammerEggsModel$State", "bruises", "[I", true)
  | 2 => ("HammerEggsModel$State", "caught", "[I", true)
  | 3 => ("HammerEggsModel$State", "held", "[I", true)
  | 4 => ("HammerEggsModel$State", "where", "[I", true)
  | 5 => ("HammerEggsModel$State", "whose", "[I", true)
  | 6 => ("HammerEggsModel$State", "down", "[I", true)
  | 7 => ("HammerEggsModel$State", "high", "[I", true)
  | 8 => ("HammerEggsModel$State", "throwsOf", "[I", true)
  | 9 => ("HammerEggsModel$State", "fallsOf", "[I", true)
  | _ => ("HammerEggsModel$State", "this$0", "LHammerEggsModel;", true)
def tyX5 : Nat → FieldType := fun k => match k with
  | 0 => .int
  | 1 => .array .int
  | 2 => .array .int
  | 3 => .array .int
  | 4 => .array .int
  | 5 => .array .int
  | 6 => .array .int
  | 7 => .array .int
  | 8 => .array .int
  | 9 => .array .int
  | _ => .object "HammerEggsModel"
abbrev wsX50 : List Cond := u_ws RX5 TX5 11
theorem nmX5 : ∀ a, a < 11 → ∀ b, b < 11 → a ≠ b → (TX5 a).2.1 ≠ (TX5 b).2.1 := by decide +kernel
theorem tyX5_ok : ∀ k, k < 11 → parseFieldDescriptor (TX5 k).2.2.1 = some (tyX5 k) := by decide +kernel
abbrev cX5_init : ByteArray := prog_8_method_1_code
def yX5_init : MethodName := ⟨RX5, "<init>", "(LHammerEggsModel;)V"⟩
abbrev cX5_copy : ByteArray := prog_8_method_2_code
def yX5_copy : MethodName := ⟨RX5, "copy", "([I[I)V"⟩
abbrev cX5_become : ByteArray := prog_8_method_3_code
def yX5_become : MethodName := ⟨RX5, "become", "(LHammerEggsModel$State;)V"⟩
abbrev cX5_comeDown : ByteArray := prog_8_method_4_code
def yX5_comeDown : MethodName := ⟨RX5, "comeDown", "(I)V"⟩
abbrev cX5_throwFrom : ByteArray := prog_8_method_5_code
def yX5_throwFrom : MethodName := ⟨RX5, "throwFrom", "(I)V"⟩
abbrev cX5_go : ByteArray := prog_8_method_6_code
def yX5_go : MethodName := ⟨RX5, "go", "()V"⟩
abbrev cX5_are : ByteArray := prog_8_method_7_code
def yX5_are : MethodName := ⟨RX5, "are", "(I)I"⟩
abbrev cX5_sum : ByteArray := prog_8_method_8_code
def yX5_sum : MethodName := ⟨RX5, "sum", "([I)I"⟩
abbrev cX5_handOf : ByteArray := prog_8_method_9_code
def yX5_handOf : MethodName := ⟨RX5, "handOf", "(I)I"⟩
def RX6 : String := "HammerEggsModel"
def TX6 : u_T := fun k => match k with
  | 0 => ("HammerEggsModel", "thrown", "I", false)
  | 1 => ("HammerEggsModel", "jugglers", "I", false)
  | 2 => ("HammerEggsModel", "things", "I", false)
  | 3 => ("HammerEggsModel", "skill", "[I", true)
  | 4 => ("HammerEggsModel", "length", "[I", true)
  | 5 => ("HammerEggsModel", "height", "[I", true)
  | 6 => ("HammerEggsModel", "to", "[I", true)
  | 7 => ("HammerEggsModel", "kind", "[I", true)
  | 8 => ("HammerEggsModel", "s", "LHammerEggsModel$State;", true)
  | _ => ("HammerEggsModel", "ahead", "LHammerEggsModel$State;", true)
def tyX6 : Nat → FieldType := fun k => match k with
  | 0 => .int
  | 1 => .int
  | 2 => .int
  | 3 => .array .int
  | 4 => .array .int
  | 5 => .array .int
  | 6 => .array .int
  | 7 => .array .int
  | 8 => .object "HammerEggsModel$State"
  | _ => .object "HammerEggsModel$State"
abbrev wsX60 : List Cond := u_ws RX6 TX6 10
theorem nmX6 : ∀ a, a < 10 → ∀ b, b < 10 → a ≠ b → (TX6 a).2.1 ≠ (TX6 b).2.1 := by decide +kernel
theorem tyX6_ok : ∀ k, k < 10 → parseFieldDescriptor (TX6 k).2.2.1 = some (tyX6 k) := by decide +kernel
abbrev cX6_init : ByteArray := prog_7_method_1_code
def yX6_init : MethodName := ⟨RX6, "<init>", "()V"⟩
abbrev cX6_thrown : ByteArray := prog_7_method_2_code
def yX6_thrown : MethodName := ⟨RX6, "thrown", "()I"⟩
abbrev cX6_no : ByteArray := prog_7_method_3_code
def yX6_no : MethodName := ⟨RX6, "no", "(I)I"⟩
abbrev cX6_isIn : ByteArray := prog_7_method_4_code
def yX6_isIn : MethodName := ⟨RX6, "isIn", "(III)Z"⟩
abbrev cX6_isJuggler : ByteArray := prog_7_method_5_code
def yX6_isJuggler : MethodName := ⟨RX6, "isJuggler", "(I)Z"⟩
abbrev cX6_isThing : ByteArray := prog_7_method_6_code
def yX6_isThing : MethodName := ⟨RX6, "isThing", "(I)Z"⟩
abbrev cX6_isPlace : ByteArray := prog_7_method_7_code
def yX6_isPlace : MethodName := ⟨RX6, "isPlace", "(II)Z"⟩
abbrev cX6_beatsOf : ByteArray := prog_7_method_8_code
def yX6_beatsOf : MethodName := ⟨RX6, "beatsOf", "(II)I"⟩
abbrev cX6_come : ByteArray := prog_7_method_9_code
def yX6_come : MethodName := ⟨RX6, "come", "(I)I"⟩
abbrev cX6_setPattern : ByteArray := prog_7_method_10_code
def yX6_setPattern : MethodName := ⟨RX6, "setPattern", "(III)I"⟩
abbrev cX6_pass : ByteArray := prog_7_method_11_code
def yX6_pass : MethodName := ⟨RX6, "pass", "(III)I"⟩
abbrev cX6_written : ByteArray := prog_7_method_12_code
def yX6_written : MethodName := ⟨RX6, "written", "(III)I"⟩
abbrev cX6_make : ByteArray := prog_7_method_13_code
def yX6_make : MethodName := ⟨RX6, "make", "(I)I"⟩
abbrev cX6_holds : ByteArray := prog_7_method_14_code
def yX6_holds : MethodName := ⟨RX6, "holds", "(I)I"⟩
abbrev cX6_give : ByteArray := prog_7_method_15_code
def yX6_give : MethodName := ⟨RX6, "give", "(III)I"⟩
abbrev cX6_thingTold : ByteArray := prog_7_method_16_code
def yX6_thingTold : MethodName := ⟨RX6, "thingTold", "(II)I"⟩
abbrev cX6_thing : ByteArray := prog_7_method_17_code
def yX6_thing : MethodName := ⟨RX6, "thing", "(II)I"⟩
abbrev cX6_jugglerTold : ByteArray := prog_7_method_18_code
def yX6_jugglerTold : MethodName := ⟨RX6, "jugglerTold", "(II)I"⟩
abbrev cX6_juggler : ByteArray := prog_7_method_19_code
def yX6_juggler : MethodName := ⟨RX6, "juggler", "(II)I"⟩
abbrev cX6_lasts : ByteArray := prog_7_method_20_code
def yX6_lasts : MethodName := ⟨RX6, "lasts", "(I)Z"⟩
abbrev cX6_asks : ByteArray := prog_7_method_21_code
def yX6_asks : MethodName := ⟨RX6, "asks", "(I)I"⟩
abbrev cX6_shortest : ByteArray := prog_7_method_22_code
def yX6_shortest : MethodName := ⟨RX6, "shortest", "(I)I"⟩
abbrev cX6_isWritten : ByteArray := prog_7_method_23_code
def yX6_isWritten : MethodName := ⟨RX6, "isWritten", "(II)Z"⟩
abbrev cX6_go : ByteArray := prog_7_method_24_code
def yX6_go : MethodName := ⟨RX6, "go", "(I)I"⟩
abbrev cX6_counted : ByteArray := prog_7_method_25_code
def yX6_counted : MethodName := ⟨RX6, "counted", "(I)I"⟩
abbrev cX6_count : ByteArray := prog_7_method_26_code
def yX6_count : MethodName := ⟨RX6, "count", "(I)I"⟩
abbrev cX6_falls : ByteArray := prog_7_method_27_code
def yX6_falls : MethodName := ⟨RX6, "falls", "()I"⟩
abbrev cX6_fallsIn : ByteArray := prog_7_method_28_code
def yX6_fallsIn : MethodName := ⟨RX6, "fallsIn", "(I)I"⟩
abbrev cX6_foresee : ByteArray := prog_7_method_29_code
def yX6_foresee : MethodName := ⟨RX6, "foresee", "(II)I"⟩
abbrev cX6_advise : ByteArray := prog_7_method_30_code
def yX6_advise : MethodName := ⟨RX6, "advise", "(II)I"⟩
abbrev cX6_mean : ByteArray := prog_7_method_31_code
def yX6_mean : MethodName := ⟨RX6, "mean", "()D"⟩
abbrev cX6_digest : ByteArray := prog_7_method_32_code
def yX6_digest : MethodName := ⟨RX6, "digest", "()J"⟩
def RJ9 : String := "java/lang/Math"
def TJ9 : u_T := fun k => match k with
  | _ => ("", "", "", false)
def tyJ9 : Nat → FieldType := fun k => match k with
  | _ => .int
abbrev wsJ90 : List Cond := u_ws RJ9 TJ9 0
theorem nmJ9 : ∀ a, a < 0 → ∀ b, b < 0 → a ≠ b → (TJ9 a).2.1 ≠ (TJ9 b).2.1 := by decide +kernel
theorem tyJ9_ok : ∀ k, k < 0 → parseFieldDescriptor (TJ9 k).2.2.1 = some (tyJ9 k) := by decide +kernel
abbrev cJ9_floorMod_7cf53 : ByteArray := prog_13_method_50_code
def yJ9_floorMod_7cf53 : MethodName := ⟨RJ9, "floorMod", "(II)I"⟩
def RJ0 : String := "java/lang/String"
def TJ0 : u_T := fun k => match k with
  | _ => ("", "", "", false)
def tyJ0 : Nat → FieldType := fun k => match k with
  | _ => .int
abbrev wsJ00 : List Cond := u_ws RJ0 TJ0 0
theorem nmJ0 : ∀ a, a < 0 → ∀ b, b < 0 → a ≠ b → (TJ0 a).2.1 ≠ (TJ0 b).2.1 := by decide +kernel
theorem tyJ0_ok : ∀ k, k < 0 → parseFieldDescriptor (TJ0 k).2.2.1 = some (tyJ0 k) := by decide +kernel
def RJ10 : String := "java/lang/System"
def TJ10 : u_T := fun k => match k with
  | _ => ("", "", "", false)
def tyJ10 : Nat → FieldType := fun k => match k with
  | _ => .int
abbrev wsJ100 : List Cond := u_ws RJ10 TJ10 0
theorem nmJ10 : ∀ a, a < 0 → ∀ b, b < 0 → a ≠ b → (TJ10 a).2.1 ≠ (TJ10 b).2.1 := by decide +kernel
theorem tyJ10_ok : ∀ k, k < 0 → parseFieldDescriptor (TJ10 k).2.2.1 = some (tyJ10 k) := by decide +kernel
def RL : String := "HammerEggsLaw"
abbrev cL_come : ByteArray := method_3_code
def yL_come : MethodName := ⟨RL, "come", "(LHammerEggs;I[J)I"⟩
abbrev cL_setPattern : ByteArray := method_4_code
def yL_setPattern : MethodName := ⟨RL, "setPattern", "(LHammerEggs;III[J)I"⟩
abbrev cL_pass : ByteArray := method_5_code
def yL_pass : MethodName := ⟨RL, "pass", "(LHammerEggs;III[J)I"⟩
abbrev cL_written : ByteArray := method_6_code
def yL_written : MethodName := ⟨RL, "written", "(LHammerEggs;III[J)I"⟩
abbrev cL_make : ByteArray := method_7_code
def yL_make : MethodName := ⟨RL, "make", "(LHammerEggs;I[J)I"⟩
abbrev cL_give : ByteArray := method_8_code
def yL_give : MethodName := ⟨RL, "give", "(LHammerEggs;III[J)I"⟩
abbrev cL_thing : ByteArray := method_9_code
def yL_thing : MethodName := ⟨RL, "thing", "(LHammerEggs;II[J)I"⟩
abbrev cL_juggler : ByteArray := method_10_code
def yL_juggler : MethodName := ⟨RL, "juggler", "(LHammerEggs;II[J)I"⟩
abbrev cL_lasts : ByteArray := method_11_code
def yL_lasts : MethodName := ⟨RL, "lasts", "(LHammerEggs;I[J)I"⟩
abbrev cL_asks : ByteArray := method_12_code
def yL_asks : MethodName := ⟨RL, "asks", "(LHammerEggs;I[J)I"⟩
abbrev cL_shortest : ByteArray := method_13_code
def yL_shortest : MethodName := ⟨RL, "shortest", "(LHammerEggs;I[J)I"⟩
abbrev cL_go : ByteArray := method_14_code
def yL_go : MethodName := ⟨RL, "go", "(LHammerEggs;I[J)I"⟩
abbrev cL_count : ByteArray := method_15_code
def yL_count : MethodName := ⟨RL, "count", "(LHammerEggs;I[J)I"⟩
abbrev cL_foresee : ByteArray := method_16_code
def yL_foresee : MethodName := ⟨RL, "foresee", "(LHammerEggs;II[J)I"⟩
abbrev cL_advise : ByteArray := method_17_code
def yL_advise : MethodName := ⟨RL, "advise", "(LHammerEggs;II[J)I"⟩
abbrev cL_law : ByteArray := code
def yL_law : MethodName := ⟨RL, "law", "([I)Z"⟩
abbrev vwCl : List vw_C := [(RX0, TX0, 5), (RX1, TX1, 3), (RX2, TX2, 5), (RX3, TX3, 8), (RX4, TX4, 2), (RX5, TX5, 11), (RX6, TX6, 10)]
end
section
theorem dX0_init_0 : decode cX0_init 0 = .ok (.aload_n 0, 1) := by decide +kernel
theorem dX0_init_1 : decode cX0_init 1 = .ok (.invokespecial 3, 3) := by decide +kernel
theorem dX0_init_4 : decode cX0_init 4 = .ok (.aload_n 0, 1) := by decide +kernel
theorem dX0_init_5 : decode cX0_init 5 = .ok (.new 9, 3) := by decide +kernel
theorem dX0_init_8 : decode cX0_init 8 = .ok (.dup, 1) := by decide +kernel
theorem dX0_init_9 : decode cX0_init 9 = .ok (.invokespecial 11, 3) := by decide +kernel
theorem dX0_init_12 : decode cX0_init 12 = .ok (.putfield 12, 3) := by decide +kernel
theorem dX0_init_15 : decode cX0_init 15 = .ok (.aload_n 0, 1) := by decide +kernel
theorem dX0_init_16 : decode cX0_init 16 = .ok (.iconst 2, 1) := by decide +kernel
theorem dX0_init_17 : decode cX0_init 17 = .ok (.newarray .int, 2) := by decide +kernel
theorem dX0_init_19 : decode cX0_init 19 = .ok (.dup, 1) := by decide +kernel
theorem dX0_init_20 : decode cX0_init 20 = .ok (.iconst 0, 1) := by decide +kernel
theorem dX0_init_21 : decode cX0_init 21 = .ok (.iconst (-1), 1) := by decide +kernel
theorem dX0_init_22 : decode cX0_init 22 = .ok (.iastore, 1) := by decide +kernel
theorem dX0_init_23 : decode cX0_init 23 = .ok (.dup, 1) := by decide +kernel
theorem dX0_init_24 : decode cX0_init 24 = .ok (.iconst 1, 1) := by decide +kernel
theorem dX0_init_25 : decode cX0_init 25 = .ok (.iconst (-1), 1) := by decide +kernel
theorem dX0_init_26 : decode cX0_init 26 = .ok (.iastore, 1) := by decide +kernel
theorem dX0_init_27 : decode cX0_init 27 = .ok (.putfield 18, 3) := by decide +kernel
theorem dX0_init_30 : decode cX0_init 30 = .ok (.return_, 1) := by decide +kernel
theorem dX0_copyFrom_0 : decode cX0_copyFrom 0 = .ok (.aload_n 0, 1) := by decide +kernel
theorem dX0_copyFrom_1 : decode cX0_copyFrom 1 = .ok (.getfield 12, 3) := by decide +kernel
theorem dX0_copyFrom_4 : decode cX0_copyFrom 4 = .ok (.aload_n 1, 1) := by decide +kernel
theorem dX0_copyFrom_5 : decode cX0_copyFrom 5 = .ok (.getfield 12, 3) := by decide +kernel
theorem dX0_copyFrom_8 : decode cX0_copyFrom 8 = .ok (.invokevirtual 22, 3) := by decide +kernel
theorem dX0_copyFrom_11 : decode cX0_copyFrom 11 = .ok (.iconst 0, 1) := by decide +kernel
theorem dX0_copyFrom_12 : decode cX0_copyFrom 12 = .ok (.istore_n 2, 1) := by decide +kernel
theorem dX0_copyFrom_13 : decode cX0_copyFrom 13 = .ok (.iload_n 2, 1) := by decide +kernel
theorem dX0_copyFrom_14 : decode cX0_copyFrom 14 = .ok (.iconst 2, 1) := by decide +kernel
theorem dX0_copyFrom_15 : decode cX0_copyFrom 15 = .ok (.if_icmp .ge 21, 3) := by decide +kernel
theorem dX0_copyFrom_18 : decode cX0_copyFrom 18 = .ok (.aload_n 0, 1) := by decide +kernel
theorem dX0_copyFrom_19 : decode cX0_copyFrom 19 = .ok (.getfield 18, 3) := by decide +kernel
theorem dX0_copyFrom_22 : decode cX0_copyFrom 22 = .ok (.iload_n 2, 1) := by decide +kernel
theorem dX0_copyFrom_23 : decode cX0_copyFrom 23 = .ok (.aload_n 1, 1) := by decide +kernel
theorem dX0_copyFrom_24 : decode cX0_copyFrom 24 = .ok (.getfield 18, 3) := by decide +kernel
theorem dX0_copyFrom_27 : decode cX0_copyFrom 27 = .ok (.iload_n 2, 1) := by decide +kernel
theorem dX0_copyFrom_28 : decode cX0_copyFrom 28 = .ok (.iaload, 1) := by decide +kernel
theorem dX0_copyFrom_29 : decode cX0_copyFrom 29 = .ok (.iastore, 1) := by decide +kernel
theorem dX0_copyFrom_30 : decode cX0_copyFrom 30 = .ok (.iinc 2 1, 3) := by decide +kernel
theorem dX0_copyFrom_33 : decode cX0_copyFrom 33 = .ok (.goto (-20), 3) := by decide +kernel
theorem dX0_copyFrom_36 : decode cX0_copyFrom 36 = .ok (.aload_n 0, 1) := by decide +kernel
theorem dX0_copyFrom_37 : decode cX0_copyFrom 37 = .ok (.aload_n 1, 1) := by decide +kernel
theorem dX0_copyFrom_38 : decode cX0_copyFrom 38 = .ok (.getfield 26, 3) := by decide +kernel
theorem dX0_copyFrom_41 : decode cX0_copyFrom 41 = .ok (.putfield 26, 3) := by decide +kernel
theorem dX0_copyFrom_44 : decode cX0_copyFrom 44 = .ok (.aload_n 0, 1) := by decide +kernel
theorem dX0_copyFrom_45 : decode cX0_copyFrom 45 = .ok (.aload_n 1, 1) := by decide +kernel
theorem dX0_copyFrom_46 : decode cX0_copyFrom 46 = .ok (.getfield 30, 3) := by decide +kernel
theorem dX0_copyFrom_49 : decode cX0_copyFrom 49 = .ok (.putfield 30, 3) := by decide +kernel
theorem dX0_copyFrom_52 : decode cX0_copyFrom 52 = .ok (.aload_n 0, 1) := by decide +kernel
theorem dX0_copyFrom_53 : decode cX0_copyFrom 53 = .ok (.aload_n 1, 1) := by decide +kernel
theorem dX0_copyFrom_54 : decode cX0_copyFrom 54 = .ok (.getfield 33, 3) := by decide +kernel
theorem dX0_copyFrom_57 : decode cX0_copyFrom 57 = .ok (.putfield 33, 3) := by decide +kernel
theorem dX0_copyFrom_60 : decode cX0_copyFrom 60 = .ok (.return_, 1) := by decide +kernel
theorem dX0_canCatch_0 : decode cX0_canCatch 0 = .ok (.aload_n 0, 1) := by decide +kernel
theorem dX0_canCatch_1 : decode cX0_canCatch 1 = .ok (.getfield 18, 3) := by decide +kernel
theorem dX0_canCatch_4 : decode cX0_canCatch 4 = .ok (.iload_n 2, 1) := by decide +kernel
theorem dX0_canCatch_5 : decode cX0_canCatch 5 = .ok (.iaload, 1) := by decide +kernel
theorem dX0_canCatch_6 : decode cX0_canCatch 6 = .ok (.iconst (-1), 1) := by decide +kernel
theorem dX0_canCatch_7 : decode cX0_canCatch 7 = .ok (.if_icmp .ne 17, 3) := by decide +kernel
theorem dX0_canCatch_10 : decode cX0_canCatch 10 = .ok (.iload_n 1, 1) := by decide +kernel
theorem dX0_canCatch_11 : decode cX0_canCatch 11 = .ok (.aload_n 0, 1) := by decide +kernel
theorem dX0_canCatch_12 : decode cX0_canCatch 12 = .ok (.getfield 26, 3) := by decide +kernel
theorem dX0_canCatch_15 : decode cX0_canCatch 15 = .ok (.iconst 2, 1) := by decide +kernel
theorem dX0_canCatch_16 : decode cX0_canCatch 16 = .ok (.iadd, 1) := by decide +kernel
theorem dX0_canCatch_17 : decode cX0_canCatch 17 = .ok (.if_icmp .gt 7, 3) := by decide +kernel
theorem dX0_canCatch_20 : decode cX0_canCatch 20 = .ok (.iconst 1, 1) := by decide +kernel
theorem dX0_canCatch_21 : decode cX0_canCatch 21 = .ok (.goto 4, 3) := by decide +kernel
theorem dX0_canCatch_24 : decode cX0_canCatch 24 = .ok (.iconst 0, 1) := by decide +kernel
theorem dX0_canCatch_25 : decode cX0_canCatch 25 = .ok (.ireturn, 1) := by decide +kernel
theorem dX0_miss_0 : decode cX0_miss 0 = .ok (.aload_n 1, 1) := by decide +kernel
theorem dX0_miss_1 : decode cX0_miss 1 = .ok (.getfield 36, 3) := by decide +kernel
theorem dX0_miss_4 : decode cX0_miss 4 = .ok (.iconst 1, 1) := by decide +kernel
theorem dX0_miss_5 : decode cX0_miss 5 = .ok (.if_icmp .ne 13, 3) := by decide +kernel
theorem dX0_miss_8 : decode cX0_miss 8 = .ok (.aload_n 0, 1) := by decide +kernel
theorem dX0_miss_9 : decode cX0_miss 9 = .ok (.dup, 1) := by decide +kernel
theorem dX0_miss_10 : decode cX0_miss 10 = .ok (.getfield 30, 3) := by decide +kernel
theorem dX0_miss_13 : decode cX0_miss 13 = .ok (.iconst 1, 1) := by decide +kernel
theorem dX0_miss_14 : decode cX0_miss 14 = .ok (.iadd, 1) := by decide +kernel
theorem dX0_miss_15 : decode cX0_miss 15 = .ok (.putfield 30, 3) := by decide +kernel
theorem dX0_miss_18 : decode cX0_miss 18 = .ok (.aload_n 1, 1) := by decide +kernel
theorem dX0_miss_19 : decode cX0_miss 19 = .ok (.invokevirtual 41, 3) := by decide +kernel
theorem dX0_miss_22 : decode cX0_miss 22 = .ok (.return_, 1) := by decide +kernel
theorem dX0_thingsHeld_0 : decode cX0_thingsHeld 0 = .ok (.iconst 0, 1) := by decide +kernel
theorem dX0_thingsHeld_1 : decode cX0_thingsHeld 1 = .ok (.istore_n 1, 1) := by decide +kernel
theorem dX0_thingsHeld_2 : decode cX0_thingsHeld 2 = .ok (.iconst 0, 1) := by decide +kernel
theorem dX0_thingsHeld_3 : decode cX0_thingsHeld 3 = .ok (.istore_n 2, 1) := by decide +kernel
theorem dX0_thingsHeld_4 : decode cX0_thingsHeld 4 = .ok (.iload_n 2, 1) := by decide +kernel
theorem dX0_thingsHeld_5 : decode cX0_thingsHeld 5 = .ok (.iconst 2, 1) := by decide +kernel
theorem dX0_thingsHeld_6 : decode cX0_thingsHeld 6 = .ok (.if_icmp .ge 22, 3) := by decide +kernel
theorem dX0_thingsHeld_9 : decode cX0_thingsHeld 9 = .ok (.aload_n 0, 1) := by decide +kernel
theorem dX0_thingsHeld_10 : decode cX0_thingsHeld 10 = .ok (.getfield 18, 3) := by decide +kernel
theorem dX0_thingsHeld_13 : decode cX0_thingsHeld 13 = .ok (.iload_n 2, 1) := by decide +kernel
theorem dX0_thingsHeld_14 : decode cX0_thingsHeld 14 = .ok (.iaload, 1) := by decide +kernel
theorem dX0_thingsHeld_15 : decode cX0_thingsHeld 15 = .ok (.iconst (-1), 1) := by decide +kernel
theorem dX0_thingsHeld_16 : decode cX0_thingsHeld 16 = .ok (.if_icmp .eq 6, 3) := by decide +kernel
theorem dX0_thingsHeld_19 : decode cX0_thingsHeld 19 = .ok (.iinc 1 1, 3) := by decide +kernel
theorem dX0_thingsHeld_22 : decode cX0_thingsHeld 22 = .ok (.iinc 2 1, 3) := by decide +kernel
theorem dX0_thingsHeld_25 : decode cX0_thingsHeld 25 = .ok (.goto (-21), 3) := by decide +kernel
theorem dX0_thingsHeld_28 : decode cX0_thingsHeld 28 = .ok (.iload_n 1, 1) := by decide +kernel
theorem dX0_thingsHeld_29 : decode cX0_thingsHeld 29 = .ok (.ireturn, 1) := by decide +kernel
theorem dX1_init_0 : decode cX1_init 0 = .ok (.aload_n 0, 1) := by decide +kernel
theorem dX1_init_1 : decode cX1_init 1 = .ok (.invokespecial 3, 3) := by decide +kernel
theorem dX1_init_4 : decode cX1_init 4 = .ok (.aload_n 0, 1) := by decide +kernel
theorem dX1_init_5 : decode cX1_init 5 = .ok (.bipush 8, 2) := by decide +kernel
theorem dX1_init_7 : decode cX1_init 7 = .ok (.newarray .int, 2) := by decide +kernel
theorem dX1_init_9 : decode cX1_init 9 = .ok (.putfield 9, 3) := by decide +kernel
theorem dX1_init_12 : decode cX1_init 12 = .ok (.aload_n 0, 1) := by decide +kernel
theorem dX1_init_13 : decode cX1_init 13 = .ok (.bipush 8, 2) := by decide +kernel
theorem dX1_init_15 : decode cX1_init 15 = .ok (.newarray .int, 2) := by decide +kernel
theorem dX1_init_17 : decode cX1_init 17 = .ok (.putfield 15, 3) := by decide +kernel
theorem dX1_init_20 : decode cX1_init 20 = .ok (.aload_n 0, 1) := by decide +kernel
theorem dX1_init_21 : decode cX1_init 21 = .ok (.iconst 1, 1) := by decide +kernel
theorem dX1_init_22 : decode cX1_init 22 = .ok (.putfield 18, 3) := by decide +kernel
theorem dX1_init_25 : decode cX1_init 25 = .ok (.return_, 1) := by decide +kernel
theorem dX1_write_0 : decode cX1_write 0 = .ok (.aload_n 0, 1) := by decide +kernel
theorem dX1_write_1 : decode cX1_write 1 = .ok (.iload_n 2, 1) := by decide +kernel
theorem dX1_write_2 : decode cX1_write 2 = .ok (.putfield 18, 3) := by decide +kernel
theorem dX1_write_5 : decode cX1_write 5 = .ok (.iload_n 3, 1) := by decide +kernel
theorem dX1_write_6 : decode cX1_write 6 = .ok (.istore 4, 2) := by decide +kernel
theorem dX1_write_8 : decode cX1_write 8 = .ok (.aload_n 0, 1) := by decide +kernel
theorem dX1_write_9 : decode cX1_write 9 = .ok (.getfield 18, 3) := by decide +kernel
theorem dX1_write_12 : decode cX1_write 12 = .ok (.iconst 1, 1) := by decide +kernel
theorem dX1_write_13 : decode cX1_write 13 = .ok (.isub, 1) := by decide +kernel
theorem dX1_write_14 : decode cX1_write 14 = .ok (.istore 5, 2) := by decide +kernel
theorem dX1_write_16 : decode cX1_write 16 = .ok (.iload 5, 2) := by decide +kernel
theorem dX1_write_18 : decode cX1_write 18 = .ok (.ifCond .lt 36, 3) := by decide +kernel
theorem dX1_write_21 : decode cX1_write 21 = .ok (.aload_n 0, 1) := by decide +kernel
theorem dX1_write_22 : decode cX1_write 22 = .ok (.getfield 9, 3) := by decide +kernel
theorem dX1_write_25 : decode cX1_write 25 = .ok (.iload 5, 2) := by decide +kernel
theorem dX1_write_27 : decode cX1_write 27 = .ok (.iload 4, 2) := by decide +kernel
theorem dX1_write_29 : decode cX1_write 29 = .ok (.bipush 10, 2) := by decide +kernel
theorem dX1_write_31 : decode cX1_write 31 = .ok (.irem, 1) := by decide +kernel
theorem dX1_write_32 : decode cX1_write 32 = .ok (.iastore, 1) := by decide +kernel
theorem dX1_write_33 : decode cX1_write 33 = .ok (.aload_n 0, 1) := by decide +kernel
theorem dX1_write_34 : decode cX1_write 34 = .ok (.getfield 15, 3) := by decide +kernel
theorem dX1_write_37 : decode cX1_write 37 = .ok (.iload 5, 2) := by decide +kernel
theorem dX1_write_39 : decode cX1_write 39 = .ok (.iload_n 1, 1) := by decide +kernel
theorem dX1_write_40 : decode cX1_write 40 = .ok (.iastore, 1) := by decide +kernel
theorem dX1_write_41 : decode cX1_write 41 = .ok (.iload 4, 2) := by decide +kernel
theorem dX1_write_43 : decode cX1_write 43 = .ok (.bipush 10, 2) := by decide +kernel
theorem dX1_write_45 : decode cX1_write 45 = .ok (.idiv, 1) := by decide +kernel
theorem dX1_write_46 : decode cX1_write 46 = .ok (.istore 4, 2) := by decide +kernel
theorem dX1_write_48 : decode cX1_write 48 = .ok (.iinc 5 (-1), 3) := by decide +kernel
theorem dX1_write_51 : decode cX1_write 51 = .ok (.goto (-35), 3) := by decide +kernel
theorem dX1_write_54 : decode cX1_write 54 = .ok (.return_, 1) := by decide +kernel
theorem dX1_copyFrom_0 : decode cX1_copyFrom 0 = .ok (.aload_n 0, 1) := by decide +kernel
theorem dX1_copyFrom_1 : decode cX1_copyFrom 1 = .ok (.aload_n 1, 1) := by decide +kernel
theorem dX1_copyFrom_2 : decode cX1_copyFrom 2 = .ok (.getfield 18, 3) := by decide +kernel
theorem dX1_copyFrom_5 : decode cX1_copyFrom 5 = .ok (.putfield 18, 3) := by decide +kernel
theorem dX1_copyFrom_8 : decode cX1_copyFrom 8 = .ok (.iconst 0, 1) := by decide +kernel
theorem dX1_copyFrom_9 : decode cX1_copyFrom 9 = .ok (.istore_n 2, 1) := by decide +kernel
theorem dX1_copyFrom_10 : decode cX1_copyFrom 10 = .ok (.iload_n 2, 1) := by decide +kernel
theorem dX1_copyFrom_11 : decode cX1_copyFrom 11 = .ok (.aload_n 0, 1) := by decide +kernel
theorem dX1_copyFrom_12 : decode cX1_copyFrom 12 = .ok (.getfield 18, 3) := by decide +kernel
theorem dX1_copyFrom_15 : decode cX1_copyFrom 15 = .ok (.if_icmp .ge 33, 3) := by decide +kernel
theorem dX1_copyFrom_18 : decode cX1_copyFrom 18 = .ok (.aload_n 0, 1) := by decide +kernel
theorem dX1_copyFrom_19 : decode cX1_copyFrom 19 = .ok (.getfield 9, 3) := by decide +kernel
theorem dX1_copyFrom_22 : decode cX1_copyFrom 22 = .ok (.iload_n 2, 1) := by decide +kernel
theorem dX1_copyFrom_23 : decode cX1_copyFrom 23 = .ok (.aload_n 1, 1) := by decide +kernel
theorem dX1_copyFrom_24 : decode cX1_copyFrom 24 = .ok (.getfield 9, 3) := by decide +kernel
theorem dX1_copyFrom_27 : decode cX1_copyFrom 27 = .ok (.iload_n 2, 1) := by decide +kernel
theorem dX1_copyFrom_28 : decode cX1_copyFrom 28 = .ok (.iaload, 1) := by decide +kernel
theorem dX1_copyFrom_29 : decode cX1_copyFrom 29 = .ok (.iastore, 1) := by decide +kernel
theorem dX1_copyFrom_30 : decode cX1_copyFrom 30 = .ok (.aload_n 0, 1) := by decide +kernel
theorem dX1_copyFrom_31 : decode cX1_copyFrom 31 = .ok (.getfield 15, 3) := by decide +kernel
theorem dX1_copyFrom_34 : decode cX1_copyFrom 34 = .ok (.iload_n 2, 1) := by decide +kernel
theorem dX1_copyFrom_35 : decode cX1_copyFrom 35 = .ok (.aload_n 1, 1) := by decide +kernel
theorem dX1_copyFrom_36 : decode cX1_copyFrom 36 = .ok (.getfield 15, 3) := by decide +kernel
theorem dX1_copyFrom_39 : decode cX1_copyFrom 39 = .ok (.iload_n 2, 1) := by decide +kernel
theorem dX1_copyFrom_40 : decode cX1_copyFrom 40 = .ok (.iaload, 1) := by decide +kernel
theorem dX1_copyFrom_41 : decode cX1_copyFrom 41 = .ok (.iastore, 1) := by decide +kernel
theorem dX1_copyFrom_42 : decode cX1_copyFrom 42 = .ok (.iinc 2 1, 3) := by decide +kernel
theorem dX1_copyFrom_45 : decode cX1_copyFrom 45 = .ok (.goto (-35), 3) := by decide +kernel
theorem dX1_copyFrom_48 : decode cX1_copyFrom 48 = .ok (.return_, 1) := by decide +kernel
theorem dX1_placeIn_0 : decode cX1_placeIn 0 = .ok (.iload_n 1, 1) := by decide +kernel
theorem dX1_placeIn_1 : decode cX1_placeIn 1 = .ok (.aload_n 0, 1) := by decide +kernel
theorem dX1_placeIn_2 : decode cX1_placeIn 2 = .ok (.getfield 18, 3) := by decide +kernel
theorem dX1_placeIn_5 : decode cX1_placeIn 5 = .ok (.invokestatic 22, 3) := by decide +kernel
theorem dX1_placeIn_8 : decode cX1_placeIn 8 = .ok (.ireturn, 1) := by decide +kernel
theorem dX1_landsApart_0 : decode cX1_landsApart 0 = .ok (.iconst 0, 1) := by decide +kernel
theorem dX1_landsApart_1 : decode cX1_landsApart 1 = .ok (.istore_n 1, 1) := by decide +kernel
theorem dX1_landsApart_2 : decode cX1_landsApart 2 = .ok (.iconst 0, 1) := by decide +kernel
theorem dX1_landsApart_3 : decode cX1_landsApart 3 = .ok (.istore_n 2, 1) := by decide +kernel
theorem dX1_landsApart_4 : decode cX1_landsApart 4 = .ok (.iload_n 2, 1) := by decide +kernel
theorem dX1_landsApart_5 : decode cX1_landsApart 5 = .ok (.aload_n 0, 1) := by decide +kernel
theorem dX1_landsApart_6 : decode cX1_landsApart 6 = .ok (.getfield 18, 3) := by decide +kernel
theorem dX1_landsApart_9 : decode cX1_landsApart 9 = .ok (.if_icmp .ge 37, 3) := by decide +kernel
theorem dX1_landsApart_12 : decode cX1_landsApart 12 = .ok (.iconst 1, 1) := by decide +kernel
theorem dX1_landsApart_13 : decode cX1_landsApart 13 = .ok (.iload_n 2, 1) := by decide +kernel
theorem dX1_landsApart_14 : decode cX1_landsApart 14 = .ok (.aload_n 0, 1) := by decide +kernel
theorem dX1_landsApart_15 : decode cX1_landsApart 15 = .ok (.getfield 9, 3) := by decide +kernel
theorem dX1_landsApart_18 : decode cX1_landsApart 18 = .ok (.iload_n 2, 1) := by decide +kernel
theorem dX1_landsApart_19 : decode cX1_landsApart 19 = .ok (.iaload, 1) := by decide +kernel
theorem dX1_landsApart_20 : decode cX1_landsApart 20 = .ok (.iadd, 1) := by decide +kernel
theorem dX1_landsApart_21 : decode cX1_landsApart 21 = .ok (.aload_n 0, 1) := by decide +kernel
theorem dX1_landsApart_22 : decode cX1_landsApart 22 = .ok (.getfield 18, 3) := by decide +kernel
theorem dX1_landsApart_25 : decode cX1_landsApart 25 = .ok (.irem, 1) := by decide +kernel
theorem dX1_landsApart_26 : decode cX1_landsApart 26 = .ok (.ishl, 1) := by decide +kernel
theorem dX1_landsApart_27 : decode cX1_landsApart 27 = .ok (.istore_n 3, 1) := by decide +kernel
theorem dX1_landsApart_28 : decode cX1_landsApart 28 = .ok (.iload_n 1, 1) := by decide +kernel
theorem dX1_landsApart_29 : decode cX1_landsApart 29 = .ok (.iload_n 3, 1) := by decide +kernel
theorem dX1_landsApart_30 : decode cX1_landsApart 30 = .ok (.iand, 1) := by decide +kernel
theorem dX1_landsApart_31 : decode cX1_landsApart 31 = .ok (.ifCond .eq 5, 3) := by decide +kernel
theorem dX1_landsApart_34 : decode cX1_landsApart 34 = .ok (.iconst 0, 1) := by decide +kernel
theorem dX1_landsApart_35 : decode cX1_landsApart 35 = .ok (.ireturn, 1) := by decide +kernel
theorem dX1_landsApart_36 : decode cX1_landsApart 36 = .ok (.iload_n 1, 1) := by decide +kernel
theorem dX1_landsApart_37 : decode cX1_landsApart 37 = .ok (.iload_n 3, 1) := by decide +kernel
theorem dX1_landsApart_38 : decode cX1_landsApart 38 = .ok (.ior, 1) := by decide +kernel
theorem dX1_landsApart_39 : decode cX1_landsApart 39 = .ok (.istore_n 1, 1) := by decide +kernel
theorem dX1_landsApart_40 : decode cX1_landsApart 40 = .ok (.iinc 2 1, 3) := by decide +kernel
theorem dX1_landsApart_43 : decode cX1_landsApart 43 = .ok (.goto (-39), 3) := by decide +kernel
theorem dX1_landsApart_46 : decode cX1_landsApart 46 = .ok (.iconst 1, 1) := by decide +kernel
theorem dX1_landsApart_47 : decode cX1_landsApart 47 = .ok (.ireturn, 1) := by decide +kernel
theorem dX1_ballsAsked_0 : decode cX1_ballsAsked 0 = .ok (.iconst 0, 1) := by decide +kernel
theorem dX1_ballsAsked_1 : decode cX1_ballsAsked 1 = .ok (.istore_n 1, 1) := by decide +kernel
theorem dX1_ballsAsked_2 : decode cX1_ballsAsked 2 = .ok (.iconst 0, 1) := by decide +kernel
theorem dX1_ballsAsked_3 : decode cX1_ballsAsked 3 = .ok (.istore_n 2, 1) := by decide +kernel
theorem dX1_ballsAsked_4 : decode cX1_ballsAsked 4 = .ok (.iload_n 2, 1) := by decide +kernel
theorem dX1_ballsAsked_5 : decode cX1_ballsAsked 5 = .ok (.aload_n 0, 1) := by decide +kernel
theorem dX1_ballsAsked_6 : decode cX1_ballsAsked 6 = .ok (.getfield 18, 3) := by decide +kernel
theorem dX1_ballsAsked_9 : decode cX1_ballsAsked 9 = .ok (.if_icmp .ge 18, 3) := by decide +kernel
theorem dX1_ballsAsked_12 : decode cX1_ballsAsked 12 = .ok (.iload_n 1, 1) := by decide +kernel
theorem dX1_ballsAsked_13 : decode cX1_ballsAsked 13 = .ok (.aload_n 0, 1) := by decide +kernel
theorem dX1_ballsAsked_14 : decode cX1_ballsAsked 14 = .ok (.getfield 9, 3) := by decide +kernel
theorem dX1_ballsAsked_17 : decode cX1_ballsAsked 17 = .ok (.iload_n 2, 1) := by decide +kernel
theorem dX1_ballsAsked_18 : decode cX1_ballsAsked 18 = .ok (.iaload, 1) := by decide +kernel
theorem dX1_ballsAsked_19 : decode cX1_ballsAsked 19 = .ok (.iadd, 1) := by decide +kernel
theorem dX1_ballsAsked_20 : decode cX1_ballsAsked 20 = .ok (.istore_n 1, 1) := by decide +kernel
theorem dX1_ballsAsked_21 : decode cX1_ballsAsked 21 = .ok (.iinc 2 1, 3) := by decide +kernel
theorem dX1_ballsAsked_24 : decode cX1_ballsAsked 24 = .ok (.goto (-20), 3) := by decide +kernel
theorem dX1_ballsAsked_27 : decode cX1_ballsAsked 27 = .ok (.iload_n 1, 1) := by decide +kernel
theorem dX1_ballsAsked_28 : decode cX1_ballsAsked 28 = .ok (.aload_n 0, 1) := by decide +kernel
theorem dX1_ballsAsked_29 : decode cX1_ballsAsked 29 = .ok (.getfield 18, 3) := by decide +kernel
theorem dX1_ballsAsked_32 : decode cX1_ballsAsked 32 = .ok (.irem, 1) := by decide +kernel
theorem dX1_ballsAsked_33 : decode cX1_ballsAsked 33 = .ok (.ifCond .ne 12, 3) := by decide +kernel
theorem dX1_ballsAsked_36 : decode cX1_ballsAsked 36 = .ok (.iload_n 1, 1) := by decide +kernel
theorem dX1_ballsAsked_37 : decode cX1_ballsAsked 37 = .ok (.aload_n 0, 1) := by decide +kernel
theorem dX1_ballsAsked_38 : decode cX1_ballsAsked 38 = .ok (.getfield 18, 3) := by decide +kernel
theorem dX1_ballsAsked_41 : decode cX1_ballsAsked 41 = .ok (.idiv, 1) := by decide +kernel
theorem dX1_ballsAsked_42 : decode cX1_ballsAsked 42 = .ok (.goto 4, 3) := by decide +kernel
theorem dX1_ballsAsked_45 : decode cX1_ballsAsked 45 = .ok (.iconst (-1), 1) := by decide +kernel
theorem dX1_ballsAsked_46 : decode cX1_ballsAsked 46 = .ok (.ireturn, 1) := by decide +kernel
theorem dX1_shortestLength_0 : decode cX1_shortestLength 0 = .ok (.iconst 1, 1) := by decide +kernel
theorem dX1_shortestLength_1 : decode cX1_shortestLength 1 = .ok (.istore_n 1, 1) := by decide +kernel
theorem dX1_shortestLength_2 : decode cX1_shortestLength 2 = .ok (.iload_n 1, 1) := by decide +kernel
theorem dX1_shortestLength_3 : decode cX1_shortestLength 3 = .ok (.aload_n 0, 1) := by decide +kernel
theorem dX1_shortestLength_4 : decode cX1_shortestLength 4 = .ok (.getfield 18, 3) := by decide +kernel
theorem dX1_shortestLength_7 : decode cX1_shortestLength 7 = .ok (.if_icmp .ge 28, 3) := by decide +kernel
theorem dX1_shortestLength_10 : decode cX1_shortestLength 10 = .ok (.aload_n 0, 1) := by decide +kernel
theorem dX1_shortestLength_11 : decode cX1_shortestLength 11 = .ok (.getfield 18, 3) := by decide +kernel
theorem dX1_shortestLength_14 : decode cX1_shortestLength 14 = .ok (.iload_n 1, 1) := by decide +kernel
theorem dX1_shortestLength_15 : decode cX1_shortestLength 15 = .ok (.irem, 1) := by decide +kernel
theorem dX1_shortestLength_16 : decode cX1_shortestLength 16 = .ok (.ifCond .ne 13, 3) := by decide +kernel
theorem dX1_shortestLength_19 : decode cX1_shortestLength 19 = .ok (.aload_n 0, 1) := by decide +kernel
theorem dX1_shortestLength_20 : decode cX1_shortestLength 20 = .ok (.iload_n 1, 1) := by decide +kernel
theorem dX1_shortestLength_21 : decode cX1_shortestLength 21 = .ok (.invokevirtual 28, 3) := by decide +kernel
theorem dX1_shortestLength_24 : decode cX1_shortestLength 24 = .ok (.ifCond .eq 5, 3) := by decide +kernel
theorem dX1_shortestLength_27 : decode cX1_shortestLength 27 = .ok (.iload_n 1, 1) := by decide +kernel
theorem dX1_shortestLength_28 : decode cX1_shortestLength 28 = .ok (.ireturn, 1) := by decide +kernel
theorem dX1_shortestLength_29 : decode cX1_shortestLength 29 = .ok (.iinc 1 1, 3) := by decide +kernel
theorem dX1_shortestLength_32 : decode cX1_shortestLength 32 = .ok (.goto (-30), 3) := by decide +kernel
theorem dX1_shortestLength_35 : decode cX1_shortestLength 35 = .ok (.aload_n 0, 1) := by decide +kernel
theorem dX1_shortestLength_36 : decode cX1_shortestLength 36 = .ok (.getfield 18, 3) := by decide +kernel
theorem dX1_shortestLength_39 : decode cX1_shortestLength 39 = .ok (.ireturn, 1) := by decide +kernel
theorem dX1_repeatsAfter_0 : decode cX1_repeatsAfter 0 = .ok (.iload_n 1, 1) := by decide +kernel
theorem dX1_repeatsAfter_1 : decode cX1_repeatsAfter 1 = .ok (.istore_n 2, 1) := by decide +kernel
theorem dX1_repeatsAfter_2 : decode cX1_repeatsAfter 2 = .ok (.iload_n 2, 1) := by decide +kernel
theorem dX1_repeatsAfter_3 : decode cX1_repeatsAfter 3 = .ok (.aload_n 0, 1) := by decide +kernel
theorem dX1_repeatsAfter_4 : decode cX1_repeatsAfter 4 = .ok (.getfield 18, 3) := by decide +kernel
theorem dX1_repeatsAfter_7 : decode cX1_repeatsAfter 7 = .ok (.if_icmp .ge 45, 3) := by decide +kernel
theorem dX1_repeatsAfter_10 : decode cX1_repeatsAfter 10 = .ok (.iload_n 2, 1) := by decide +kernel
theorem dX1_repeatsAfter_11 : decode cX1_repeatsAfter 11 = .ok (.iload_n 1, 1) := by decide +kernel
theorem dX1_repeatsAfter_12 : decode cX1_repeatsAfter 12 = .ok (.isub, 1) := by decide +kernel
theorem dX1_repeatsAfter_13 : decode cX1_repeatsAfter 13 = .ok (.istore_n 3, 1) := by decide +kernel
theorem dX1_repeatsAfter_14 : decode cX1_repeatsAfter 14 = .ok (.aload_n 0, 1) := by decide +kernel
theorem dX1_repeatsAfter_15 : decode cX1_repeatsAfter 15 = .ok (.getfield 9, 3) := by decide +kernel
theorem dX1_repeatsAfter_18 : decode cX1_repeatsAfter 18 = .ok (.iload_n 2, 1) := by decide +kernel
theorem dX1_repeatsAfter_19 : decode cX1_repeatsAfter 19 = .ok (.iaload, 1) := by decide +kernel
theorem dX1_repeatsAfter_20 : decode cX1_repeatsAfter 20 = .ok (.aload_n 0, 1) := by decide +kernel
theorem dX1_repeatsAfter_21 : decode cX1_repeatsAfter 21 = .ok (.getfield 9, 3) := by decide +kernel
theorem dX1_repeatsAfter_24 : decode cX1_repeatsAfter 24 = .ok (.iload_n 3, 1) := by decide +kernel
theorem dX1_repeatsAfter_25 : decode cX1_repeatsAfter 25 = .ok (.iaload, 1) := by decide +kernel
theorem dX1_repeatsAfter_26 : decode cX1_repeatsAfter 26 = .ok (.if_icmp .ne 18, 3) := by decide +kernel
theorem dX1_repeatsAfter_29 : decode cX1_repeatsAfter 29 = .ok (.aload_n 0, 1) := by decide +kernel
theorem dX1_repeatsAfter_30 : decode cX1_repeatsAfter 30 = .ok (.getfield 15, 3) := by decide +kernel
theorem dX1_repeatsAfter_33 : decode cX1_repeatsAfter 33 = .ok (.iload_n 2, 1) := by decide +kernel
theorem dX1_repeatsAfter_34 : decode cX1_repeatsAfter 34 = .ok (.iaload, 1) := by decide +kernel
theorem dX1_repeatsAfter_35 : decode cX1_repeatsAfter 35 = .ok (.aload_n 0, 1) := by decide +kernel
theorem dX1_repeatsAfter_36 : decode cX1_repeatsAfter 36 = .ok (.getfield 15, 3) := by decide +kernel
theorem dX1_repeatsAfter_39 : decode cX1_repeatsAfter 39 = .ok (.iload_n 3, 1) := by decide +kernel
theorem dX1_repeatsAfter_40 : decode cX1_repeatsAfter 40 = .ok (.iaload, 1) := by decide +kernel
theorem dX1_repeatsAfter_41 : decode cX1_repeatsAfter 41 = .ok (.if_icmp .eq 5, 3) := by decide +kernel
theorem dX1_repeatsAfter_44 : decode cX1_repeatsAfter 44 = .ok (.iconst 0, 1) := by decide +kernel
theorem dX1_repeatsAfter_45 : decode cX1_repeatsAfter 45 = .ok (.ireturn, 1) := by decide +kernel
theorem dX1_repeatsAfter_46 : decode cX1_repeatsAfter 46 = .ok (.iinc 2 1, 3) := by decide +kernel
theorem dX1_repeatsAfter_49 : decode cX1_repeatsAfter 49 = .ok (.goto (-47), 3) := by decide +kernel
theorem dX1_repeatsAfter_52 : decode cX1_repeatsAfter 52 = .ok (.iconst 1, 1) := by decide +kernel
theorem dX1_repeatsAfter_53 : decode cX1_repeatsAfter 53 = .ok (.ireturn, 1) := by decide +kernel
theorem dX1_addTo_0 : decode cX1_addTo 0 = .ok (.lload_n 1, 1) := by decide +kernel
theorem dX1_addTo_1 : decode cX1_addTo 1 = .ok (.lstore_n 3, 1) := by decide +kernel
theorem dX1_addTo_2 : decode cX1_addTo 2 = .ok (.iconst 0, 1) := by decide +kernel
theorem dX1_addTo_3 : decode cX1_addTo 3 = .ok (.istore 5, 2) := by decide +kernel
theorem dX1_addTo_5 : decode cX1_addTo 5 = .ok (.iload 5, 2) := by decide +kernel
theorem dX1_addTo_7 : decode cX1_addTo 7 = .ok (.aload_n 0, 1) := by decide +kernel
theorem dX1_addTo_8 : decode cX1_addTo 8 = .ok (.getfield 18, 3) := by decide +kernel
theorem dX1_addTo_11 : decode cX1_addTo 11 = .ok (.if_icmp .ge 39, 3) := by decide +kernel
theorem dX1_addTo_14 : decode cX1_addTo 14 = .ok (.lload_n 3, 1) := by decide +kernel
theorem dX1_addTo_15 : decode cX1_addTo 15 = .ok (.ldc2_w 32, 3) := by decide +kernel
theorem dX1_addTo_18 : decode cX1_addTo 18 = .ok (.lmul, 1) := by decide +kernel
theorem dX1_addTo_19 : decode cX1_addTo 19 = .ok (.aload_n 0, 1) := by decide +kernel
theorem dX1_addTo_20 : decode cX1_addTo 20 = .ok (.getfield 9, 3) := by decide +kernel
theorem dX1_addTo_23 : decode cX1_addTo 23 = .ok (.iload 5, 2) := by decide +kernel
theorem dX1_addTo_25 : decode cX1_addTo 25 = .ok (.iaload, 1) := by decide +kernel
theorem dX1_addTo_26 : decode cX1_addTo 26 = .ok (.i2l, 1) := by decide +kernel
theorem dX1_addTo_27 : decode cX1_addTo 27 = .ok (.ladd, 1) := by decide +kernel
theorem dX1_addTo_28 : decode cX1_addTo 28 = .ok (.lstore_n 3, 1) := by decide +kernel
theorem dX1_addTo_29 : decode cX1_addTo 29 = .ok (.lload_n 3, 1) := by decide +kernel
theorem dX1_addTo_30 : decode cX1_addTo 30 = .ok (.ldc2_w 32, 3) := by decide +kernel
theorem dX1_addTo_33 : decode cX1_addTo 33 = .ok (.lmul, 1) := by decide +kernel
theorem dX1_addTo_34 : decode cX1_addTo 34 = .ok (.aload_n 0, 1) := by decide +kernel
theorem dX1_addTo_35 : decode cX1_addTo 35 = .ok (.getfield 15, 3) := by decide +kernel
theorem dX1_addTo_38 : decode cX1_addTo 38 = .ok (.iload 5, 2) := by decide +kernel
theorem dX1_addTo_40 : decode cX1_addTo 40 = .ok (.iaload, 1) := by decide +kernel
theorem dX1_addTo_41 : decode cX1_addTo 41 = .ok (.i2l, 1) := by decide +kernel
theorem dX1_addTo_42 : decode cX1_addTo 42 = .ok (.ladd, 1) := by decide +kernel
theorem dX1_addTo_43 : decode cX1_addTo 43 = .ok (.lstore_n 3, 1) := by decide +kernel
theorem dX1_addTo_44 : decode cX1_addTo 44 = .ok (.iinc 5 1, 3) := by decide +kernel
theorem dX1_addTo_47 : decode cX1_addTo 47 = .ok (.goto (-42), 3) := by decide +kernel
theorem dX1_addTo_50 : decode cX1_addTo 50 = .ok (.lload_n 3, 1) := by decide +kernel
theorem dX1_addTo_51 : decode cX1_addTo 51 = .ok (.lreturn, 1) := by decide +kernel
theorem dX3_init_0 : decode cX3_init 0 = .ok (.aload_n 0, 1) := by decide +kernel
theorem dX3_init_1 : decode cX3_init 1 = .ok (.invokespecial 3, 3) := by decide +kernel
theorem dX3_init_4 : decode cX3_init 4 = .ok (.aload_n 0, 1) := by decide +kernel
theorem dX3_init_5 : decode cX3_init 5 = .ok (.iconst 0, 1) := by decide +kernel
theorem dX3_init_6 : decode cX3_init 6 = .ok (.putfield 9, 3) := by decide +kernel
theorem dX3_init_9 : decode cX3_init 9 = .ok (.aload_n 0, 1) := by decide +kernel
theorem dX3_init_10 : decode cX3_init 10 = .ok (.iconst (-1), 1) := by decide +kernel
theorem dX3_init_11 : decode cX3_init 11 = .ok (.putfield 15, 3) := by decide +kernel
theorem dX3_init_14 : decode cX3_init 14 = .ok (.aload_n 0, 1) := by decide +kernel
theorem dX3_init_15 : decode cX3_init 15 = .ok (.iconst (-1), 1) := by decide +kernel
theorem dX3_init_16 : decode cX3_init 16 = .ok (.putfield 18, 3) := by decide +kernel
theorem dX3_init_19 : decode cX3_init 19 = .ok (.return_, 1) := by decide +kernel
theorem dX3_copyFrom_0 : decode cX3_copyFrom 0 = .ok (.aload_n 0, 1) := by decide +kernel
theorem dX3_copyFrom_1 : decode cX3_copyFrom 1 = .ok (.aload_n 1, 1) := by decide +kernel
theorem dX3_copyFrom_2 : decode cX3_copyFrom 2 = .ok (.getfield 21, 3) := by decide +kernel
theorem dX3_copyFrom_5 : decode cX3_copyFrom 5 = .ok (.putfield 21, 3) := by decide +kernel
theorem dX3_copyFrom_8 : decode cX3_copyFrom 8 = .ok (.aload_n 0, 1) := by decide +kernel
theorem dX3_copyFrom_9 : decode cX3_copyFrom 9 = .ok (.aload_n 1, 1) := by decide +kernel
theorem dX3_copyFrom_10 : decode cX3_copyFrom 10 = .ok (.getfield 9, 3) := by decide +kernel
theorem dX3_copyFrom_13 : decode cX3_copyFrom 13 = .ok (.putfield 9, 3) := by decide +kernel
theorem dX3_copyFrom_16 : decode cX3_copyFrom 16 = .ok (.aload_n 0, 1) := by decide +kernel
theorem dX3_copyFrom_17 : decode cX3_copyFrom 17 = .ok (.aload_n 1, 1) := by decide +kernel
theorem dX3_copyFrom_18 : decode cX3_copyFrom 18 = .ok (.getfield 15, 3) := by decide +kernel
theorem dX3_copyFrom_21 : decode cX3_copyFrom 21 = .ok (.putfield 15, 3) := by decide +kernel
theorem dX3_copyFrom_24 : decode cX3_copyFrom 24 = .ok (.aload_n 0, 1) := by decide +kernel
theorem dX3_copyFrom_25 : decode cX3_copyFrom 25 = .ok (.aload_n 1, 1) := by decide +kernel
theorem dX3_copyFrom_26 : decode cX3_copyFrom 26 = .ok (.getfield 18, 3) := by decide +kernel
theorem dX3_copyFrom_29 : decode cX3_copyFrom 29 = .ok (.putfield 18, 3) := by decide +kernel
theorem dX3_copyFrom_32 : decode cX3_copyFrom 32 = .ok (.aload_n 0, 1) := by decide +kernel
theorem dX3_copyFrom_33 : decode cX3_copyFrom 33 = .ok (.aload_n 1, 1) := by decide +kernel
theorem dX3_copyFrom_34 : decode cX3_copyFrom 34 = .ok (.getfield 24, 3) := by decide +kernel
theorem dX3_copyFrom_37 : decode cX3_copyFrom 37 = .ok (.putfield 24, 3) := by decide +kernel
theorem dX3_copyFrom_40 : decode cX3_copyFrom 40 = .ok (.aload_n 0, 1) := by decide +kernel
theorem dX3_copyFrom_41 : decode cX3_copyFrom 41 = .ok (.aload_n 1, 1) := by decide +kernel
theorem dX3_copyFrom_42 : decode cX3_copyFrom 42 = .ok (.getfield 27, 3) := by decide +kernel
theorem dX3_copyFrom_45 : decode cX3_copyFrom 45 = .ok (.putfield 27, 3) := by decide +kernel
theorem dX3_copyFrom_48 : decode cX3_copyFrom 48 = .ok (.aload_n 0, 1) := by decide +kernel
theorem dX3_copyFrom_49 : decode cX3_copyFrom 49 = .ok (.aload_n 1, 1) := by decide +kernel
theorem dX3_copyFrom_50 : decode cX3_copyFrom 50 = .ok (.getfield 30, 3) := by decide +kernel
theorem dX3_copyFrom_53 : decode cX3_copyFrom 53 = .ok (.putfield 30, 3) := by decide +kernel
theorem dX3_copyFrom_56 : decode cX3_copyFrom 56 = .ok (.aload_n 0, 1) := by decide +kernel
theorem dX3_copyFrom_57 : decode cX3_copyFrom 57 = .ok (.aload_n 1, 1) := by decide +kernel
theorem dX3_copyFrom_58 : decode cX3_copyFrom 58 = .ok (.getfield 33, 3) := by decide +kernel
theorem dX3_copyFrom_61 : decode cX3_copyFrom 61 = .ok (.putfield 33, 3) := by decide +kernel
theorem dX3_copyFrom_64 : decode cX3_copyFrom 64 = .ok (.return_, 1) := by decide +kernel
theorem dX3_comesDownIn_0 : decode cX3_comesDownIn 0 = .ok (.aload_n 0, 1) := by decide +kernel
theorem dX3_comesDownIn_1 : decode cX3_comesDownIn 1 = .ok (.getfield 9, 3) := by decide +kernel
theorem dX3_comesDownIn_4 : decode cX3_comesDownIn 4 = .ok (.iconst 2, 1) := by decide +kernel
theorem dX3_comesDownIn_5 : decode cX3_comesDownIn 5 = .ok (.if_icmp .ne 15, 3) := by decide +kernel
theorem dX3_comesDownIn_8 : decode cX3_comesDownIn 8 = .ok (.aload_n 0, 1) := by decide +kernel
theorem dX3_comesDownIn_9 : decode cX3_comesDownIn 9 = .ok (.getfield 24, 3) := by decide +kernel
theorem dX3_comesDownIn_12 : decode cX3_comesDownIn 12 = .ok (.iload_n 1, 1) := by decide +kernel
theorem dX3_comesDownIn_13 : decode cX3_comesDownIn 13 = .ok (.if_icmp .ne 7, 3) := by decide +kernel
theorem dX3_comesDownIn_16 : decode cX3_comesDownIn 16 = .ok (.iconst 1, 1) := by decide +kernel
theorem dX3_comesDownIn_17 : decode cX3_comesDownIn 17 = .ok (.goto 4, 3) := by decide +kernel
theorem dX3_comesDownIn_20 : decode cX3_comesDownIn 20 = .ok (.iconst 0, 1) := by decide +kernel
theorem dX3_comesDownIn_21 : decode cX3_comesDownIn 21 = .ok (.ireturn, 1) := by decide +kernel
theorem dX3_beatsInAir_0 : decode cX3_beatsInAir 0 = .ok (.aload_n 0, 1) := by decide +kernel
theorem dX3_beatsInAir_1 : decode cX3_beatsInAir 1 = .ok (.getfield 21, 3) := by decide +kernel
theorem dX3_beatsInAir_4 : decode cX3_beatsInAir 4 = .ok (.iconst 1, 1) := by decide +kernel
theorem dX3_beatsInAir_5 : decode cX3_beatsInAir 5 = .ok (.if_icmp .ne 12, 3) := by decide +kernel
theorem dX3_beatsInAir_8 : decode cX3_beatsInAir 8 = .ok (.iload_n 1, 1) := by decide +kernel
theorem dX3_beatsInAir_9 : decode cX3_beatsInAir 9 = .ok (.iconst 3, 1) := by decide +kernel
theorem dX3_beatsInAir_10 : decode cX3_beatsInAir 10 = .ok (.if_icmp .lt 7, 3) := by decide +kernel
theorem dX3_beatsInAir_13 : decode cX3_beatsInAir 13 = .ok (.iload_n 1, 1) := by decide +kernel
theorem dX3_beatsInAir_14 : decode cX3_beatsInAir 14 = .ok (.iconst 1, 1) := by decide +kernel
theorem dX3_beatsInAir_15 : decode cX3_beatsInAir 15 = .ok (.isub, 1) := by decide +kernel
theorem dX3_beatsInAir_16 : decode cX3_beatsInAir 16 = .ok (.ireturn, 1) := by decide +kernel
theorem dX3_beatsInAir_17 : decode cX3_beatsInAir 17 = .ok (.aload_n 0, 1) := by decide +kernel
theorem dX3_beatsInAir_18 : decode cX3_beatsInAir 18 = .ok (.getfield 21, 3) := by decide +kernel
theorem dX3_beatsInAir_21 : decode cX3_beatsInAir 21 = .ok (.iconst 2, 1) := by decide +kernel
theorem dX3_beatsInAir_22 : decode cX3_beatsInAir 22 = .ok (.if_icmp .ne 12, 3) := by decide +kernel
theorem dX3_beatsInAir_25 : decode cX3_beatsInAir 25 = .ok (.iload_n 1, 1) := by decide +kernel
theorem dX3_beatsInAir_26 : decode cX3_beatsInAir 26 = .ok (.iconst 5, 1) := by decide +kernel
theorem dX3_beatsInAir_27 : decode cX3_beatsInAir 27 = .ok (.if_icmp .lt 7, 3) := by decide +kernel
theorem dX3_beatsInAir_30 : decode cX3_beatsInAir 30 = .ok (.iload_n 1, 1) := by decide +kernel
theorem dX3_beatsInAir_31 : decode cX3_beatsInAir 31 = .ok (.iconst 1, 1) := by decide +kernel
theorem dX3_beatsInAir_32 : decode cX3_beatsInAir 32 = .ok (.iadd, 1) := by decide +kernel
theorem dX3_beatsInAir_33 : decode cX3_beatsInAir 33 = .ok (.ireturn, 1) := by decide +kernel
theorem dX3_beatsInAir_34 : decode cX3_beatsInAir 34 = .ok (.iload_n 1, 1) := by decide +kernel
theorem dX3_beatsInAir_35 : decode cX3_beatsInAir 35 = .ok (.ireturn, 1) := by decide +kernel
theorem dX3_fly_0 : decode cX3_fly 0 = .ok (.aload_n 0, 1) := by decide +kernel
theorem dX3_fly_1 : decode cX3_fly 1 = .ok (.iconst 2, 1) := by decide +kernel
theorem dX3_fly_2 : decode cX3_fly 2 = .ok (.putfield 9, 3) := by decide +kernel
theorem dX3_fly_5 : decode cX3_fly 5 = .ok (.aload_n 0, 1) := by decide +kernel
theorem dX3_fly_6 : decode cX3_fly 6 = .ok (.iload_n 1, 1) := by decide +kernel
theorem dX3_fly_7 : decode cX3_fly 7 = .ok (.putfield 15, 3) := by decide +kernel
theorem dX3_fly_10 : decode cX3_fly 10 = .ok (.aload_n 0, 1) := by decide +kernel
theorem dX3_fly_11 : decode cX3_fly 11 = .ok (.iconst (-1), 1) := by decide +kernel
theorem dX3_fly_12 : decode cX3_fly 12 = .ok (.putfield 18, 3) := by decide +kernel
theorem dX3_fly_15 : decode cX3_fly 15 = .ok (.aload_n 0, 1) := by decide +kernel
theorem dX3_fly_16 : decode cX3_fly 16 = .ok (.iload_n 2, 1) := by decide +kernel
theorem dX3_fly_17 : decode cX3_fly 17 = .ok (.putfield 27, 3) := by decide +kernel
theorem dX3_fly_20 : decode cX3_fly 20 = .ok (.aload_n 0, 1) := by decide +kernel
theorem dX3_fly_21 : decode cX3_fly 21 = .ok (.iload_n 3, 1) := by decide +kernel
theorem dX3_fly_22 : decode cX3_fly 22 = .ok (.aload_n 0, 1) := by decide +kernel
theorem dX3_fly_23 : decode cX3_fly 23 = .ok (.iload_n 2, 1) := by decide +kernel
theorem dX3_fly_24 : decode cX3_fly 24 = .ok (.invokevirtual 36, 3) := by decide +kernel
theorem dX3_fly_27 : decode cX3_fly 27 = .ok (.iadd, 1) := by decide +kernel
theorem dX3_fly_28 : decode cX3_fly 28 = .ok (.putfield 24, 3) := by decide +kernel
theorem dX3_fly_31 : decode cX3_fly 31 = .ok (.aload_n 0, 1) := by decide +kernel
theorem dX3_fly_32 : decode cX3_fly 32 = .ok (.dup, 1) := by decide +kernel
theorem dX3_fly_33 : decode cX3_fly 33 = .ok (.getfield 30, 3) := by decide +kernel
theorem dX3_fly_36 : decode cX3_fly 36 = .ok (.iconst 1, 1) := by decide +kernel
theorem dX3_fly_37 : decode cX3_fly 37 = .ok (.iadd, 1) := by decide +kernel
theorem dX3_fly_38 : decode cX3_fly 38 = .ok (.putfield 30, 3) := by decide +kernel
theorem dX3_fly_41 : decode cX3_fly 41 = .ok (.return_, 1) := by decide +kernel
theorem dX3_fall_0 : decode cX3_fall 0 = .ok (.aload_n 0, 1) := by decide +kernel
theorem dX3_fall_1 : decode cX3_fall 1 = .ok (.aload_n 0, 1) := by decide +kernel
theorem dX3_fall_2 : decode cX3_fall 2 = .ok (.getfield 21, 3) := by decide +kernel
theorem dX3_fall_5 : decode cX3_fall 5 = .ok (.iconst 2, 1) := by decide +kernel
theorem dX3_fall_6 : decode cX3_fall 6 = .ok (.if_icmp .ne 7, 3) := by decide +kernel
theorem dX3_fall_9 : decode cX3_fall 9 = .ok (.iconst 3, 1) := by decide +kernel
theorem dX3_fall_10 : decode cX3_fall 10 = .ok (.goto 4, 3) := by decide +kernel
theorem dX3_fall_13 : decode cX3_fall 13 = .ok (.iconst 0, 1) := by decide +kernel
theorem dX3_fall_14 : decode cX3_fall 14 = .ok (.putfield 9, 3) := by decide +kernel
theorem dX3_fall_17 : decode cX3_fall 17 = .ok (.aload_n 0, 1) := by decide +kernel
theorem dX3_fall_18 : decode cX3_fall 18 = .ok (.iconst (-1), 1) := by decide +kernel
theorem dX3_fall_19 : decode cX3_fall 19 = .ok (.putfield 15, 3) := by decide +kernel
theorem dX3_fall_22 : decode cX3_fall 22 = .ok (.aload_n 0, 1) := by decide +kernel
theorem dX3_fall_23 : decode cX3_fall 23 = .ok (.dup, 1) := by decide +kernel
theorem dX3_fall_24 : decode cX3_fall 24 = .ok (.getfield 33, 3) := by decide +kernel
theorem dX3_fall_27 : decode cX3_fall 27 = .ok (.iconst 1, 1) := by decide +kernel
theorem dX3_fall_28 : decode cX3_fall 28 = .ok (.iadd, 1) := by decide +kernel
theorem dX3_fall_29 : decode cX3_fall 29 = .ok (.putfield 33, 3) := by decide +kernel
theorem dX3_fall_32 : decode cX3_fall 32 = .ok (.return_, 1) := by decide +kernel
theorem dJ9_floorMod_7cf53_0 : decode cJ9_floorMod_7cf53 0 = .ok (.iload_n 0, 1) := by decide +kernel
theorem dJ9_floorMod_7cf53_1 : decode cJ9_floorMod_7cf53 1 = .ok (.iload_n 1, 1) := by decide +kernel
theorem dJ9_floorMod_7cf53_2 : decode cJ9_floorMod_7cf53 2 = .ok (.irem, 1) := by decide +kernel
theorem dJ9_floorMod_7cf53_3 : decode cJ9_floorMod_7cf53 3 = .ok (.istore_n 2, 1) := by decide +kernel
theorem dJ9_floorMod_7cf53_4 : decode cJ9_floorMod_7cf53 4 = .ok (.iload_n 0, 1) := by decide +kernel
theorem dJ9_floorMod_7cf53_5 : decode cJ9_floorMod_7cf53 5 = .ok (.iload_n 1, 1) := by decide +kernel
theorem dJ9_floorMod_7cf53_6 : decode cJ9_floorMod_7cf53 6 = .ok (.ixor, 1) := by decide +kernel
theorem dJ9_floorMod_7cf53_7 : decode cJ9_floorMod_7cf53 7 = .ok (.ifCond .ge 11, 3) := by decide +kernel
theorem dJ9_floorMod_7cf53_10 : decode cJ9_floorMod_7cf53 10 = .ok (.iload_n 2, 1) := by decide +kernel
theorem dJ9_floorMod_7cf53_11 : decode cJ9_floorMod_7cf53 11 = .ok (.ifCond .eq 7, 3) := by decide +kernel
theorem dJ9_floorMod_7cf53_14 : decode cJ9_floorMod_7cf53 14 = .ok (.iload_n 2, 1) := by decide +kernel
theorem dJ9_floorMod_7cf53_15 : decode cJ9_floorMod_7cf53 15 = .ok (.iload_n 1, 1) := by decide +kernel
theorem dJ9_floorMod_7cf53_16 : decode cJ9_floorMod_7cf53 16 = .ok (.iadd, 1) := by decide +kernel
theorem dJ9_floorMod_7cf53_17 : decode cJ9_floorMod_7cf53 17 = .ok (.ireturn, 1) := by decide +kernel
theorem dJ9_floorMod_7cf53_18 : decode cJ9_floorMod_7cf53 18 = .ok (.iload_n 2, 1) := by decide +kernel
theorem dJ9_floorMod_7cf53_19 : decode cJ9_floorMod_7cf53 19 = .ok (.ireturn, 1) := by decide +kernel
end
section
theorem dX2_init_0 : decode cX2_init 0 = .ok (.aload_n 0, 1) := by decide +kernel
theorem dX2_init_1 : decode cX2_init 1 = .ok (.invokespecial 3, 3) := by decide +kernel
theorem dX2_init_4 : decode cX2_init 4 = .ok (.aload_n 0, 1) := by decide +kernel
theorem dX2_init_5 : decode cX2_init 5 = .ok (.iconst 4, 1) := by decide +kernel
theorem dX2_init_6 : decode cX2_init 6 = .ok (.anewarray 9, 3) := by decide +kernel
theorem dX2_init_9 : decode cX2_init 9 = .ok (.putfield 11, 3) := by decide +kernel
theorem dX2_init_12 : decode cX2_init 12 = .ok (.iconst 0, 1) := by decide +kernel
theorem dX2_init_13 : decode cX2_init 13 = .ok (.istore_n 1, 1) := by decide +kernel
theorem dX2_init_14 : decode cX2_init 14 = .ok (.iload_n 1, 1) := by decide +kernel
theorem dX2_init_15 : decode cX2_init 15 = .ok (.iconst 4, 1) := by decide +kernel
theorem dX2_init_16 : decode cX2_init 16 = .ok (.if_icmp .ge 22, 3) := by decide +kernel
theorem dX2_init_19 : decode cX2_init 19 = .ok (.aload_n 0, 1) := by decide +kernel
theorem dX2_init_20 : decode cX2_init 20 = .ok (.getfield 11, 3) := by decide +kernel
theorem dX2_init_23 : decode cX2_init 23 = .ok (.iload_n 1, 1) := by decide +kernel
theorem dX2_init_24 : decode cX2_init 24 = .ok (.new 9, 3) := by decide +kernel
theorem dX2_init_27 : decode cX2_init 27 = .ok (.dup, 1) := by decide +kernel
theorem dX2_init_28 : decode cX2_init 28 = .ok (.invokespecial 17, 3) := by decide +kernel
theorem dX2_init_31 : decode cX2_init 31 = .ok (.aastore, 1) := by decide +kernel
theorem dX2_init_32 : decode cX2_init 32 = .ok (.iinc 1 1, 3) := by decide +kernel
theorem dX2_init_35 : decode cX2_init 35 = .ok (.goto (-21), 3) := by decide +kernel
theorem dX2_init_38 : decode cX2_init 38 = .ok (.aload_n 0, 1) := by decide +kernel
theorem dX2_init_39 : decode cX2_init 39 = .ok (.bipush 12, 2) := by decide +kernel
theorem dX2_init_41 : decode cX2_init 41 = .ok (.anewarray 18, 3) := by decide +kernel
theorem dX2_init_44 : decode cX2_init 44 = .ok (.putfield 20, 3) := by decide +kernel
theorem dX2_init_47 : decode cX2_init 47 = .ok (.iconst 0, 1) := by decide +kernel
theorem dX2_init_48 : decode cX2_init 48 = .ok (.istore_n 1, 1) := by decide +kernel
theorem dX2_init_49 : decode cX2_init 49 = .ok (.iload_n 1, 1) := by decide +kernel
theorem dX2_init_50 : decode cX2_init 50 = .ok (.bipush 12, 2) := by decide +kernel
theorem dX2_init_52 : decode cX2_init 52 = .ok (.if_icmp .ge 22, 3) := by decide +kernel
theorem dX2_init_55 : decode cX2_init 55 = .ok (.aload_n 0, 1) := by decide +kernel
theorem dX2_init_56 : decode cX2_init 56 = .ok (.getfield 20, 3) := by decide +kernel
theorem dX2_init_59 : decode cX2_init 59 = .ok (.iload_n 1, 1) := by decide +kernel
theorem dX2_init_60 : decode cX2_init 60 = .ok (.new 18, 3) := by decide +kernel
theorem dX2_init_63 : decode cX2_init 63 = .ok (.dup, 1) := by decide +kernel
theorem dX2_init_64 : decode cX2_init 64 = .ok (.invokespecial 24, 3) := by decide +kernel
theorem dX2_init_67 : decode cX2_init 67 = .ok (.aastore, 1) := by decide +kernel
theorem dX2_init_68 : decode cX2_init 68 = .ok (.iinc 1 1, 3) := by decide +kernel
theorem dX2_init_71 : decode cX2_init 71 = .ok (.goto (-22), 3) := by decide +kernel
theorem dX2_init_74 : decode cX2_init 74 = .ok (.return_, 1) := by decide +kernel
theorem dX2_copyFrom_0 : decode cX2_copyFrom 0 = .ok (.aload_n 0, 1) := by decide +kernel
theorem dX2_copyFrom_1 : decode cX2_copyFrom 1 = .ok (.aload_n 1, 1) := by decide +kernel
theorem dX2_copyFrom_2 : decode cX2_copyFrom 2 = .ok (.getfield 25, 3) := by decide +kernel
theorem dX2_copyFrom_5 : decode cX2_copyFrom 5 = .ok (.putfield 25, 3) := by decide +kernel
theorem dX2_copyFrom_8 : decode cX2_copyFrom 8 = .ok (.aload_n 0, 1) := by decide +kernel
theorem dX2_copyFrom_9 : decode cX2_copyFrom 9 = .ok (.aload_n 1, 1) := by decide +kernel
theorem dX2_copyFrom_10 : decode cX2_copyFrom 10 = .ok (.getfield 29, 3) := by decide +kernel
theorem dX2_copyFrom_13 : decode cX2_copyFrom 13 = .ok (.putfield 29, 3) := by decide +kernel
theorem dX2_copyFrom_16 : decode cX2_copyFrom 16 = .ok (.aload_n 0, 1) := by decide +kernel
theorem dX2_copyFrom_17 : decode cX2_copyFrom 17 = .ok (.aload_n 1, 1) := by decide +kernel
theorem dX2_copyFrom_18 : decode cX2_copyFrom 18 = .ok (.getfield 32, 3) := by decide +kernel
theorem dX2_copyFrom_21 : decode cX2_copyFrom 21 = .ok (.putfield 32, 3) := by decide +kernel
theorem dX2_copyFrom_24 : decode cX2_copyFrom 24 = .ok (.iconst 0, 1) := by decide +kernel
theorem dX2_copyFrom_25 : decode cX2_copyFrom 25 = .ok (.istore_n 2, 1) := by decide +kernel
theorem dX2_copyFrom_26 : decode cX2_copyFrom 26 = .ok (.iload_n 2, 1) := by decide +kernel
theorem dX2_copyFrom_27 : decode cX2_copyFrom 27 = .ok (.aload_n 0, 1) := by decide +kernel
theorem dX2_copyFrom_28 : decode cX2_copyFrom 28 = .ok (.getfield 25, 3) := by decide +kernel
theorem dX2_copyFrom_31 : decode cX2_copyFrom 31 = .ok (.if_icmp .ge 24, 3) := by decide +kernel
theorem dX2_copyFrom_34 : decode cX2_copyFrom 34 = .ok (.aload_n 0, 1) := by decide +kernel
theorem dX2_copyFrom_35 : decode cX2_copyFrom 35 = .ok (.getfield 11, 3) := by decide +kernel
theorem dX2_copyFrom_38 : decode cX2_copyFrom 38 = .ok (.iload_n 2, 1) := by decide +kernel
theorem dX2_copyFrom_39 : decode cX2_copyFrom 39 = .ok (.aaload, 1) := by decide +kernel
theorem dX2_copyFrom_40 : decode cX2_copyFrom 40 = .ok (.aload_n 1, 1) := by decide +kernel
theorem dX2_copyFrom_41 : decode cX2_copyFrom 41 = .ok (.getfield 11, 3) := by decide +kernel
theorem dX2_copyFrom_44 : decode cX2_copyFrom 44 = .ok (.iload_n 2, 1) := by decide +kernel
theorem dX2_copyFrom_45 : decode cX2_copyFrom 45 = .ok (.aaload, 1) := by decide +kernel
theorem dX2_copyFrom_46 : decode cX2_copyFrom 46 = .ok (.invokevirtual 35, 3) := by decide +kernel
theorem dX2_copyFrom_49 : decode cX2_copyFrom 49 = .ok (.iinc 2 1, 3) := by decide +kernel
theorem dX2_copyFrom_52 : decode cX2_copyFrom 52 = .ok (.goto (-26), 3) := by decide +kernel
theorem dX2_copyFrom_55 : decode cX2_copyFrom 55 = .ok (.iconst 0, 1) := by decide +kernel
theorem dX2_copyFrom_56 : decode cX2_copyFrom 56 = .ok (.istore_n 2, 1) := by decide +kernel
theorem dX2_copyFrom_57 : decode cX2_copyFrom 57 = .ok (.iload_n 2, 1) := by decide +kernel
theorem dX2_copyFrom_58 : decode cX2_copyFrom 58 = .ok (.aload_n 0, 1) := by decide +kernel
theorem dX2_copyFrom_59 : decode cX2_copyFrom 59 = .ok (.getfield 29, 3) := by decide +kernel
theorem dX2_copyFrom_62 : decode cX2_copyFrom 62 = .ok (.if_icmp .ge 24, 3) := by decide +kernel
theorem dX2_copyFrom_65 : decode cX2_copyFrom 65 = .ok (.aload_n 0, 1) := by decide +kernel
theorem dX2_copyFrom_66 : decode cX2_copyFrom 66 = .ok (.getfield 20, 3) := by decide +kernel
theorem dX2_copyFrom_69 : decode cX2_copyFrom 69 = .ok (.iload_n 2, 1) := by decide +kernel
theorem dX2_copyFrom_70 : decode cX2_copyFrom 70 = .ok (.aaload, 1) := by decide +kernel
theorem dX2_copyFrom_71 : decode cX2_copyFrom 71 = .ok (.aload_n 1, 1) := by decide +kernel
theorem dX2_copyFrom_72 : decode cX2_copyFrom 72 = .ok (.getfield 20, 3) := by decide +kernel
theorem dX2_copyFrom_75 : decode cX2_copyFrom 75 = .ok (.iload_n 2, 1) := by decide +kernel
theorem dX2_copyFrom_76 : decode cX2_copyFrom 76 = .ok (.aaload, 1) := by decide +kernel
theorem dX2_copyFrom_77 : decode cX2_copyFrom 77 = .ok (.invokevirtual 39, 3) := by decide +kernel
theorem dX2_copyFrom_80 : decode cX2_copyFrom 80 = .ok (.iinc 2 1, 3) := by decide +kernel
theorem dX2_copyFrom_83 : decode cX2_copyFrom 83 = .ok (.goto (-26), 3) := by decide +kernel
theorem dX2_copyFrom_86 : decode cX2_copyFrom 86 = .ok (.return_, 1) := by decide +kernel
theorem dX2_hasJuggler_0 : decode cX2_hasJuggler 0 = .ok (.iload_n 1, 1) := by decide +kernel
theorem dX2_hasJuggler_1 : decode cX2_hasJuggler 1 = .ok (.ifCond .lt 15, 3) := by decide +kernel
theorem dX2_hasJuggler_4 : decode cX2_hasJuggler 4 = .ok (.iload_n 1, 1) := by decide +kernel
theorem dX2_hasJuggler_5 : decode cX2_hasJuggler 5 = .ok (.aload_n 0, 1) := by decide +kernel
theorem dX2_hasJuggler_6 : decode cX2_hasJuggler 6 = .ok (.getfield 25, 3) := by decide +kernel
theorem dX2_hasJuggler_9 : decode cX2_hasJuggler 9 = .ok (.if_icmp .ge 7, 3) := by decide +kernel
theorem dX2_hasJuggler_12 : decode cX2_hasJuggler 12 = .ok (.iconst 1, 1) := by decide +kernel
theorem dX2_hasJuggler_13 : decode cX2_hasJuggler 13 = .ok (.goto 4, 3) := by decide +kernel
theorem dX2_hasJuggler_16 : decode cX2_hasJuggler 16 = .ok (.iconst 0, 1) := by decide +kernel
theorem dX2_hasJuggler_17 : decode cX2_hasJuggler 17 = .ok (.ireturn, 1) := by decide +kernel
theorem dX2_hasThing_0 : decode cX2_hasThing 0 = .ok (.iload_n 1, 1) := by decide +kernel
theorem dX2_hasThing_1 : decode cX2_hasThing 1 = .ok (.ifCond .lt 15, 3) := by decide +kernel
theorem dX2_hasThing_4 : decode cX2_hasThing 4 = .ok (.iload_n 1, 1) := by decide +kernel
theorem dX2_hasThing_5 : decode cX2_hasThing 5 = .ok (.aload_n 0, 1) := by decide +kernel
theorem dX2_hasThing_6 : decode cX2_hasThing 6 = .ok (.getfield 29, 3) := by decide +kernel
theorem dX2_hasThing_9 : decode cX2_hasThing 9 = .ok (.if_icmp .ge 7, 3) := by decide +kernel
theorem dX2_hasThing_12 : decode cX2_hasThing 12 = .ok (.iconst 1, 1) := by decide +kernel
theorem dX2_hasThing_13 : decode cX2_hasThing 13 = .ok (.goto 4, 3) := by decide +kernel
theorem dX2_hasThing_16 : decode cX2_hasThing 16 = .ok (.iconst 0, 1) := by decide +kernel
theorem dX2_hasThing_17 : decode cX2_hasThing 17 = .ok (.ireturn, 1) := by decide +kernel
theorem dX2_addJuggler_0 : decode cX2_addJuggler 0 = .ok (.aload_n 0, 1) := by decide +kernel
theorem dX2_addJuggler_1 : decode cX2_addJuggler 1 = .ok (.getfield 25, 3) := by decide +kernel
theorem dX2_addJuggler_4 : decode cX2_addJuggler 4 = .ok (.istore_n 2, 1) := by decide +kernel
theorem dX2_addJuggler_5 : decode cX2_addJuggler 5 = .ok (.aload_n 0, 1) := by decide +kernel
theorem dX2_addJuggler_6 : decode cX2_addJuggler 6 = .ok (.getfield 11, 3) := by decide +kernel
theorem dX2_addJuggler_9 : decode cX2_addJuggler 9 = .ok (.iload_n 2, 1) := by decide +kernel
theorem dX2_addJuggler_10 : decode cX2_addJuggler 10 = .ok (.aaload, 1) := by decide +kernel
theorem dX2_addJuggler_11 : decode cX2_addJuggler 11 = .ok (.iload_n 1, 1) := by decide +kernel
theorem dX2_addJuggler_12 : decode cX2_addJuggler 12 = .ok (.putfield 42, 3) := by decide +kernel
theorem dX2_addJuggler_15 : decode cX2_addJuggler 15 = .ok (.aload_n 0, 1) := by decide +kernel
theorem dX2_addJuggler_16 : decode cX2_addJuggler 16 = .ok (.getfield 11, 3) := by decide +kernel
theorem dX2_addJuggler_19 : decode cX2_addJuggler 19 = .ok (.iload_n 2, 1) := by decide +kernel
theorem dX2_addJuggler_20 : decode cX2_addJuggler 20 = .ok (.aaload, 1) := by decide +kernel
theorem dX2_addJuggler_21 : decode cX2_addJuggler 21 = .ok (.getfield 45, 3) := by decide +kernel
theorem dX2_addJuggler_24 : decode cX2_addJuggler 24 = .ok (.iload_n 2, 1) := by decide +kernel
theorem dX2_addJuggler_25 : decode cX2_addJuggler 25 = .ok (.iconst 1, 1) := by decide +kernel
theorem dX2_addJuggler_26 : decode cX2_addJuggler 26 = .ok (.iconst 0, 1) := by decide +kernel
theorem dX2_addJuggler_27 : decode cX2_addJuggler 27 = .ok (.invokevirtual 49, 3) := by decide +kernel
theorem dX2_addJuggler_30 : decode cX2_addJuggler 30 = .ok (.aload_n 0, 1) := by decide +kernel
theorem dX2_addJuggler_31 : decode cX2_addJuggler 31 = .ok (.dup, 1) := by decide +kernel
theorem dX2_addJuggler_32 : decode cX2_addJuggler 32 = .ok (.getfield 25, 3) := by decide +kernel
theorem dX2_addJuggler_35 : decode cX2_addJuggler 35 = .ok (.iconst 1, 1) := by decide +kernel
theorem dX2_addJuggler_36 : decode cX2_addJuggler 36 = .ok (.iadd, 1) := by decide +kernel
theorem dX2_addJuggler_37 : decode cX2_addJuggler 37 = .ok (.putfield 25, 3) := by decide +kernel
theorem dX2_addJuggler_40 : decode cX2_addJuggler 40 = .ok (.iload_n 2, 1) := by decide +kernel
theorem dX2_addJuggler_41 : decode cX2_addJuggler 41 = .ok (.ireturn, 1) := by decide +kernel
theorem dX2_addThing_0 : decode cX2_addThing 0 = .ok (.aload_n 0, 1) := by decide +kernel
theorem dX2_addThing_1 : decode cX2_addThing 1 = .ok (.getfield 29, 3) := by decide +kernel
theorem dX2_addThing_4 : decode cX2_addThing 4 = .ok (.istore_n 2, 1) := by decide +kernel
theorem dX2_addThing_5 : decode cX2_addThing 5 = .ok (.aload_n 0, 1) := by decide +kernel
theorem dX2_addThing_6 : decode cX2_addThing 6 = .ok (.getfield 20, 3) := by decide +kernel
theorem dX2_addThing_9 : decode cX2_addThing 9 = .ok (.iload_n 2, 1) := by decide +kernel
theorem dX2_addThing_10 : decode cX2_addThing 10 = .ok (.aaload, 1) := by decide +kernel
theorem dX2_addThing_11 : decode cX2_addThing 11 = .ok (.iload_n 1, 1) := by decide +kernel
theorem dX2_addThing_12 : decode cX2_addThing 12 = .ok (.putfield 55, 3) := by decide +kernel
theorem dX2_addThing_15 : decode cX2_addThing 15 = .ok (.aload_n 0, 1) := by decide +kernel
theorem dX2_addThing_16 : decode cX2_addThing 16 = .ok (.dup, 1) := by decide +kernel
theorem dX2_addThing_17 : decode cX2_addThing 17 = .ok (.getfield 29, 3) := by decide +kernel
theorem dX2_addThing_20 : decode cX2_addThing 20 = .ok (.iconst 1, 1) := by decide +kernel
theorem dX2_addThing_21 : decode cX2_addThing 21 = .ok (.iadd, 1) := by decide +kernel
theorem dX2_addThing_22 : decode cX2_addThing 22 = .ok (.putfield 29, 3) := by decide +kernel
theorem dX2_addThing_25 : decode cX2_addThing 25 = .ok (.iload_n 2, 1) := by decide +kernel
theorem dX2_addThing_26 : decode cX2_addThing 26 = .ok (.ireturn, 1) := by decide +kernel
theorem dX2_putIntoHand_0 : decode cX2_putIntoHand 0 = .ok (.aload_n 0, 1) := by decide +kernel
theorem dX2_putIntoHand_1 : decode cX2_putIntoHand 1 = .ok (.getfield 11, 3) := by decide +kernel
theorem dX2_putIntoHand_4 : decode cX2_putIntoHand 4 = .ok (.iload_n 2, 1) := by decide +kernel
theorem dX2_putIntoHand_5 : decode cX2_putIntoHand 5 = .ok (.aaload, 1) := by decide +kernel
theorem dX2_putIntoHand_6 : decode cX2_putIntoHand 6 = .ok (.getfield 58, 3) := by decide +kernel
theorem dX2_putIntoHand_9 : decode cX2_putIntoHand 9 = .ok (.iload_n 3, 1) := by decide +kernel
theorem dX2_putIntoHand_10 : decode cX2_putIntoHand 10 = .ok (.iload_n 1, 1) := by decide +kernel
theorem dX2_putIntoHand_11 : decode cX2_putIntoHand 11 = .ok (.iastore, 1) := by decide +kernel
theorem dX2_putIntoHand_12 : decode cX2_putIntoHand 12 = .ok (.aload_n 0, 1) := by decide +kernel
theorem dX2_putIntoHand_13 : decode cX2_putIntoHand 13 = .ok (.getfield 20, 3) := by decide +kernel
theorem dX2_putIntoHand_16 : decode cX2_putIntoHand 16 = .ok (.iload_n 1, 1) := by decide +kernel
theorem dX2_putIntoHand_17 : decode cX2_putIntoHand 17 = .ok (.aaload, 1) := by decide +kernel
theorem dX2_putIntoHand_18 : decode cX2_putIntoHand 18 = .ok (.astore 4, 2) := by decide +kernel
theorem dX2_putIntoHand_20 : decode cX2_putIntoHand 20 = .ok (.aload 4, 2) := by decide +kernel
theorem dX2_putIntoHand_22 : decode cX2_putIntoHand 22 = .ok (.iconst 1, 1) := by decide +kernel
theorem dX2_putIntoHand_23 : decode cX2_putIntoHand 23 = .ok (.putfield 62, 3) := by decide +kernel
theorem dX2_putIntoHand_26 : decode cX2_putIntoHand 26 = .ok (.aload 4, 2) := by decide +kernel
theorem dX2_putIntoHand_28 : decode cX2_putIntoHand 28 = .ok (.iload_n 2, 1) := by decide +kernel
theorem dX2_putIntoHand_29 : decode cX2_putIntoHand 29 = .ok (.putfield 65, 3) := by decide +kernel
theorem dX2_putIntoHand_32 : decode cX2_putIntoHand 32 = .ok (.aload 4, 2) := by decide +kernel
theorem dX2_putIntoHand_34 : decode cX2_putIntoHand 34 = .ok (.iload_n 3, 1) := by decide +kernel
theorem dX2_putIntoHand_35 : decode cX2_putIntoHand 35 = .ok (.putfield 68, 3) := by decide +kernel
theorem dX2_putIntoHand_38 : decode cX2_putIntoHand 38 = .ok (.return_, 1) := by decide +kernel
theorem dX2_play_0 : decode cX2_play 0 = .ok (.iconst 0, 1) := by decide +kernel
theorem dX2_play_1 : decode cX2_play 1 = .ok (.istore_n 2, 1) := by decide +kernel
theorem dX2_play_2 : decode cX2_play 2 = .ok (.iconst 0, 1) := by decide +kernel
theorem dX2_play_3 : decode cX2_play 3 = .ok (.istore_n 3, 1) := by decide +kernel
theorem dX2_play_4 : decode cX2_play 4 = .ok (.iload_n 3, 1) := by decide +kernel
theorem dX2_play_5 : decode cX2_play 5 = .ok (.iload_n 1, 1) := by decide +kernel
theorem dX2_play_6 : decode cX2_play 6 = .ok (.if_icmp .ge 16, 3) := by decide +kernel
theorem dX2_play_9 : decode cX2_play 9 = .ok (.iload_n 2, 1) := by decide +kernel
theorem dX2_play_10 : decode cX2_play 10 = .ok (.aload_n 0, 1) := by decide +kernel
theorem dX2_play_11 : decode cX2_play 11 = .ok (.invokevirtual 71, 3) := by decide +kernel
theorem dX2_play_14 : decode cX2_play 14 = .ok (.iadd, 1) := by decide +kernel
theorem dX2_play_15 : decode cX2_play 15 = .ok (.istore_n 2, 1) := by decide +kernel
theorem dX2_play_16 : decode cX2_play 16 = .ok (.iinc 3 1, 3) := by decide +kernel
theorem dX2_play_19 : decode cX2_play 19 = .ok (.goto (-15), 3) := by decide +kernel
theorem dX2_play_22 : decode cX2_play 22 = .ok (.iload_n 2, 1) := by decide +kernel
theorem dX2_play_23 : decode cX2_play 23 = .ok (.ireturn, 1) := by decide +kernel
theorem dX2_playBeat_0 : decode cX2_playBeat 0 = .ok (.aload_n 0, 1) := by decide +kernel
theorem dX2_playBeat_1 : decode cX2_playBeat 1 = .ok (.getfield 32, 3) := by decide +kernel
theorem dX2_playBeat_4 : decode cX2_playBeat 4 = .ok (.iconst 1, 1) := by decide +kernel
theorem dX2_playBeat_5 : decode cX2_playBeat 5 = .ok (.iand, 1) := by decide +kernel
theorem dX2_playBeat_6 : decode cX2_playBeat 6 = .ok (.istore_n 1, 1) := by decide +kernel
theorem dX2_playBeat_7 : decode cX2_playBeat 7 = .ok (.aload_n 0, 1) := by decide +kernel
theorem dX2_playBeat_8 : decode cX2_playBeat 8 = .ok (.iload_n 1, 1) := by decide +kernel
theorem dX2_playBeat_9 : decode cX2_playBeat 9 = .ok (.invokevirtual 75, 3) := by decide +kernel
theorem dX2_playBeat_12 : decode cX2_playBeat 12 = .ok (.istore_n 2, 1) := by decide +kernel
theorem dX2_playBeat_13 : decode cX2_playBeat 13 = .ok (.iconst 0, 1) := by decide +kernel
theorem dX2_playBeat_14 : decode cX2_playBeat 14 = .ok (.istore_n 3, 1) := by decide +kernel
theorem dX2_playBeat_15 : decode cX2_playBeat 15 = .ok (.iload_n 3, 1) := by decide +kernel
theorem dX2_playBeat_16 : decode cX2_playBeat 16 = .ok (.aload_n 0, 1) := by decide +kernel
theorem dX2_playBeat_17 : decode cX2_playBeat 17 = .ok (.getfield 25, 3) := by decide +kernel
theorem dX2_playBeat_20 : decode cX2_playBeat 20 = .ok (.if_icmp .ge 20, 3) := by decide +kernel
theorem dX2_playBeat_23 : decode cX2_playBeat 23 = .ok (.aload_n 0, 1) := by decide +kernel
theorem dX2_playBeat_24 : decode cX2_playBeat 24 = .ok (.aload_n 0, 1) := by decide +kernel
theorem dX2_playBeat_25 : decode cX2_playBeat 25 = .ok (.getfield 11, 3) := by decide +kernel
theorem dX2_playBeat_28 : decode cX2_playBeat 28 = .ok (.iload_n 3, 1) := by decide +kernel
theorem dX2_playBeat_29 : decode cX2_playBeat 29 = .ok (.aaload, 1) := by decide +kernel
theorem dX2_playBeat_30 : decode cX2_playBeat 30 = .ok (.iload_n 1, 1) := by decide +kernel
theorem dX2_playBeat_31 : decode cX2_playBeat 31 = .ok (.invokevirtual 79, 3) := by decide +kernel
theorem dX2_playBeat_34 : decode cX2_playBeat 34 = .ok (.iinc 3 1, 3) := by decide +kernel
theorem dX2_playBeat_37 : decode cX2_playBeat 37 = .ok (.goto (-22), 3) := by decide +kernel
theorem dX2_playBeat_40 : decode cX2_playBeat 40 = .ok (.aload_n 0, 1) := by decide +kernel
theorem dX2_playBeat_41 : decode cX2_playBeat 41 = .ok (.dup, 1) := by decide +kernel
theorem dX2_playBeat_42 : decode cX2_playBeat 42 = .ok (.getfield 32, 3) := by decide +kernel
theorem dX2_playBeat_45 : decode cX2_playBeat 45 = .ok (.iconst 1, 1) := by decide +kernel
theorem dX2_playBeat_46 : decode cX2_playBeat 46 = .ok (.iadd, 1) := by decide +kernel
theorem dX2_playBeat_47 : decode cX2_playBeat 47 = .ok (.putfield 32, 3) := by decide +kernel
theorem dX2_playBeat_50 : decode cX2_playBeat 50 = .ok (.iload_n 2, 1) := by decide +kernel
theorem dX2_playBeat_51 : decode cX2_playBeat 51 = .ok (.ireturn, 1) := by decide +kernel
theorem dX2_comeDown_0 : decode cX2_comeDown 0 = .ok (.iconst 0, 1) := by decide +kernel
theorem dX2_comeDown_1 : decode cX2_comeDown 1 = .ok (.istore_n 2, 1) := by decide +kernel
theorem dX2_comeDown_2 : decode cX2_comeDown 2 = .ok (.iconst 0, 1) := by decide +kernel
theorem dX2_comeDown_3 : decode cX2_comeDown 3 = .ok (.istore_n 3, 1) := by decide +kernel
theorem dX2_comeDown_4 : decode cX2_comeDown 4 = .ok (.iload_n 3, 1) := by decide +kernel
theorem dX2_comeDown_5 : decode cX2_comeDown 5 = .ok (.aload_n 0, 1) := by decide +kernel
theorem dX2_comeDown_6 : decode cX2_comeDown 6 = .ok (.getfield 29, 3) := by decide +kernel
theorem dX2_comeDown_9 : decode cX2_comeDown 9 = .ok (.if_icmp .ge 106, 3) := by decide +kernel
theorem dX2_comeDown_12 : decode cX2_comeDown 12 = .ok (.aload_n 0, 1) := by decide +kernel
theorem dX2_comeDown_13 : decode cX2_comeDown 13 = .ok (.getfield 20, 3) := by decide +kernel
theorem dX2_comeDown_16 : decode cX2_comeDown 16 = .ok (.iload_n 3, 1) := by decide +kernel
theorem dX2_comeDown_17 : decode cX2_comeDown 17 = .ok (.aaload, 1) := by decide +kernel
theorem dX2_comeDown_18 : decode cX2_comeDown 18 = .ok (.astore 4, 2) := by decide +kernel
theorem dX2_comeDown_20 : decode cX2_comeDown 20 = .ok (.aload 4, 2) := by decide +kernel
theorem dX2_comeDown_22 : decode cX2_comeDown 22 = .ok (.getfield 65, 3) := by decide +kernel
theorem dX2_comeDown_25 : decode cX2_comeDown 25 = .ok (.istore 5, 2) := by decide +kernel
theorem dX2_comeDown_27 : decode cX2_comeDown 27 = .ok (.aload 4, 2) := by decide +kernel
theorem dX2_comeDown_29 : decode cX2_comeDown 29 = .ok (.aload_n 0, 1) := by decide +kernel
theorem dX2_comeDown_30 : decode cX2_comeDown 30 = .ok (.getfield 32, 3) := by decide +kernel
theorem dX2_comeDown_33 : decode cX2_comeDown 33 = .ok (.invokevirtual 83, 3) := by decide +kernel
theorem dX2_comeDown_36 : decode cX2_comeDown 36 = .ok (.ifCond .eq 73, 3) := by decide +kernel
theorem dX2_comeDown_39 : decode cX2_comeDown 39 = .ok (.aload_n 0, 1) := by decide +kernel
theorem dX2_comeDown_40 : decode cX2_comeDown 40 = .ok (.iload 5, 2) := by decide +kernel
theorem dX2_comeDown_42 : decode cX2_comeDown 42 = .ok (.invokevirtual 87, 3) := by decide +kernel
theorem dX2_comeDown_45 : decode cX2_comeDown 45 = .ok (.ifCond .eq 64, 3) := by decide +kernel
theorem dX2_comeDown_48 : decode cX2_comeDown 48 = .ok (.aload_n 0, 1) := by decide +kernel
theorem dX2_comeDown_49 : decode cX2_comeDown 49 = .ok (.getfield 11, 3) := by decide +kernel
theorem dX2_comeDown_52 : decode cX2_comeDown 52 = .ok (.iload 5, 2) := by decide +kernel
theorem dX2_comeDown_54 : decode cX2_comeDown 54 = .ok (.aaload, 1) := by decide +kernel
theorem dX2_comeDown_55 : decode cX2_comeDown 55 = .ok (.aload 4, 2) := by decide +kernel
theorem dX2_comeDown_57 : decode cX2_comeDown 57 = .ok (.getfield 90, 3) := by decide +kernel
theorem dX2_comeDown_60 : decode cX2_comeDown 60 = .ok (.iload_n 1, 1) := by decide +kernel
theorem dX2_comeDown_61 : decode cX2_comeDown 61 = .ok (.invokevirtual 93, 3) := by decide +kernel
theorem dX2_comeDown_64 : decode cX2_comeDown 64 = .ok (.ifCond .eq 30, 3) := by decide +kernel
theorem dX2_comeDown_67 : decode cX2_comeDown 67 = .ok (.aload_n 0, 1) := by decide +kernel
theorem dX2_comeDown_68 : decode cX2_comeDown 68 = .ok (.iload_n 3, 1) := by decide +kernel
theorem dX2_comeDown_69 : decode cX2_comeDown 69 = .ok (.iload 5, 2) := by decide +kernel
theorem dX2_comeDown_71 : decode cX2_comeDown 71 = .ok (.iload_n 1, 1) := by decide +kernel
theorem dX2_comeDown_72 : decode cX2_comeDown 72 = .ok (.invokevirtual 97, 3) := by decide +kernel
theorem dX2_comeDown_75 : decode cX2_comeDown 75 = .ok (.aload_n 0, 1) := by decide +kernel
theorem dX2_comeDown_76 : decode cX2_comeDown 76 = .ok (.getfield 11, 3) := by decide +kernel
theorem dX2_comeDown_79 : decode cX2_comeDown 79 = .ok (.iload 5, 2) := by decide +kernel
theorem dX2_comeDown_81 : decode cX2_comeDown 81 = .ok (.aaload, 1) := by decide +kernel
theorem dX2_comeDown_82 : decode cX2_comeDown 82 = .ok (.dup, 1) := by decide +kernel
theorem dX2_comeDown_83 : decode cX2_comeDown 83 = .ok (.getfield 100, 3) := by decide +kernel
theorem dX2_comeDown_86 : decode cX2_comeDown 86 = .ok (.iconst 1, 1) := by decide +kernel
theorem dX2_comeDown_87 : decode cX2_comeDown 87 = .ok (.iadd, 1) := by decide +kernel
theorem dX2_comeDown_88 : decode cX2_comeDown 88 = .ok (.putfield 100, 3) := by decide +kernel
theorem dX2_comeDown_91 : decode cX2_comeDown 91 = .ok (.goto 18, 3) := by decide +kernel
theorem dX2_comeDown_94 : decode cX2_comeDown 94 = .ok (.aload_n 0, 1) := by decide +kernel
theorem dX2_comeDown_95 : decode cX2_comeDown 95 = .ok (.getfield 11, 3) := by decide +kernel
theorem dX2_comeDown_98 : decode cX2_comeDown 98 = .ok (.iload 5, 2) := by decide +kernel
theorem dX2_comeDown_100 : decode cX2_comeDown 100 = .ok (.aaload, 1) := by decide +kernel
theorem dX2_comeDown_101 : decode cX2_comeDown 101 = .ok (.aload 4, 2) := by decide +kernel
theorem dX2_comeDown_103 : decode cX2_comeDown 103 = .ok (.invokevirtual 103, 3) := by decide +kernel
theorem dX2_comeDown_106 : decode cX2_comeDown 106 = .ok (.iinc 2 1, 3) := by decide +kernel
theorem dX2_comeDown_109 : decode cX2_comeDown 109 = .ok (.iinc 3 1, 3) := by decide +kernel
theorem dX2_comeDown_112 : decode cX2_comeDown 112 = .ok (.goto (-108), 3) := by decide +kernel
theorem dX2_comeDown_115 : decode cX2_comeDown 115 = .ok (.iload_n 2, 1) := by decide +kernel
theorem dX2_comeDown_116 : decode cX2_comeDown 116 = .ok (.ireturn, 1) := by decide +kernel
theorem dX2_throwFrom_0 : decode cX2_throwFrom 0 = .ok (.aload_n 1, 1) := by decide +kernel
theorem dX2_throwFrom_1 : decode cX2_throwFrom 1 = .ok (.getfield 58, 3) := by decide +kernel
theorem dX2_throwFrom_4 : decode cX2_throwFrom 4 = .ok (.iload_n 2, 1) := by decide +kernel
theorem dX2_throwFrom_5 : decode cX2_throwFrom 5 = .ok (.iaload, 1) := by decide +kernel
theorem dX2_throwFrom_6 : decode cX2_throwFrom 6 = .ok (.istore_n 3, 1) := by decide +kernel
theorem dX2_throwFrom_7 : decode cX2_throwFrom 7 = .ok (.aload_n 1, 1) := by decide +kernel
theorem dX2_throwFrom_8 : decode cX2_throwFrom 8 = .ok (.getfield 45, 3) := by decide +kernel
theorem dX2_throwFrom_11 : decode cX2_throwFrom 11 = .ok (.aload_n 0, 1) := by decide +kernel
theorem dX2_throwFrom_12 : decode cX2_throwFrom 12 = .ok (.getfield 32, 3) := by decide +kernel
theorem dX2_throwFrom_15 : decode cX2_throwFrom 15 = .ok (.invokevirtual 106, 3) := by decide +kernel
theorem dX2_throwFrom_18 : decode cX2_throwFrom 18 = .ok (.istore 4, 2) := by decide +kernel
theorem dX2_throwFrom_20 : decode cX2_throwFrom 20 = .ok (.aload_n 1, 1) := by decide +kernel
theorem dX2_throwFrom_21 : decode cX2_throwFrom 21 = .ok (.getfield 45, 3) := by decide +kernel
theorem dX2_throwFrom_24 : decode cX2_throwFrom 24 = .ok (.getfield 109, 3) := by decide +kernel
theorem dX2_throwFrom_27 : decode cX2_throwFrom 27 = .ok (.iload 4, 2) := by decide +kernel
theorem dX2_throwFrom_29 : decode cX2_throwFrom 29 = .ok (.iaload, 1) := by decide +kernel
theorem dX2_throwFrom_30 : decode cX2_throwFrom 30 = .ok (.istore 5, 2) := by decide +kernel
theorem dX2_throwFrom_32 : decode cX2_throwFrom 32 = .ok (.aload_n 0, 1) := by decide +kernel
theorem dX2_throwFrom_33 : decode cX2_throwFrom 33 = .ok (.iload_n 3, 1) := by decide +kernel
theorem dX2_throwFrom_34 : decode cX2_throwFrom 34 = .ok (.invokevirtual 112, 3) := by decide +kernel
theorem dX2_throwFrom_37 : decode cX2_throwFrom 37 = .ok (.ifCond .eq 40, 3) := by decide +kernel
theorem dX2_throwFrom_40 : decode cX2_throwFrom 40 = .ok (.iload 5, 2) := by decide +kernel
theorem dX2_throwFrom_42 : decode cX2_throwFrom 42 = .ok (.ifCond .le 35, 3) := by decide +kernel
theorem dX2_throwFrom_45 : decode cX2_throwFrom 45 = .ok (.aload_n 0, 1) := by decide +kernel
theorem dX2_throwFrom_46 : decode cX2_throwFrom 46 = .ok (.getfield 20, 3) := by decide +kernel
theorem dX2_throwFrom_49 : decode cX2_throwFrom 49 = .ok (.iload_n 3, 1) := by decide +kernel
theorem dX2_throwFrom_50 : decode cX2_throwFrom 50 = .ok (.aaload, 1) := by decide +kernel
theorem dX2_throwFrom_51 : decode cX2_throwFrom 51 = .ok (.aload_n 1, 1) := by decide +kernel
theorem dX2_throwFrom_52 : decode cX2_throwFrom 52 = .ok (.getfield 45, 3) := by decide +kernel
theorem dX2_throwFrom_55 : decode cX2_throwFrom 55 = .ok (.getfield 115, 3) := by decide +kernel
theorem dX2_throwFrom_58 : decode cX2_throwFrom 58 = .ok (.iload 4, 2) := by decide +kernel
theorem dX2_throwFrom_60 : decode cX2_throwFrom 60 = .ok (.iaload, 1) := by decide +kernel
theorem dX2_throwFrom_61 : decode cX2_throwFrom 61 = .ok (.iload 5, 2) := by decide +kernel
theorem dX2_throwFrom_63 : decode cX2_throwFrom 63 = .ok (.aload_n 0, 1) := by decide +kernel
theorem dX2_throwFrom_64 : decode cX2_throwFrom 64 = .ok (.getfield 32, 3) := by decide +kernel
theorem dX2_throwFrom_67 : decode cX2_throwFrom 67 = .ok (.invokevirtual 118, 3) := by decide +kernel
theorem dX2_throwFrom_70 : decode cX2_throwFrom 70 = .ok (.aload_n 1, 1) := by decide +kernel
theorem dX2_throwFrom_71 : decode cX2_throwFrom 71 = .ok (.getfield 58, 3) := by decide +kernel
theorem dX2_throwFrom_74 : decode cX2_throwFrom 74 = .ok (.iload_n 2, 1) := by decide +kernel
theorem dX2_throwFrom_75 : decode cX2_throwFrom 75 = .ok (.iconst (-1), 1) := by decide +kernel
theorem dX2_throwFrom_76 : decode cX2_throwFrom 76 = .ok (.iastore, 1) := by decide +kernel
theorem dX2_throwFrom_77 : decode cX2_throwFrom 77 = .ok (.return_, 1) := by decide +kernel
theorem dX2_thingsIn_0 : decode cX2_thingsIn 0 = .ok (.iconst 0, 1) := by decide +kernel
theorem dX2_thingsIn_1 : decode cX2_thingsIn 1 = .ok (.istore_n 2, 1) := by decide +kernel
theorem dX2_thingsIn_2 : decode cX2_thingsIn 2 = .ok (.iconst 0, 1) := by decide +kernel
theorem dX2_thingsIn_3 : decode cX2_thingsIn 3 = .ok (.istore_n 3, 1) := by decide +kernel
theorem dX2_thingsIn_4 : decode cX2_thingsIn 4 = .ok (.iload_n 3, 1) := by decide +kernel
theorem dX2_thingsIn_5 : decode cX2_thingsIn 5 = .ok (.aload_n 0, 1) := by decide +kernel
theorem dX2_thingsIn_6 : decode cX2_thingsIn 6 = .ok (.getfield 29, 3) := by decide +kernel
theorem dX2_thingsIn_9 : decode cX2_thingsIn 9 = .ok (.if_icmp .ge 25, 3) := by decide +kernel
theorem dX2_thingsIn_12 : decode cX2_thingsIn 12 = .ok (.aload_n 0, 1) := by decide +kernel
theorem dX2_thingsIn_13 : decode cX2_thingsIn 13 = .ok (.getfield 20, 3) := by decide +kernel
theorem dX2_thingsIn_16 : decode cX2_thingsIn 16 = .ok (.iload_n 3, 1) := by decide +kernel
theorem dX2_thingsIn_17 : decode cX2_thingsIn 17 = .ok (.aaload, 1) := by decide +kernel
theorem dX2_thingsIn_18 : decode cX2_thingsIn 18 = .ok (.getfield 62, 3) := by decide +kernel
theorem dX2_thingsIn_21 : decode cX2_thingsIn 21 = .ok (.iload_n 1, 1) := by decide +kernel
theorem dX2_thingsIn_22 : decode cX2_thingsIn 22 = .ok (.if_icmp .ne 6, 3) := by decide +kernel
theorem dX2_thingsIn_25 : decode cX2_thingsIn 25 = .ok (.iinc 2 1, 3) := by decide +kernel
theorem dX2_thingsIn_28 : decode cX2_thingsIn 28 = .ok (.iinc 3 1, 3) := by decide +kernel
theorem dX2_thingsIn_31 : decode cX2_thingsIn 31 = .ok (.goto (-27), 3) := by decide +kernel
theorem dX2_thingsIn_34 : decode cX2_thingsIn 34 = .ok (.iload_n 2, 1) := by decide +kernel
theorem dX2_thingsIn_35 : decode cX2_thingsIn 35 = .ok (.ireturn, 1) := by decide +kernel
theorem dX2_thingsFlyingTo_0 : decode cX2_thingsFlyingTo 0 = .ok (.iconst 0, 1) := by decide +kernel
theorem dX2_thingsFlyingTo_1 : decode cX2_thingsFlyingTo 1 = .ok (.istore_n 2, 1) := by decide +kernel
theorem dX2_thingsFlyingTo_2 : decode cX2_thingsFlyingTo 2 = .ok (.iconst 0, 1) := by decide +kernel
theorem dX2_thingsFlyingTo_3 : decode cX2_thingsFlyingTo 3 = .ok (.istore_n 3, 1) := by decide +kernel
theorem dX2_thingsFlyingTo_4 : decode cX2_thingsFlyingTo 4 = .ok (.iload_n 3, 1) := by decide +kernel
theorem dX2_thingsFlyingTo_5 : decode cX2_thingsFlyingTo 5 = .ok (.aload_n 0, 1) := by decide +kernel
theorem dX2_thingsFlyingTo_6 : decode cX2_thingsFlyingTo 6 = .ok (.getfield 29, 3) := by decide +kernel
theorem dX2_thingsFlyingTo_9 : decode cX2_thingsFlyingTo 9 = .ok (.if_icmp .ge 38, 3) := by decide +kernel
theorem dX2_thingsFlyingTo_12 : decode cX2_thingsFlyingTo 12 = .ok (.aload_n 0, 1) := by decide +kernel
theorem dX2_thingsFlyingTo_13 : decode cX2_thingsFlyingTo 13 = .ok (.getfield 20, 3) := by decide +kernel
theorem dX2_thingsFlyingTo_16 : decode cX2_thingsFlyingTo 16 = .ok (.iload_n 3, 1) := by decide +kernel
theorem dX2_thingsFlyingTo_17 : decode cX2_thingsFlyingTo 17 = .ok (.aaload, 1) := by decide +kernel
theorem dX2_thingsFlyingTo_18 : decode cX2_thingsFlyingTo 18 = .ok (.getfield 62, 3) := by decide +kernel
theorem dX2_thingsFlyingTo_21 : decode cX2_thingsFlyingTo 21 = .ok (.iconst 2, 1) := by decide +kernel
theorem dX2_thingsFlyingTo_22 : decode cX2_thingsFlyingTo 22 = .ok (.if_icmp .ne 19, 3) := by decide +kernel
theorem dX2_thingsFlyingTo_25 : decode cX2_thingsFlyingTo 25 = .ok (.aload_n 0, 1) := by decide +kernel
theorem dX2_thingsFlyingTo_26 : decode cX2_thingsFlyingTo 26 = .ok (.getfield 20, 3) := by decide +kernel
theorem dX2_thingsFlyingTo_29 : decode cX2_thingsFlyingTo 29 = .ok (.iload_n 3, 1) := by decide +kernel
theorem dX2_thingsFlyingTo_30 : decode cX2_thingsFlyingTo 30 = .ok (.aaload, 1) := by decide +kernel
theorem dX2_thingsFlyingTo_31 : decode cX2_thingsFlyingTo 31 = .ok (.getfield 65, 3) := by decide +kernel
theorem dX2_thingsFlyingTo_34 : decode cX2_thingsFlyingTo 34 = .ok (.iload_n 1, 1) := by decide +kernel
theorem dX2_thingsFlyingTo_35 : decode cX2_thingsFlyingTo 35 = .ok (.if_icmp .ne 6, 3) := by decide +kernel
theorem dX2_thingsFlyingTo_38 : decode cX2_thingsFlyingTo 38 = .ok (.iinc 2 1, 3) := by decide +kernel
theorem dX2_thingsFlyingTo_41 : decode cX2_thingsFlyingTo 41 = .ok (.iinc 3 1, 3) := by decide +kernel
theorem dX2_thingsFlyingTo_44 : decode cX2_thingsFlyingTo 44 = .ok (.goto (-40), 3) := by decide +kernel
theorem dX2_thingsFlyingTo_47 : decode cX2_thingsFlyingTo 47 = .ok (.iload_n 2, 1) := by decide +kernel
theorem dX2_thingsFlyingTo_48 : decode cX2_thingsFlyingTo 48 = .ok (.ireturn, 1) := by decide +kernel
theorem dX2_allThrown_0 : decode cX2_allThrown 0 = .ok (.iconst 0, 1) := by decide +kernel
theorem dX2_allThrown_1 : decode cX2_allThrown 1 = .ok (.istore_n 1, 1) := by decide +kernel
theorem dX2_allThrown_2 : decode cX2_allThrown 2 = .ok (.iconst 0, 1) := by decide +kernel
theorem dX2_allThrown_3 : decode cX2_allThrown 3 = .ok (.istore_n 2, 1) := by decide +kernel
theorem dX2_allThrown_4 : decode cX2_allThrown 4 = .ok (.iload_n 2, 1) := by decide +kernel
theorem dX2_allThrown_5 : decode cX2_allThrown 5 = .ok (.aload_n 0, 1) := by decide +kernel
theorem dX2_allThrown_6 : decode cX2_allThrown 6 = .ok (.getfield 29, 3) := by decide +kernel
theorem dX2_allThrown_9 : decode cX2_allThrown 9 = .ok (.if_icmp .ge 21, 3) := by decide +kernel
theorem dX2_allThrown_12 : decode cX2_allThrown 12 = .ok (.iload_n 1, 1) := by decide +kernel
theorem dX2_allThrown_13 : decode cX2_allThrown 13 = .ok (.aload_n 0, 1) := by decide +kernel
theorem dX2_allThrown_14 : decode cX2_allThrown 14 = .ok (.getfield 20, 3) := by decide +kernel
theorem dX2_allThrown_17 : decode cX2_allThrown 17 = .ok (.iload_n 2, 1) := by decide +kernel
theorem dX2_allThrown_18 : decode cX2_allThrown 18 = .ok (.aaload, 1) := by decide +kernel
theorem dX2_allThrown_19 : decode cX2_allThrown 19 = .ok (.getfield 121, 3) := by decide +kernel
theorem dX2_allThrown_22 : decode cX2_allThrown 22 = .ok (.iadd, 1) := by decide +kernel
theorem dX2_allThrown_23 : decode cX2_allThrown 23 = .ok (.istore_n 1, 1) := by decide +kernel
theorem dX2_allThrown_24 : decode cX2_allThrown 24 = .ok (.iinc 2 1, 3) := by decide +kernel
theorem dX2_allThrown_27 : decode cX2_allThrown 27 = .ok (.goto (-23), 3) := by decide +kernel
theorem dX2_allThrown_30 : decode cX2_allThrown 30 = .ok (.iload_n 1, 1) := by decide +kernel
theorem dX2_allThrown_31 : decode cX2_allThrown 31 = .ok (.ireturn, 1) := by decide +kernel
theorem dX2_allFell_0 : decode cX2_allFell 0 = .ok (.iconst 0, 1) := by decide +kernel
theorem dX2_allFell_1 : decode cX2_allFell 1 = .ok (.istore_n 1, 1) := by decide +kernel
theorem dX2_allFell_2 : decode cX2_allFell 2 = .ok (.iconst 0, 1) := by decide +kernel
theorem dX2_allFell_3 : decode cX2_allFell 3 = .ok (.istore_n 2, 1) := by decide +kernel
theorem dX2_allFell_4 : decode cX2_allFell 4 = .ok (.iload_n 2, 1) := by decide +kernel
theorem dX2_allFell_5 : decode cX2_allFell 5 = .ok (.aload_n 0, 1) := by decide +kernel
theorem dX2_allFell_6 : decode cX2_allFell 6 = .ok (.getfield 29, 3) := by decide +kernel
theorem dX2_allFell_9 : decode cX2_allFell 9 = .ok (.if_icmp .ge 21, 3) := by decide +kernel
theorem dX2_allFell_12 : decode cX2_allFell 12 = .ok (.iload_n 1, 1) := by decide +kernel
theorem dX2_allFell_13 : decode cX2_allFell 13 = .ok (.aload_n 0, 1) := by decide +kernel
theorem dX2_allFell_14 : decode cX2_allFell 14 = .ok (.getfield 20, 3) := by decide +kernel
theorem dX2_allFell_17 : decode cX2_allFell 17 = .ok (.iload_n 2, 1) := by decide +kernel
theorem dX2_allFell_18 : decode cX2_allFell 18 = .ok (.aaload, 1) := by decide +kernel
theorem dX2_allFell_19 : decode cX2_allFell 19 = .ok (.getfield 124, 3) := by decide +kernel
theorem dX2_allFell_22 : decode cX2_allFell 22 = .ok (.iadd, 1) := by decide +kernel
theorem dX2_allFell_23 : decode cX2_allFell 23 = .ok (.istore_n 1, 1) := by decide +kernel
theorem dX2_allFell_24 : decode cX2_allFell 24 = .ok (.iinc 2 1, 3) := by decide +kernel
theorem dX2_allFell_27 : decode cX2_allFell 27 = .ok (.goto (-23), 3) := by decide +kernel
theorem dX2_allFell_30 : decode cX2_allFell 30 = .ok (.iload_n 1, 1) := by decide +kernel
theorem dX2_allFell_31 : decode cX2_allFell 31 = .ok (.ireturn, 1) := by decide +kernel
theorem dX2_allBruises_0 : decode cX2_allBruises 0 = .ok (.iconst 0, 1) := by decide +kernel
theorem dX2_allBruises_1 : decode cX2_allBruises 1 = .ok (.istore_n 1, 1) := by decide +kernel
theorem dX2_allBruises_2 : decode cX2_allBruises 2 = .ok (.iconst 0, 1) := by decide +kernel
theorem dX2_allBruises_3 : decode cX2_allBruises 3 = .ok (.istore_n 2, 1) := by decide +kernel
theorem dX2_allBruises_4 : decode cX2_allBruises 4 = .ok (.iload_n 2, 1) := by decide +kernel
theorem dX2_allBruises_5 : decode cX2_allBruises 5 = .ok (.aload_n 0, 1) := by decide +kernel
theorem dX2_allBruises_6 : decode cX2_allBruises 6 = .ok (.getfield 25, 3) := by decide +kernel
theorem dX2_allBruises_9 : decode cX2_allBruises 9 = .ok (.if_icmp .ge 21, 3) := by decide +kernel
theorem dX2_allBruises_12 : decode cX2_allBruises 12 = .ok (.iload_n 1, 1) := by decide +kernel
theorem dX2_allBruises_13 : decode cX2_allBruises 13 = .ok (.aload_n 0, 1) := by decide +kernel
theorem dX2_allBruises_14 : decode cX2_allBruises 14 = .ok (.getfield 11, 3) := by decide +kernel
theorem dX2_allBruises_17 : decode cX2_allBruises 17 = .ok (.iload_n 2, 1) := by decide +kernel
theorem dX2_allBruises_18 : decode cX2_allBruises 18 = .ok (.aaload, 1) := by decide +kernel
theorem dX2_allBruises_19 : decode cX2_allBruises 19 = .ok (.getfield 127, 3) := by decide +kernel
theorem dX2_allBruises_22 : decode cX2_allBruises 22 = .ok (.iadd, 1) := by decide +kernel
theorem dX2_allBruises_23 : decode cX2_allBruises 23 = .ok (.istore_n 1, 1) := by decide +kernel
theorem dX2_allBruises_24 : decode cX2_allBruises 24 = .ok (.iinc 2 1, 3) := by decide +kernel
theorem dX2_allBruises_27 : decode cX2_allBruises 27 = .ok (.goto (-23), 3) := by decide +kernel
theorem dX2_allBruises_30 : decode cX2_allBruises 30 = .ok (.iload_n 1, 1) := by decide +kernel
theorem dX2_allBruises_31 : decode cX2_allBruises 31 = .ok (.ireturn, 1) := by decide +kernel
theorem dX2_tellThing_0 : decode cX2_tellThing 0 = .ok (.aload_n 0, 1) := by decide +kernel
theorem dX2_tellThing_1 : decode cX2_tellThing 1 = .ok (.getfield 20, 3) := by decide +kernel
theorem dX2_tellThing_4 : decode cX2_tellThing 4 = .ok (.iload_n 1, 1) := by decide +kernel
theorem dX2_tellThing_5 : decode cX2_tellThing 5 = .ok (.aaload, 1) := by decide +kernel
theorem dX2_tellThing_6 : decode cX2_tellThing 6 = .ok (.astore_n 3, 1) := by decide +kernel
theorem dX2_tellThing_7 : decode cX2_tellThing 7 = .ok (.iload_n 2, 1) := by decide +kernel
theorem dX2_tellThing_8 : decode cX2_tellThing 8 = .ok (.tableswitch 87 0 5 #[40, 45, 50, 55, 60, 82], 40) := by decide +kernel
theorem dX2_tellThing_48 : decode cX2_tellThing 48 = .ok (.aload_n 3, 1) := by decide +kernel
theorem dX2_tellThing_49 : decode cX2_tellThing 49 = .ok (.getfield 55, 3) := by decide +kernel
theorem dX2_tellThing_52 : decode cX2_tellThing 52 = .ok (.ireturn, 1) := by decide +kernel
theorem dX2_tellThing_53 : decode cX2_tellThing 53 = .ok (.aload_n 3, 1) := by decide +kernel
theorem dX2_tellThing_54 : decode cX2_tellThing 54 = .ok (.getfield 62, 3) := by decide +kernel
theorem dX2_tellThing_57 : decode cX2_tellThing 57 = .ok (.ireturn, 1) := by decide +kernel
theorem dX2_tellThing_58 : decode cX2_tellThing 58 = .ok (.aload_n 3, 1) := by decide +kernel
theorem dX2_tellThing_59 : decode cX2_tellThing 59 = .ok (.getfield 65, 3) := by decide +kernel
theorem dX2_tellThing_62 : decode cX2_tellThing 62 = .ok (.ireturn, 1) := by decide +kernel
theorem dX2_tellThing_63 : decode cX2_tellThing 63 = .ok (.aload_n 3, 1) := by decide +kernel
theorem dX2_tellThing_64 : decode cX2_tellThing 64 = .ok (.getfield 68, 3) := by decide +kernel
theorem dX2_tellThing_67 : decode cX2_tellThing 67 = .ok (.ireturn, 1) := by decide +kernel
theorem dX2_tellThing_68 : decode cX2_tellThing 68 = .ok (.aload_n 3, 1) := by decide +kernel
theorem dX2_tellThing_69 : decode cX2_tellThing 69 = .ok (.getfield 62, 3) := by decide +kernel
theorem dX2_tellThing_72 : decode cX2_tellThing 72 = .ok (.iconst 2, 1) := by decide +kernel
theorem dX2_tellThing_73 : decode cX2_tellThing 73 = .ok (.if_icmp .ne 15, 3) := by decide +kernel
theorem dX2_tellThing_76 : decode cX2_tellThing 76 = .ok (.aload_n 3, 1) := by decide +kernel
theorem dX2_tellThing_77 : decode cX2_tellThing 77 = .ok (.getfield 130, 3) := by decide +kernel
theorem dX2_tellThing_80 : decode cX2_tellThing 80 = .ok (.aload_n 0, 1) := by decide +kernel
theorem dX2_tellThing_81 : decode cX2_tellThing 81 = .ok (.getfield 32, 3) := by decide +kernel
theorem dX2_tellThing_84 : decode cX2_tellThing 84 = .ok (.isub, 1) := by decide +kernel
theorem dX2_tellThing_85 : decode cX2_tellThing 85 = .ok (.goto 4, 3) := by decide +kernel
theorem dX2_tellThing_88 : decode cX2_tellThing 88 = .ok (.iconst (-1), 1) := by decide +kernel
theorem dX2_tellThing_89 : decode cX2_tellThing 89 = .ok (.ireturn, 1) := by decide +kernel
theorem dX2_tellThing_90 : decode cX2_tellThing 90 = .ok (.aload_n 3, 1) := by decide +kernel
theorem dX2_tellThing_91 : decode cX2_tellThing 91 = .ok (.getfield 121, 3) := by decide +kernel
theorem dX2_tellThing_94 : decode cX2_tellThing 94 = .ok (.ireturn, 1) := by decide +kernel
theorem dX2_tellThing_95 : decode cX2_tellThing 95 = .ok (.aload_n 3, 1) := by decide +kernel
theorem dX2_tellThing_96 : decode cX2_tellThing 96 = .ok (.getfield 124, 3) := by decide +kernel
theorem dX2_tellThing_99 : decode cX2_tellThing 99 = .ok (.ireturn, 1) := by decide +kernel
theorem dX2_tellJuggler_0 : decode cX2_tellJuggler 0 = .ok (.aload_n 0, 1) := by decide +kernel
theorem dX2_tellJuggler_1 : decode cX2_tellJuggler 1 = .ok (.getfield 11, 3) := by decide +kernel
theorem dX2_tellJuggler_4 : decode cX2_tellJuggler 4 = .ok (.iload_n 1, 1) := by decide +kernel
theorem dX2_tellJuggler_5 : decode cX2_tellJuggler 5 = .ok (.aaload, 1) := by decide +kernel
theorem dX2_tellJuggler_6 : decode cX2_tellJuggler 6 = .ok (.astore_n 3, 1) := by decide +kernel
theorem dX2_tellJuggler_7 : decode cX2_tellJuggler 7 = .ok (.iload_n 2, 1) := by decide +kernel
theorem dX2_tellJuggler_8 : decode cX2_tellJuggler 8 = .ok (.tableswitch 78 0 5 #[40, 45, 50, 57, 64, 72], 40) := by decide +kernel
theorem dX2_tellJuggler_48 : decode cX2_tellJuggler 48 = .ok (.aload_n 3, 1) := by decide +kernel
theorem dX2_tellJuggler_49 : decode cX2_tellJuggler 49 = .ok (.getfield 42, 3) := by decide +kernel
theorem dX2_tellJuggler_52 : decode cX2_tellJuggler 52 = .ok (.ireturn, 1) := by decide +kernel
theorem dX2_tellJuggler_53 : decode cX2_tellJuggler 53 = .ok (.aload_n 3, 1) := by decide +kernel
theorem dX2_tellJuggler_54 : decode cX2_tellJuggler 54 = .ok (.getfield 127, 3) := by decide +kernel
theorem dX2_tellJuggler_57 : decode cX2_tellJuggler 57 = .ok (.ireturn, 1) := by decide +kernel
theorem dX2_tellJuggler_58 : decode cX2_tellJuggler 58 = .ok (.aload_n 3, 1) := by decide +kernel
theorem dX2_tellJuggler_59 : decode cX2_tellJuggler 59 = .ok (.getfield 58, 3) := by decide +kernel
theorem dX2_tellJuggler_62 : decode cX2_tellJuggler 62 = .ok (.iconst 0, 1) := by decide +kernel
theorem dX2_tellJuggler_63 : decode cX2_tellJuggler 63 = .ok (.iaload, 1) := by decide +kernel
theorem dX2_tellJuggler_64 : decode cX2_tellJuggler 64 = .ok (.ireturn, 1) := by decide +kernel
theorem dX2_tellJuggler_65 : decode cX2_tellJuggler 65 = .ok (.aload_n 3, 1) := by decide +kernel
theorem dX2_tellJuggler_66 : decode cX2_tellJuggler 66 = .ok (.getfield 58, 3) := by decide +kernel
theorem dX2_tellJuggler_69 : decode cX2_tellJuggler 69 = .ok (.iconst 1, 1) := by decide +kernel
theorem dX2_tellJuggler_70 : decode cX2_tellJuggler 70 = .ok (.iaload, 1) := by decide +kernel
theorem dX2_tellJuggler_71 : decode cX2_tellJuggler 71 = .ok (.ireturn, 1) := by decide +kernel
theorem dX2_tellJuggler_72 : decode cX2_tellJuggler 72 = .ok (.aload_n 3, 1) := by decide +kernel
theorem dX2_tellJuggler_73 : decode cX2_tellJuggler 73 = .ok (.getfield 45, 3) := by decide +kernel
theorem dX2_tellJuggler_76 : decode cX2_tellJuggler 76 = .ok (.getfield 133, 3) := by decide +kernel
theorem dX2_tellJuggler_79 : decode cX2_tellJuggler 79 = .ok (.ireturn, 1) := by decide +kernel
theorem dX2_tellJuggler_80 : decode cX2_tellJuggler 80 = .ok (.aload_n 0, 1) := by decide +kernel
theorem dX2_tellJuggler_81 : decode cX2_tellJuggler 81 = .ok (.iload_n 1, 1) := by decide +kernel
theorem dX2_tellJuggler_82 : decode cX2_tellJuggler 82 = .ok (.invokevirtual 136, 3) := by decide +kernel
theorem dX2_tellJuggler_85 : decode cX2_tellJuggler 85 = .ok (.ireturn, 1) := by decide +kernel
theorem dX2_tellJuggler_86 : decode cX2_tellJuggler 86 = .ok (.aload_n 3, 1) := by decide +kernel
theorem dX2_tellJuggler_87 : decode cX2_tellJuggler 87 = .ok (.getfield 100, 3) := by decide +kernel
theorem dX2_tellJuggler_90 : decode cX2_tellJuggler 90 = .ok (.ireturn, 1) := by decide +kernel
theorem dX2_tellCount_0 : decode cX2_tellCount 0 = .ok (.iload_n 1, 1) := by decide +kernel
theorem dX2_tellCount_1 : decode cX2_tellCount 1 = .ok (.tableswitch 91 0 7 #[47, 52, 57, 62, 68, 74, 80, 86], 47) := by decide +kernel
theorem dX2_tellCount_48 : decode cX2_tellCount 48 = .ok (.aload_n 0, 1) := by decide +kernel
theorem dX2_tellCount_49 : decode cX2_tellCount 49 = .ok (.getfield 32, 3) := by decide +kernel
theorem dX2_tellCount_52 : decode cX2_tellCount 52 = .ok (.ireturn, 1) := by decide +kernel
theorem dX2_tellCount_53 : decode cX2_tellCount 53 = .ok (.aload_n 0, 1) := by decide +kernel
theorem dX2_tellCount_54 : decode cX2_tellCount 54 = .ok (.getfield 25, 3) := by decide +kernel
theorem dX2_tellCount_57 : decode cX2_tellCount 57 = .ok (.ireturn, 1) := by decide +kernel
theorem dX2_tellCount_58 : decode cX2_tellCount 58 = .ok (.aload_n 0, 1) := by decide +kernel
theorem dX2_tellCount_59 : decode cX2_tellCount 59 = .ok (.getfield 29, 3) := by decide +kernel
theorem dX2_tellCount_62 : decode cX2_tellCount 62 = .ok (.ireturn, 1) := by decide +kernel
theorem dX2_tellCount_63 : decode cX2_tellCount 63 = .ok (.aload_n 0, 1) := by decide +kernel
theorem dX2_tellCount_64 : decode cX2_tellCount 64 = .ok (.iconst 1, 1) := by decide +kernel
theorem dX2_tellCount_65 : decode cX2_tellCount 65 = .ok (.invokevirtual 139, 3) := by decide +kernel
theorem dX2_tellCount_68 : decode cX2_tellCount 68 = .ok (.ireturn, 1) := by decide +kernel
theorem dX2_tellCount_69 : decode cX2_tellCount 69 = .ok (.aload_n 0, 1) := by decide +kernel
theorem dX2_tellCount_70 : decode cX2_tellCount 70 = .ok (.iconst 2, 1) := by decide +kernel
theorem dX2_tellCount_71 : decode cX2_tellCount 71 = .ok (.invokevirtual 139, 3) := by decide +kernel
theorem dX2_tellCount_74 : decode cX2_tellCount 74 = .ok (.ireturn, 1) := by decide +kernel
theorem dX2_tellCount_75 : decode cX2_tellCount 75 = .ok (.aload_n 0, 1) := by decide +kernel
theorem dX2_tellCount_76 : decode cX2_tellCount 76 = .ok (.iconst 0, 1) := by decide +kernel
theorem dX2_tellCount_77 : decode cX2_tellCount 77 = .ok (.invokevirtual 139, 3) := by decide +kernel
theorem dX2_tellCount_80 : decode cX2_tellCount 80 = .ok (.ireturn, 1) := by decide +kernel
theorem dX2_tellCount_81 : decode cX2_tellCount 81 = .ok (.aload_n 0, 1) := by decide +kernel
theorem dX2_tellCount_82 : decode cX2_tellCount 82 = .ok (.iconst 3, 1) := by decide +kernel
theorem dX2_tellCount_83 : decode cX2_tellCount 83 = .ok (.invokevirtual 139, 3) := by decide +kernel
theorem dX2_tellCount_86 : decode cX2_tellCount 86 = .ok (.ireturn, 1) := by decide +kernel
theorem dX2_tellCount_87 : decode cX2_tellCount 87 = .ok (.aload_n 0, 1) := by decide +kernel
theorem dX2_tellCount_88 : decode cX2_tellCount 88 = .ok (.invokevirtual 142, 3) := by decide +kernel
theorem dX2_tellCount_91 : decode cX2_tellCount 91 = .ok (.ireturn, 1) := by decide +kernel
theorem dX2_tellCount_92 : decode cX2_tellCount 92 = .ok (.aload_n 0, 1) := by decide +kernel
theorem dX2_tellCount_93 : decode cX2_tellCount 93 = .ok (.invokevirtual 145, 3) := by decide +kernel
theorem dX2_tellCount_96 : decode cX2_tellCount 96 = .ok (.ireturn, 1) := by decide +kernel
end
section
theorem dX4_init_0 : decode cX4_init 0 = .ok (.aload_n 0, 1) := by decide +kernel
theorem dX4_init_1 : decode cX4_init 1 = .ok (.invokespecial 1, 3) := by decide +kernel
theorem dX4_init_4 : decode cX4_init 4 = .ok (.aload_n 0, 1) := by decide +kernel
theorem dX4_init_5 : decode cX4_init 5 = .ok (.new 7, 3) := by decide +kernel
theorem dX4_init_8 : decode cX4_init 8 = .ok (.dup, 1) := by decide +kernel
theorem dX4_init_9 : decode cX4_init 9 = .ok (.invokespecial 9, 3) := by decide +kernel
theorem dX4_init_12 : decode cX4_init 12 = .ok (.putfield 10, 3) := by decide +kernel
theorem dX4_init_15 : decode cX4_init 15 = .ok (.aload_n 0, 1) := by decide +kernel
theorem dX4_init_16 : decode cX4_init 16 = .ok (.new 7, 3) := by decide +kernel
theorem dX4_init_19 : decode cX4_init 19 = .ok (.dup, 1) := by decide +kernel
theorem dX4_init_20 : decode cX4_init 20 = .ok (.invokespecial 9, 3) := by decide +kernel
theorem dX4_init_23 : decode cX4_init 23 = .ok (.putfield 16, 3) := by decide +kernel
theorem dX4_init_26 : decode cX4_init 26 = .ok (.return_, 1) := by decide +kernel
theorem dX4_come_0 : decode cX4_come 0 = .ok (.iload_n 1, 1) := by decide +kernel
theorem dX4_come_1 : decode cX4_come 1 = .ok (.iconst 1, 1) := by decide +kernel
theorem dX4_come_2 : decode cX4_come 2 = .ok (.if_icmp .lt 9, 3) := by decide +kernel
theorem dX4_come_5 : decode cX4_come 5 = .ok (.iload_n 1, 1) := by decide +kernel
theorem dX4_come_6 : decode cX4_come 6 = .ok (.bipush 9, 2) := by decide +kernel
theorem dX4_come_8 : decode cX4_come 8 = .ok (.if_icmp .le 13, 3) := by decide +kernel
theorem dX4_come_11 : decode cX4_come 11 = .ok (.new 19, 3) := by decide +kernel
theorem dX4_come_14 : decode cX4_come 14 = .ok (.dup, 1) := by decide +kernel
theorem dX4_come_15 : decode cX4_come 15 = .ok (.ldc 21, 2) := by decide +kernel
theorem dX4_come_17 : decode cX4_come 17 = .ok (.invokespecial 23, 3) := by decide +kernel
theorem dX4_come_20 : decode cX4_come 20 = .ok (.athrow, 1) := by decide +kernel
theorem dX4_come_21 : decode cX4_come 21 = .ok (.aload_n 0, 1) := by decide +kernel
theorem dX4_come_22 : decode cX4_come 22 = .ok (.getfield 10, 3) := by decide +kernel
theorem dX4_come_25 : decode cX4_come 25 = .ok (.getfield 26, 3) := by decide +kernel
theorem dX4_come_28 : decode cX4_come 28 = .ok (.iconst 4, 1) := by decide +kernel
theorem dX4_come_29 : decode cX4_come 29 = .ok (.if_icmp .lt 13, 3) := by decide +kernel
theorem dX4_come_32 : decode cX4_come 32 = .ok (.new 30, 3) := by decide +kernel
theorem dX4_come_35 : decode cX4_come 35 = .ok (.dup, 1) := by decide +kernel
theorem dX4_come_36 : decode cX4_come 36 = .ok (.ldc 32, 2) := by decide +kernel
theorem dX4_come_38 : decode cX4_come 38 = .ok (.invokespecial 34, 3) := by decide +kernel
theorem dX4_come_41 : decode cX4_come 41 = .ok (.athrow, 1) := by decide +kernel
theorem dX4_come_42 : decode cX4_come 42 = .ok (.aload_n 0, 1) := by decide +kernel
theorem dX4_come_43 : decode cX4_come 43 = .ok (.getfield 10, 3) := by decide +kernel
theorem dX4_come_46 : decode cX4_come 46 = .ok (.iload_n 1, 1) := by decide +kernel
theorem dX4_come_47 : decode cX4_come 47 = .ok (.invokevirtual 35, 3) := by decide +kernel
theorem dX4_come_50 : decode cX4_come 50 = .ok (.ireturn, 1) := by decide +kernel
theorem dX4_setPattern_0 : decode cX4_setPattern 0 = .ok (.aload_n 0, 1) := by decide +kernel
theorem dX4_setPattern_1 : decode cX4_setPattern 1 = .ok (.iload_n 1, 1) := by decide +kernel
theorem dX4_setPattern_2 : decode cX4_setPattern 2 = .ok (.invokevirtual 39, 3) := by decide +kernel
theorem dX4_setPattern_5 : decode cX4_setPattern 5 = .ok (.iload_n 2, 1) := by decide +kernel
theorem dX4_setPattern_6 : decode cX4_setPattern 6 = .ok (.iconst 1, 1) := by decide +kernel
theorem dX4_setPattern_7 : decode cX4_setPattern 7 = .ok (.if_icmp .lt 9, 3) := by decide +kernel
theorem dX4_setPattern_10 : decode cX4_setPattern 10 = .ok (.iload_n 2, 1) := by decide +kernel
theorem dX4_setPattern_11 : decode cX4_setPattern 11 = .ok (.bipush 8, 2) := by decide +kernel
theorem dX4_setPattern_13 : decode cX4_setPattern 13 = .ok (.if_icmp .le 13, 3) := by decide +kernel
theorem dX4_setPattern_16 : decode cX4_setPattern 16 = .ok (.new 19, 3) := by decide +kernel
theorem dX4_setPattern_19 : decode cX4_setPattern 19 = .ok (.dup, 1) := by decide +kernel
theorem dX4_setPattern_20 : decode cX4_setPattern 20 = .ok (.ldc 43, 2) := by decide +kernel
theorem dX4_setPattern_22 : decode cX4_setPattern 22 = .ok (.invokespecial 23, 3) := by decide +kernel
theorem dX4_setPattern_25 : decode cX4_setPattern 25 = .ok (.athrow, 1) := by decide +kernel
theorem dX4_setPattern_26 : decode cX4_setPattern 26 = .ok (.iload_n 3, 1) := by decide +kernel
theorem dX4_setPattern_27 : decode cX4_setPattern 27 = .ok (.ifCond .lt 11, 3) := by decide +kernel
theorem dX4_setPattern_30 : decode cX4_setPattern 30 = .ok (.iload_n 3, 1) := by decide +kernel
theorem dX4_setPattern_31 : decode cX4_setPattern 31 = .ok (.iload_n 2, 1) := by decide +kernel
theorem dX4_setPattern_32 : decode cX4_setPattern 32 = .ok (.invokestatic 45, 3) := by decide +kernel
theorem dX4_setPattern_35 : decode cX4_setPattern 35 = .ok (.if_icmp .lt 13, 3) := by decide +kernel
theorem dX4_setPattern_38 : decode cX4_setPattern 38 = .ok (.new 19, 3) := by decide +kernel
theorem dX4_setPattern_41 : decode cX4_setPattern 41 = .ok (.dup, 1) := by decide +kernel
theorem dX4_setPattern_42 : decode cX4_setPattern 42 = .ok (.ldc 48, 2) := by decide +kernel
theorem dX4_setPattern_44 : decode cX4_setPattern 44 = .ok (.invokespecial 23, 3) := by decide +kernel
theorem dX4_setPattern_47 : decode cX4_setPattern 47 = .ok (.athrow, 1) := by decide +kernel
theorem dX4_setPattern_48 : decode cX4_setPattern 48 = .ok (.aload_n 0, 1) := by decide +kernel
theorem dX4_setPattern_49 : decode cX4_setPattern 49 = .ok (.getfield 10, 3) := by decide +kernel
theorem dX4_setPattern_52 : decode cX4_setPattern 52 = .ok (.getfield 50, 3) := by decide +kernel
theorem dX4_setPattern_55 : decode cX4_setPattern 55 = .ok (.iload_n 1, 1) := by decide +kernel
theorem dX4_setPattern_56 : decode cX4_setPattern 56 = .ok (.aaload, 1) := by decide +kernel
theorem dX4_setPattern_57 : decode cX4_setPattern 57 = .ok (.getfield 54, 3) := by decide +kernel
theorem dX4_setPattern_60 : decode cX4_setPattern 60 = .ok (.astore 4, 2) := by decide +kernel
theorem dX4_setPattern_62 : decode cX4_setPattern 62 = .ok (.aload 4, 2) := by decide +kernel
theorem dX4_setPattern_64 : decode cX4_setPattern 64 = .ok (.getfield 60, 3) := by decide +kernel
theorem dX4_setPattern_67 : decode cX4_setPattern 67 = .ok (.istore 5, 2) := by decide +kernel
theorem dX4_setPattern_69 : decode cX4_setPattern 69 = .ok (.aload 4, 2) := by decide +kernel
theorem dX4_setPattern_71 : decode cX4_setPattern 71 = .ok (.iload_n 1, 1) := by decide +kernel
theorem dX4_setPattern_72 : decode cX4_setPattern 72 = .ok (.iload_n 2, 1) := by decide +kernel
theorem dX4_setPattern_73 : decode cX4_setPattern 73 = .ok (.iload_n 3, 1) := by decide +kernel
theorem dX4_setPattern_74 : decode cX4_setPattern 74 = .ok (.invokevirtual 65, 3) := by decide +kernel
theorem dX4_setPattern_77 : decode cX4_setPattern 77 = .ok (.iload 5, 2) := by decide +kernel
theorem dX4_setPattern_79 : decode cX4_setPattern 79 = .ok (.ireturn, 1) := by decide +kernel
theorem dX4_pass_0 : decode cX4_pass 0 = .ok (.aload_n 0, 1) := by decide +kernel
theorem dX4_pass_1 : decode cX4_pass 1 = .ok (.iload_n 1, 1) := by decide +kernel
theorem dX4_pass_2 : decode cX4_pass 2 = .ok (.iload_n 2, 1) := by decide +kernel
theorem dX4_pass_3 : decode cX4_pass 3 = .ok (.invokevirtual 69, 3) := by decide +kernel
theorem dX4_pass_6 : decode cX4_pass 6 = .ok (.aload_n 0, 1) := by decide +kernel
theorem dX4_pass_7 : decode cX4_pass 7 = .ok (.iload_n 3, 1) := by decide +kernel
theorem dX4_pass_8 : decode cX4_pass 8 = .ok (.invokevirtual 39, 3) := by decide +kernel
theorem dX4_pass_11 : decode cX4_pass 11 = .ok (.aload_n 0, 1) := by decide +kernel
theorem dX4_pass_12 : decode cX4_pass 12 = .ok (.getfield 10, 3) := by decide +kernel
theorem dX4_pass_15 : decode cX4_pass 15 = .ok (.getfield 50, 3) := by decide +kernel
theorem dX4_pass_18 : decode cX4_pass 18 = .ok (.iload_n 1, 1) := by decide +kernel
theorem dX4_pass_19 : decode cX4_pass 19 = .ok (.aaload, 1) := by decide +kernel
theorem dX4_pass_20 : decode cX4_pass 20 = .ok (.getfield 54, 3) := by decide +kernel
theorem dX4_pass_23 : decode cX4_pass 23 = .ok (.astore 4, 2) := by decide +kernel
theorem dX4_pass_25 : decode cX4_pass 25 = .ok (.aload 4, 2) := by decide +kernel
theorem dX4_pass_27 : decode cX4_pass 27 = .ok (.getfield 73, 3) := by decide +kernel
theorem dX4_pass_30 : decode cX4_pass 30 = .ok (.iload_n 2, 1) := by decide +kernel
theorem dX4_pass_31 : decode cX4_pass 31 = .ok (.iaload, 1) := by decide +kernel
theorem dX4_pass_32 : decode cX4_pass 32 = .ok (.istore 5, 2) := by decide +kernel
theorem dX4_pass_34 : decode cX4_pass 34 = .ok (.aload 4, 2) := by decide +kernel
theorem dX4_pass_36 : decode cX4_pass 36 = .ok (.getfield 73, 3) := by decide +kernel
theorem dX4_pass_39 : decode cX4_pass 39 = .ok (.iload_n 2, 1) := by decide +kernel
theorem dX4_pass_40 : decode cX4_pass 40 = .ok (.iload_n 3, 1) := by decide +kernel
theorem dX4_pass_41 : decode cX4_pass 41 = .ok (.iastore, 1) := by decide +kernel
theorem dX4_pass_42 : decode cX4_pass 42 = .ok (.iload 5, 2) := by decide +kernel
theorem dX4_pass_44 : decode cX4_pass 44 = .ok (.ireturn, 1) := by decide +kernel
theorem dX4_written_0 : decode cX4_written 0 = .ok (.aload_n 0, 1) := by decide +kernel
theorem dX4_written_1 : decode cX4_written 1 = .ok (.iload_n 1, 1) := by decide +kernel
theorem dX4_written_2 : decode cX4_written 2 = .ok (.iload_n 2, 1) := by decide +kernel
theorem dX4_written_3 : decode cX4_written 3 = .ok (.invokevirtual 69, 3) := by decide +kernel
theorem dX4_written_6 : decode cX4_written 6 = .ok (.iload_n 3, 1) := by decide +kernel
theorem dX4_written_7 : decode cX4_written 7 = .ok (.iconst 2, 1) := by decide +kernel
theorem dX4_written_8 : decode cX4_written 8 = .ok (.invokestatic 77, 3) := by decide +kernel
theorem dX4_written_11 : decode cX4_written 11 = .ok (.aload_n 0, 1) := by decide +kernel
theorem dX4_written_12 : decode cX4_written 12 = .ok (.getfield 10, 3) := by decide +kernel
theorem dX4_written_15 : decode cX4_written 15 = .ok (.getfield 50, 3) := by decide +kernel
theorem dX4_written_18 : decode cX4_written 18 = .ok (.iload_n 1, 1) := by decide +kernel
theorem dX4_written_19 : decode cX4_written 19 = .ok (.aaload, 1) := by decide +kernel
theorem dX4_written_20 : decode cX4_written 20 = .ok (.getfield 54, 3) := by decide +kernel
theorem dX4_written_23 : decode cX4_written 23 = .ok (.astore 4, 2) := by decide +kernel
theorem dX4_written_25 : decode cX4_written 25 = .ok (.iload_n 3, 1) := by decide +kernel
theorem dX4_written_26 : decode cX4_written 26 = .ok (.ifCond .ne 13, 3) := by decide +kernel
theorem dX4_written_29 : decode cX4_written 29 = .ok (.aload 4, 2) := by decide +kernel
theorem dX4_written_31 : decode cX4_written 31 = .ok (.getfield 80, 3) := by decide +kernel
theorem dX4_written_34 : decode cX4_written 34 = .ok (.iload_n 2, 1) := by decide +kernel
theorem dX4_written_35 : decode cX4_written 35 = .ok (.iaload, 1) := by decide +kernel
theorem dX4_written_36 : decode cX4_written 36 = .ok (.goto 10, 3) := by decide +kernel
theorem dX4_written_39 : decode cX4_written 39 = .ok (.aload 4, 2) := by decide +kernel
theorem dX4_written_41 : decode cX4_written 41 = .ok (.getfield 73, 3) := by decide +kernel
theorem dX4_written_44 : decode cX4_written 44 = .ok (.iload_n 2, 1) := by decide +kernel
theorem dX4_written_45 : decode cX4_written 45 = .ok (.iaload, 1) := by decide +kernel
theorem dX4_written_46 : decode cX4_written 46 = .ok (.ireturn, 1) := by decide +kernel
theorem dX4_make_0 : decode cX4_make 0 = .ok (.iload_n 1, 1) := by decide +kernel
theorem dX4_make_1 : decode cX4_make 1 = .ok (.ifCond .lt 8, 3) := by decide +kernel
theorem dX4_make_4 : decode cX4_make 4 = .ok (.iload_n 1, 1) := by decide +kernel
theorem dX4_make_5 : decode cX4_make 5 = .ok (.iconst 3, 1) := by decide +kernel
theorem dX4_make_6 : decode cX4_make 6 = .ok (.if_icmp .lt 13, 3) := by decide +kernel
theorem dX4_make_9 : decode cX4_make 9 = .ok (.new 19, 3) := by decide +kernel
theorem dX4_make_12 : decode cX4_make 12 = .ok (.dup, 1) := by decide +kernel
theorem dX4_make_13 : decode cX4_make 13 = .ok (.ldc 83, 2) := by decide +kernel
theorem dX4_make_15 : decode cX4_make 15 = .ok (.invokespecial 23, 3) := by decide +kernel
theorem dX4_make_18 : decode cX4_make 18 = .ok (.athrow, 1) := by decide +kernel
theorem dX4_make_19 : decode cX4_make 19 = .ok (.aload_n 0, 1) := by decide +kernel
theorem dX4_make_20 : decode cX4_make 20 = .ok (.getfield 10, 3) := by decide +kernel
theorem dX4_make_23 : decode cX4_make 23 = .ok (.getfield 85, 3) := by decide +kernel
theorem dX4_make_26 : decode cX4_make 26 = .ok (.bipush 12, 2) := by decide +kernel
theorem dX4_make_28 : decode cX4_make 28 = .ok (.if_icmp .lt 13, 3) := by decide +kernel
theorem dX4_make_31 : decode cX4_make 31 = .ok (.new 30, 3) := by decide +kernel
theorem dX4_make_34 : decode cX4_make 34 = .ok (.dup, 1) := by decide +kernel
theorem dX4_make_35 : decode cX4_make 35 = .ok (.ldc 88, 2) := by decide +kernel
theorem dX4_make_37 : decode cX4_make 37 = .ok (.invokespecial 34, 3) := by decide +kernel
theorem dX4_make_40 : decode cX4_make 40 = .ok (.athrow, 1) := by decide +kernel
theorem dX4_make_41 : decode cX4_make 41 = .ok (.aload_n 0, 1) := by decide +kernel
theorem dX4_make_42 : decode cX4_make 42 = .ok (.getfield 10, 3) := by decide +kernel
theorem dX4_make_45 : decode cX4_make 45 = .ok (.iload_n 1, 1) := by decide +kernel
theorem dX4_make_46 : decode cX4_make 46 = .ok (.invokevirtual 90, 3) := by decide +kernel
theorem dX4_make_49 : decode cX4_make 49 = .ok (.ireturn, 1) := by decide +kernel
theorem dX4_give_0 : decode cX4_give 0 = .ok (.aload_n 0, 1) := by decide +kernel
theorem dX4_give_1 : decode cX4_give 1 = .ok (.iload_n 1, 1) := by decide +kernel
theorem dX4_give_2 : decode cX4_give 2 = .ok (.invokevirtual 93, 3) := by decide +kernel
theorem dX4_give_5 : decode cX4_give 5 = .ok (.aload_n 0, 1) := by decide +kernel
theorem dX4_give_6 : decode cX4_give 6 = .ok (.iload_n 2, 1) := by decide +kernel
theorem dX4_give_7 : decode cX4_give 7 = .ok (.invokevirtual 39, 3) := by decide +kernel
theorem dX4_give_10 : decode cX4_give 10 = .ok (.iload_n 3, 1) := by decide +kernel
theorem dX4_give_11 : decode cX4_give 11 = .ok (.ifCond .lt 8, 3) := by decide +kernel
theorem dX4_give_14 : decode cX4_give 14 = .ok (.iload_n 3, 1) := by decide +kernel
theorem dX4_give_15 : decode cX4_give 15 = .ok (.iconst 2, 1) := by decide +kernel
theorem dX4_give_16 : decode cX4_give 16 = .ok (.if_icmp .lt 13, 3) := by decide +kernel
theorem dX4_give_19 : decode cX4_give 19 = .ok (.new 96, 3) := by decide +kernel
theorem dX4_give_22 : decode cX4_give 22 = .ok (.dup, 1) := by decide +kernel
theorem dX4_give_23 : decode cX4_give 23 = .ok (.ldc 98, 2) := by decide +kernel
theorem dX4_give_25 : decode cX4_give 25 = .ok (.invokespecial 100, 3) := by decide +kernel
theorem dX4_give_28 : decode cX4_give 28 = .ok (.athrow, 1) := by decide +kernel
theorem dX4_give_29 : decode cX4_give 29 = .ok (.aload_n 0, 1) := by decide +kernel
theorem dX4_give_30 : decode cX4_give 30 = .ok (.getfield 10, 3) := by decide +kernel
theorem dX4_give_33 : decode cX4_give 33 = .ok (.getfield 101, 3) := by decide +kernel
theorem dX4_give_36 : decode cX4_give 36 = .ok (.iload_n 1, 1) := by decide +kernel
theorem dX4_give_37 : decode cX4_give 37 = .ok (.aaload, 1) := by decide +kernel
theorem dX4_give_38 : decode cX4_give 38 = .ok (.getfield 105, 3) := by decide +kernel
theorem dX4_give_41 : decode cX4_give 41 = .ok (.ifCond .eq 13, 3) := by decide +kernel
theorem dX4_give_44 : decode cX4_give 44 = .ok (.new 30, 3) := by decide +kernel
theorem dX4_give_47 : decode cX4_give 47 = .ok (.dup, 1) := by decide +kernel
theorem dX4_give_48 : decode cX4_give 48 = .ok (.ldc 110, 2) := by decide +kernel
theorem dX4_give_50 : decode cX4_give 50 = .ok (.invokespecial 34, 3) := by decide +kernel
theorem dX4_give_53 : decode cX4_give 53 = .ok (.athrow, 1) := by decide +kernel
theorem dX4_give_54 : decode cX4_give 54 = .ok (.aload_n 0, 1) := by decide +kernel
theorem dX4_give_55 : decode cX4_give 55 = .ok (.getfield 10, 3) := by decide +kernel
theorem dX4_give_58 : decode cX4_give 58 = .ok (.getfield 50, 3) := by decide +kernel
theorem dX4_give_61 : decode cX4_give 61 = .ok (.iload_n 2, 1) := by decide +kernel
theorem dX4_give_62 : decode cX4_give 62 = .ok (.aaload, 1) := by decide +kernel
theorem dX4_give_63 : decode cX4_give 63 = .ok (.getfield 112, 3) := by decide +kernel
theorem dX4_give_66 : decode cX4_give 66 = .ok (.iload_n 3, 1) := by decide +kernel
theorem dX4_give_67 : decode cX4_give 67 = .ok (.iaload, 1) := by decide +kernel
theorem dX4_give_68 : decode cX4_give 68 = .ok (.iconst (-1), 1) := by decide +kernel
theorem dX4_give_69 : decode cX4_give 69 = .ok (.if_icmp .eq 13, 3) := by decide +kernel
theorem dX4_give_72 : decode cX4_give 72 = .ok (.new 30, 3) := by decide +kernel
theorem dX4_give_75 : decode cX4_give 75 = .ok (.dup, 1) := by decide +kernel
theorem dX4_give_76 : decode cX4_give 76 = .ok (.ldc 115, 2) := by decide +kernel
theorem dX4_give_78 : decode cX4_give 78 = .ok (.invokespecial 34, 3) := by decide +kernel
theorem dX4_give_81 : decode cX4_give 81 = .ok (.athrow, 1) := by decide +kernel
theorem dX4_give_82 : decode cX4_give 82 = .ok (.aload_n 0, 1) := by decide +kernel
theorem dX4_give_83 : decode cX4_give 83 = .ok (.getfield 10, 3) := by decide +kernel
theorem dX4_give_86 : decode cX4_give 86 = .ok (.iload_n 1, 1) := by decide +kernel
theorem dX4_give_87 : decode cX4_give 87 = .ok (.iload_n 2, 1) := by decide +kernel
theorem dX4_give_88 : decode cX4_give 88 = .ok (.iload_n 3, 1) := by decide +kernel
theorem dX4_give_89 : decode cX4_give 89 = .ok (.invokevirtual 117, 3) := by decide +kernel
theorem dX4_give_92 : decode cX4_give 92 = .ok (.aload_n 0, 1) := by decide +kernel
theorem dX4_give_93 : decode cX4_give 93 = .ok (.getfield 10, 3) := by decide +kernel
theorem dX4_give_96 : decode cX4_give 96 = .ok (.getfield 50, 3) := by decide +kernel
theorem dX4_give_99 : decode cX4_give 99 = .ok (.iload_n 2, 1) := by decide +kernel
theorem dX4_give_100 : decode cX4_give 100 = .ok (.aaload, 1) := by decide +kernel
theorem dX4_give_101 : decode cX4_give 101 = .ok (.invokevirtual 120, 3) := by decide +kernel
theorem dX4_give_104 : decode cX4_give 104 = .ok (.ireturn, 1) := by decide +kernel
theorem dX4_thing_0 : decode cX4_thing 0 = .ok (.aload_n 0, 1) := by decide +kernel
theorem dX4_thing_1 : decode cX4_thing 1 = .ok (.iload_n 1, 1) := by decide +kernel
theorem dX4_thing_2 : decode cX4_thing 2 = .ok (.invokevirtual 93, 3) := by decide +kernel
theorem dX4_thing_5 : decode cX4_thing 5 = .ok (.iload_n 2, 1) := by decide +kernel
theorem dX4_thing_6 : decode cX4_thing 6 = .ok (.bipush 7, 2) := by decide +kernel
theorem dX4_thing_8 : decode cX4_thing 8 = .ok (.invokestatic 77, 3) := by decide +kernel
theorem dX4_thing_11 : decode cX4_thing 11 = .ok (.aload_n 0, 1) := by decide +kernel
theorem dX4_thing_12 : decode cX4_thing 12 = .ok (.getfield 10, 3) := by decide +kernel
theorem dX4_thing_15 : decode cX4_thing 15 = .ok (.iload_n 1, 1) := by decide +kernel
theorem dX4_thing_16 : decode cX4_thing 16 = .ok (.iload_n 2, 1) := by decide +kernel
theorem dX4_thing_17 : decode cX4_thing 17 = .ok (.invokevirtual 124, 3) := by decide +kernel
theorem dX4_thing_20 : decode cX4_thing 20 = .ok (.ireturn, 1) := by decide +kernel
theorem dX4_juggler_0 : decode cX4_juggler 0 = .ok (.aload_n 0, 1) := by decide +kernel
theorem dX4_juggler_1 : decode cX4_juggler 1 = .ok (.iload_n 1, 1) := by decide +kernel
theorem dX4_juggler_2 : decode cX4_juggler 2 = .ok (.invokevirtual 39, 3) := by decide +kernel
theorem dX4_juggler_5 : decode cX4_juggler 5 = .ok (.iload_n 2, 1) := by decide +kernel
theorem dX4_juggler_6 : decode cX4_juggler 6 = .ok (.bipush 7, 2) := by decide +kernel
theorem dX4_juggler_8 : decode cX4_juggler 8 = .ok (.invokestatic 77, 3) := by decide +kernel
theorem dX4_juggler_11 : decode cX4_juggler 11 = .ok (.aload_n 0, 1) := by decide +kernel
theorem dX4_juggler_12 : decode cX4_juggler 12 = .ok (.getfield 10, 3) := by decide +kernel
theorem dX4_juggler_15 : decode cX4_juggler 15 = .ok (.iload_n 1, 1) := by decide +kernel
theorem dX4_juggler_16 : decode cX4_juggler 16 = .ok (.iload_n 2, 1) := by decide +kernel
theorem dX4_juggler_17 : decode cX4_juggler 17 = .ok (.invokevirtual 128, 3) := by decide +kernel
theorem dX4_juggler_20 : decode cX4_juggler 20 = .ok (.ireturn, 1) := by decide +kernel
theorem dX4_lasts_0 : decode cX4_lasts 0 = .ok (.aload_n 0, 1) := by decide +kernel
theorem dX4_lasts_1 : decode cX4_lasts 1 = .ok (.iload_n 1, 1) := by decide +kernel
theorem dX4_lasts_2 : decode cX4_lasts 2 = .ok (.invokevirtual 39, 3) := by decide +kernel
theorem dX4_lasts_5 : decode cX4_lasts 5 = .ok (.aload_n 0, 1) := by decide +kernel
theorem dX4_lasts_6 : decode cX4_lasts 6 = .ok (.getfield 10, 3) := by decide +kernel
theorem dX4_lasts_9 : decode cX4_lasts 9 = .ok (.getfield 50, 3) := by decide +kernel
theorem dX4_lasts_12 : decode cX4_lasts 12 = .ok (.iload_n 1, 1) := by decide +kernel
theorem dX4_lasts_13 : decode cX4_lasts 13 = .ok (.aaload, 1) := by decide +kernel
theorem dX4_lasts_14 : decode cX4_lasts 14 = .ok (.getfield 54, 3) := by decide +kernel
theorem dX4_lasts_17 : decode cX4_lasts 17 = .ok (.invokevirtual 131, 3) := by decide +kernel
theorem dX4_lasts_20 : decode cX4_lasts 20 = .ok (.ireturn, 1) := by decide +kernel
theorem dX4_asks_0 : decode cX4_asks 0 = .ok (.aload_n 0, 1) := by decide +kernel
theorem dX4_asks_1 : decode cX4_asks 1 = .ok (.iload_n 1, 1) := by decide +kernel
theorem dX4_asks_2 : decode cX4_asks 2 = .ok (.invokevirtual 39, 3) := by decide +kernel
theorem dX4_asks_5 : decode cX4_asks 5 = .ok (.aload_n 0, 1) := by decide +kernel
theorem dX4_asks_6 : decode cX4_asks 6 = .ok (.getfield 10, 3) := by decide +kernel
theorem dX4_asks_9 : decode cX4_asks 9 = .ok (.getfield 50, 3) := by decide +kernel
theorem dX4_asks_12 : decode cX4_asks 12 = .ok (.iload_n 1, 1) := by decide +kernel
theorem dX4_asks_13 : decode cX4_asks 13 = .ok (.aaload, 1) := by decide +kernel
theorem dX4_asks_14 : decode cX4_asks 14 = .ok (.getfield 54, 3) := by decide +kernel
theorem dX4_asks_17 : decode cX4_asks 17 = .ok (.invokevirtual 135, 3) := by decide +kernel
theorem dX4_asks_20 : decode cX4_asks 20 = .ok (.ireturn, 1) := by decide +kernel
theorem dX4_shortest_0 : decode cX4_shortest 0 = .ok (.aload_n 0, 1) := by decide +kernel
theorem dX4_shortest_1 : decode cX4_shortest 1 = .ok (.iload_n 1, 1) := by decide +kernel
theorem dX4_shortest_2 : decode cX4_shortest 2 = .ok (.invokevirtual 39, 3) := by decide +kernel
theorem dX4_shortest_5 : decode cX4_shortest 5 = .ok (.aload_n 0, 1) := by decide +kernel
theorem dX4_shortest_6 : decode cX4_shortest 6 = .ok (.getfield 10, 3) := by decide +kernel
theorem dX4_shortest_9 : decode cX4_shortest 9 = .ok (.getfield 50, 3) := by decide +kernel
theorem dX4_shortest_12 : decode cX4_shortest 12 = .ok (.iload_n 1, 1) := by decide +kernel
theorem dX4_shortest_13 : decode cX4_shortest 13 = .ok (.aaload, 1) := by decide +kernel
theorem dX4_shortest_14 : decode cX4_shortest 14 = .ok (.getfield 54, 3) := by decide +kernel
theorem dX4_shortest_17 : decode cX4_shortest 17 = .ok (.invokevirtual 138, 3) := by decide +kernel
theorem dX4_shortest_20 : decode cX4_shortest 20 = .ok (.ireturn, 1) := by decide +kernel
theorem dX4_go_0 : decode cX4_go 0 = .ok (.iload_n 1, 1) := by decide +kernel
theorem dX4_go_1 : decode cX4_go 1 = .ok (.sipush 200, 3) := by decide +kernel
theorem dX4_go_4 : decode cX4_go 4 = .ok (.invokestatic 141, 3) := by decide +kernel
theorem dX4_go_7 : decode cX4_go 7 = .ok (.aload_n 0, 1) := by decide +kernel
theorem dX4_go_8 : decode cX4_go 8 = .ok (.getfield 10, 3) := by decide +kernel
theorem dX4_go_11 : decode cX4_go 11 = .ok (.iload_n 1, 1) := by decide +kernel
theorem dX4_go_12 : decode cX4_go 12 = .ok (.invokevirtual 144, 3) := by decide +kernel
theorem dX4_go_15 : decode cX4_go 15 = .ok (.ireturn, 1) := by decide +kernel
theorem dX4_count_0 : decode cX4_count 0 = .ok (.iload_n 1, 1) := by decide +kernel
theorem dX4_count_1 : decode cX4_count 1 = .ok (.bipush 9, 2) := by decide +kernel
theorem dX4_count_3 : decode cX4_count 3 = .ok (.invokestatic 77, 3) := by decide +kernel
theorem dX4_count_6 : decode cX4_count 6 = .ok (.aload_n 0, 1) := by decide +kernel
theorem dX4_count_7 : decode cX4_count 7 = .ok (.getfield 10, 3) := by decide +kernel
theorem dX4_count_10 : decode cX4_count 10 = .ok (.iload_n 1, 1) := by decide +kernel
theorem dX4_count_11 : decode cX4_count 11 = .ok (.invokevirtual 147, 3) := by decide +kernel
theorem dX4_count_14 : decode cX4_count 14 = .ok (.ireturn, 1) := by decide +kernel
theorem dX4_falls_0 : decode cX4_falls 0 = .ok (.aload_n 0, 1) := by decide +kernel
theorem dX4_falls_1 : decode cX4_falls 1 = .ok (.getfield 16, 3) := by decide +kernel
theorem dX4_falls_4 : decode cX4_falls 4 = .ok (.aload_n 0, 1) := by decide +kernel
theorem dX4_falls_5 : decode cX4_falls 5 = .ok (.getfield 10, 3) := by decide +kernel
theorem dX4_falls_8 : decode cX4_falls 8 = .ok (.invokevirtual 150, 3) := by decide +kernel
theorem dX4_falls_11 : decode cX4_falls 11 = .ok (.iconst 1, 1) := by decide +kernel
theorem dX4_falls_12 : decode cX4_falls 12 = .ok (.istore_n 1, 1) := by decide +kernel
theorem dX4_falls_13 : decode cX4_falls 13 = .ok (.iload_n 1, 1) := by decide +kernel
theorem dX4_falls_14 : decode cX4_falls 14 = .ok (.sipush 200, 3) := by decide +kernel
theorem dX4_falls_17 : decode cX4_falls 17 = .ok (.if_icmp .gt 21, 3) := by decide +kernel
theorem dX4_falls_20 : decode cX4_falls 20 = .ok (.aload_n 0, 1) := by decide +kernel
theorem dX4_falls_21 : decode cX4_falls 21 = .ok (.getfield 16, 3) := by decide +kernel
theorem dX4_falls_24 : decode cX4_falls 24 = .ok (.invokevirtual 154, 3) := by decide +kernel
theorem dX4_falls_27 : decode cX4_falls 27 = .ok (.ifCond .le 5, 3) := by decide +kernel
theorem dX4_falls_30 : decode cX4_falls 30 = .ok (.iload_n 1, 1) := by decide +kernel
theorem dX4_falls_31 : decode cX4_falls 31 = .ok (.ireturn, 1) := by decide +kernel
theorem dX4_falls_32 : decode cX4_falls 32 = .ok (.iinc 1 1, 3) := by decide +kernel
theorem dX4_falls_35 : decode cX4_falls 35 = .ok (.goto (-22), 3) := by decide +kernel
theorem dX4_falls_38 : decode cX4_falls 38 = .ok (.iconst (-1), 1) := by decide +kernel
theorem dX4_falls_39 : decode cX4_falls 39 = .ok (.ireturn, 1) := by decide +kernel
theorem dX4_foresee_0 : decode cX4_foresee 0 = .ok (.iload_n 1, 1) := by decide +kernel
theorem dX4_foresee_1 : decode cX4_foresee 1 = .ok (.sipush 200, 3) := by decide +kernel
theorem dX4_foresee_4 : decode cX4_foresee 4 = .ok (.invokestatic 141, 3) := by decide +kernel
theorem dX4_foresee_7 : decode cX4_foresee 7 = .ok (.iload_n 2, 1) := by decide +kernel
theorem dX4_foresee_8 : decode cX4_foresee 8 = .ok (.iconst 3, 1) := by decide +kernel
theorem dX4_foresee_9 : decode cX4_foresee 9 = .ok (.invokestatic 77, 3) := by decide +kernel
theorem dX4_foresee_12 : decode cX4_foresee 12 = .ok (.aload_n 0, 1) := by decide +kernel
theorem dX4_foresee_13 : decode cX4_foresee 13 = .ok (.getfield 16, 3) := by decide +kernel
theorem dX4_foresee_16 : decode cX4_foresee 16 = .ok (.aload_n 0, 1) := by decide +kernel
theorem dX4_foresee_17 : decode cX4_foresee 17 = .ok (.getfield 10, 3) := by decide +kernel
theorem dX4_foresee_20 : decode cX4_foresee 20 = .ok (.invokevirtual 150, 3) := by decide +kernel
theorem dX4_foresee_23 : decode cX4_foresee 23 = .ok (.aload_n 0, 1) := by decide +kernel
theorem dX4_foresee_24 : decode cX4_foresee 24 = .ok (.getfield 16, 3) := by decide +kernel
theorem dX4_foresee_27 : decode cX4_foresee 27 = .ok (.iload_n 1, 1) := by decide +kernel
theorem dX4_foresee_28 : decode cX4_foresee 28 = .ok (.invokevirtual 144, 3) := by decide +kernel
theorem dX4_foresee_31 : decode cX4_foresee 31 = .ok (.istore_n 3, 1) := by decide +kernel
theorem dX4_foresee_32 : decode cX4_foresee 32 = .ok (.iload_n 2, 1) := by decide +kernel
theorem dX4_foresee_33 : decode cX4_foresee 33 = .ok (.lookupswitch 38 #[(0, 27), (1, 36)], 27) := by decide +kernel
theorem dX4_foresee_60 : decode cX4_foresee 60 = .ok (.aload_n 0, 1) := by decide +kernel
theorem dX4_foresee_61 : decode cX4_foresee 61 = .ok (.getfield 16, 3) := by decide +kernel
theorem dX4_foresee_64 : decode cX4_foresee 64 = .ok (.iconst 2, 1) := by decide +kernel
theorem dX4_foresee_65 : decode cX4_foresee 65 = .ok (.invokevirtual 157, 3) := by decide +kernel
theorem dX4_foresee_68 : decode cX4_foresee 68 = .ok (.ireturn, 1) := by decide +kernel
theorem dX4_foresee_69 : decode cX4_foresee 69 = .ok (.iload_n 3, 1) := by decide +kernel
theorem dX4_foresee_70 : decode cX4_foresee 70 = .ok (.ireturn, 1) := by decide +kernel
theorem dX4_foresee_71 : decode cX4_foresee 71 = .ok (.aload_n 0, 1) := by decide +kernel
theorem dX4_foresee_72 : decode cX4_foresee 72 = .ok (.getfield 16, 3) := by decide +kernel
theorem dX4_foresee_75 : decode cX4_foresee 75 = .ok (.invokevirtual 160, 3) := by decide +kernel
theorem dX4_foresee_78 : decode cX4_foresee 78 = .ok (.ireturn, 1) := by decide +kernel
theorem dX4_advise_0 : decode cX4_advise 0 = .ok (.aload_n 0, 1) := by decide +kernel
theorem dX4_advise_1 : decode cX4_advise 1 = .ok (.iload_n 1, 1) := by decide +kernel
theorem dX4_advise_2 : decode cX4_advise 2 = .ok (.invokevirtual 39, 3) := by decide +kernel
theorem dX4_advise_5 : decode cX4_advise 5 = .ok (.iload_n 2, 1) := by decide +kernel
theorem dX4_advise_6 : decode cX4_advise 6 = .ok (.bipush 60, 2) := by decide +kernel
theorem dX4_advise_8 : decode cX4_advise 8 = .ok (.invokestatic 141, 3) := by decide +kernel
theorem dX4_advise_11 : decode cX4_advise 11 = .ok (.aload_n 0, 1) := by decide +kernel
theorem dX4_advise_12 : decode cX4_advise 12 = .ok (.getfield 16, 3) := by decide +kernel
theorem dX4_advise_15 : decode cX4_advise 15 = .ok (.aload_n 0, 1) := by decide +kernel
theorem dX4_advise_16 : decode cX4_advise 16 = .ok (.getfield 10, 3) := by decide +kernel
theorem dX4_advise_19 : decode cX4_advise 19 = .ok (.invokevirtual 150, 3) := by decide +kernel
theorem dX4_advise_22 : decode cX4_advise 22 = .ok (.aload_n 0, 1) := by decide +kernel
theorem dX4_advise_23 : decode cX4_advise 23 = .ok (.getfield 16, 3) := by decide +kernel
theorem dX4_advise_26 : decode cX4_advise 26 = .ok (.iload_n 2, 1) := by decide +kernel
theorem dX4_advise_27 : decode cX4_advise 27 = .ok (.invokevirtual 144, 3) := by decide +kernel
theorem dX4_advise_30 : decode cX4_advise 30 = .ok (.istore_n 3, 1) := by decide +kernel
theorem dX4_advise_31 : decode cX4_advise 31 = .ok (.iconst (-1), 1) := by decide +kernel
theorem dX4_advise_32 : decode cX4_advise 32 = .ok (.istore 4, 2) := by decide +kernel
theorem dX4_advise_34 : decode cX4_advise 34 = .ok (.aload_n 0, 1) := by decide +kernel
theorem dX4_advise_35 : decode cX4_advise 35 = .ok (.getfield 10, 3) := by decide +kernel
theorem dX4_advise_38 : decode cX4_advise 38 = .ok (.getfield 50, 3) := by decide +kernel
theorem dX4_advise_41 : decode cX4_advise 41 = .ok (.iload_n 1, 1) := by decide +kernel
theorem dX4_advise_42 : decode cX4_advise 42 = .ok (.aaload, 1) := by decide +kernel
theorem dX4_advise_43 : decode cX4_advise 43 = .ok (.getfield 54, 3) := by decide +kernel
theorem dX4_advise_46 : decode cX4_advise 46 = .ok (.getfield 60, 3) := by decide +kernel
theorem dX4_advise_49 : decode cX4_advise 49 = .ok (.istore 5, 2) := by decide +kernel
theorem dX4_advise_51 : decode cX4_advise 51 = .ok (.iconst 0, 1) := by decide +kernel
theorem dX4_advise_52 : decode cX4_advise 52 = .ok (.istore 6, 2) := by decide +kernel
theorem dX4_advise_54 : decode cX4_advise 54 = .ok (.iload 6, 2) := by decide +kernel
theorem dX4_advise_56 : decode cX4_advise 56 = .ok (.iload 5, 2) := by decide +kernel
theorem dX4_advise_58 : decode cX4_advise 58 = .ok (.if_icmp .ge 60, 3) := by decide +kernel
theorem dX4_advise_61 : decode cX4_advise 61 = .ok (.iconst 0, 1) := by decide +kernel
theorem dX4_advise_62 : decode cX4_advise 62 = .ok (.istore 7, 2) := by decide +kernel
theorem dX4_advise_64 : decode cX4_advise 64 = .ok (.iload 7, 2) := by decide +kernel
theorem dX4_advise_66 : decode cX4_advise 66 = .ok (.bipush 9, 2) := by decide +kernel
theorem dX4_advise_68 : decode cX4_advise 68 = .ok (.if_icmp .gt 44, 3) := by decide +kernel
theorem dX4_advise_71 : decode cX4_advise 71 = .ok (.iload_n 3, 1) := by decide +kernel
theorem dX4_advise_72 : decode cX4_advise 72 = .ok (.ifCond .le 40, 3) := by decide +kernel
theorem dX4_advise_75 : decode cX4_advise 75 = .ok (.aload_n 0, 1) := by decide +kernel
theorem dX4_advise_76 : decode cX4_advise 76 = .ok (.iload_n 1, 1) := by decide +kernel
theorem dX4_advise_77 : decode cX4_advise 77 = .ok (.iload 6, 2) := by decide +kernel
theorem dX4_advise_79 : decode cX4_advise 79 = .ok (.iload 7, 2) := by decide +kernel
theorem dX4_advise_81 : decode cX4_advise 81 = .ok (.iload_n 2, 1) := by decide +kernel
theorem dX4_advise_82 : decode cX4_advise 82 = .ok (.invokevirtual 163, 3) := by decide +kernel
theorem dX4_advise_85 : decode cX4_advise 85 = .ok (.istore 8, 2) := by decide +kernel
theorem dX4_advise_87 : decode cX4_advise 87 = .ok (.iload 8, 2) := by decide +kernel
theorem dX4_advise_89 : decode cX4_advise 89 = .ok (.iload_n 3, 1) := by decide +kernel
theorem dX4_advise_90 : decode cX4_advise 90 = .ok (.if_icmp .ge 16, 3) := by decide +kernel
theorem dX4_advise_93 : decode cX4_advise 93 = .ok (.iload 8, 2) := by decide +kernel
theorem dX4_advise_95 : decode cX4_advise 95 = .ok (.istore_n 3, 1) := by decide +kernel
theorem dX4_advise_96 : decode cX4_advise 96 = .ok (.bipush 10, 2) := by decide +kernel
theorem dX4_advise_98 : decode cX4_advise 98 = .ok (.iload 6, 2) := by decide +kernel
theorem dX4_advise_100 : decode cX4_advise 100 = .ok (.imul, 1) := by decide +kernel
theorem dX4_advise_101 : decode cX4_advise 101 = .ok (.iload 7, 2) := by decide +kernel
theorem dX4_advise_103 : decode cX4_advise 103 = .ok (.iadd, 1) := by decide +kernel
theorem dX4_advise_104 : decode cX4_advise 104 = .ok (.istore 4, 2) := by decide +kernel
theorem dX4_advise_106 : decode cX4_advise 106 = .ok (.iinc 7 1, 3) := by decide +kernel
theorem dX4_advise_109 : decode cX4_advise 109 = .ok (.goto (-45), 3) := by decide +kernel
theorem dX4_advise_112 : decode cX4_advise 112 = .ok (.iinc 6 1, 3) := by decide +kernel
theorem dX4_advise_115 : decode cX4_advise 115 = .ok (.goto (-61), 3) := by decide +kernel
theorem dX4_advise_118 : decode cX4_advise 118 = .ok (.iload 4, 2) := by decide +kernel
theorem dX4_advise_120 : decode cX4_advise 120 = .ok (.ireturn, 1) := by decide +kernel
theorem dX4_mean_0 : decode cX4_mean 0 = .ok (.aload_n 0, 1) := by decide +kernel
theorem dX4_mean_1 : decode cX4_mean 1 = .ok (.getfield 10, 3) := by decide +kernel
theorem dX4_mean_4 : decode cX4_mean 4 = .ok (.getfield 167, 3) := by decide +kernel
theorem dX4_mean_7 : decode cX4_mean 7 = .ok (.ifCond .ne 5, 3) := by decide +kernel
theorem dX4_mean_10 : decode cX4_mean 10 = .ok (.dconst 0, 1) := by decide +kernel
theorem dX4_mean_11 : decode cX4_mean 11 = .ok (.dreturn, 1) := by decide +kernel
theorem dX4_mean_12 : decode cX4_mean 12 = .ok (.aload_n 0, 1) := by decide +kernel
theorem dX4_mean_13 : decode cX4_mean 13 = .ok (.getfield 10, 3) := by decide +kernel
theorem dX4_mean_16 : decode cX4_mean 16 = .ok (.invokevirtual 170, 3) := by decide +kernel
theorem dX4_mean_19 : decode cX4_mean 19 = .ok (.i2d, 1) := by decide +kernel
theorem dX4_mean_20 : decode cX4_mean 20 = .ok (.aload_n 0, 1) := by decide +kernel
theorem dX4_mean_21 : decode cX4_mean 21 = .ok (.getfield 10, 3) := by decide +kernel
theorem dX4_mean_24 : decode cX4_mean 24 = .ok (.getfield 167, 3) := by decide +kernel
theorem dX4_mean_27 : decode cX4_mean 27 = .ok (.i2d, 1) := by decide +kernel
theorem dX4_mean_28 : decode cX4_mean 28 = .ok (.ddiv, 1) := by decide +kernel
theorem dX4_mean_29 : decode cX4_mean 29 = .ok (.dreturn, 1) := by decide +kernel
theorem dX4_digest_0 : decode cX4_digest 0 = .ok (.ldc2_w 173, 3) := by decide +kernel
theorem dX4_digest_3 : decode cX4_digest 3 = .ok (.lstore_n 1, 1) := by decide +kernel
theorem dX4_digest_4 : decode cX4_digest 4 = .ok (.iconst 0, 1) := by decide +kernel
theorem dX4_digest_5 : decode cX4_digest 5 = .ok (.istore_n 3, 1) := by decide +kernel
theorem dX4_digest_6 : decode cX4_digest 6 = .ok (.iload_n 3, 1) := by decide +kernel
theorem dX4_digest_7 : decode cX4_digest 7 = .ok (.bipush 9, 2) := by decide +kernel
theorem dX4_digest_9 : decode cX4_digest 9 = .ok (.if_icmp .ge 25, 3) := by decide +kernel
theorem dX4_digest_12 : decode cX4_digest 12 = .ok (.lload_n 1, 1) := by decide +kernel
theorem dX4_digest_13 : decode cX4_digest 13 = .ok (.ldc2_w 175, 3) := by decide +kernel
theorem dX4_digest_16 : decode cX4_digest 16 = .ok (.lmul, 1) := by decide +kernel
theorem dX4_digest_17 : decode cX4_digest 17 = .ok (.aload_n 0, 1) := by decide +kernel
theorem dX4_digest_18 : decode cX4_digest 18 = .ok (.getfield 10, 3) := by decide +kernel
theorem dX4_digest_21 : decode cX4_digest 21 = .ok (.iload_n 3, 1) := by decide +kernel
theorem dX4_digest_22 : decode cX4_digest 22 = .ok (.invokevirtual 147, 3) := by decide +kernel
theorem dX4_digest_25 : decode cX4_digest 25 = .ok (.i2l, 1) := by decide +kernel
theorem dX4_digest_26 : decode cX4_digest 26 = .ok (.ladd, 1) := by decide +kernel
theorem dX4_digest_27 : decode cX4_digest 27 = .ok (.lstore_n 1, 1) := by decide +kernel
theorem dX4_digest_28 : decode cX4_digest 28 = .ok (.iinc 3 1, 3) := by decide +kernel
theorem dX4_digest_31 : decode cX4_digest 31 = .ok (.goto (-25), 3) := by decide +kernel
theorem dX4_digest_34 : decode cX4_digest 34 = .ok (.iconst 0, 1) := by decide +kernel
theorem dX4_digest_35 : decode cX4_digest 35 = .ok (.istore_n 3, 1) := by decide +kernel
theorem dX4_digest_36 : decode cX4_digest 36 = .ok (.iload_n 3, 1) := by decide +kernel
theorem dX4_digest_37 : decode cX4_digest 37 = .ok (.aload_n 0, 1) := by decide +kernel
theorem dX4_digest_38 : decode cX4_digest 38 = .ok (.getfield 10, 3) := by decide +kernel
theorem dX4_digest_41 : decode cX4_digest 41 = .ok (.getfield 26, 3) := by decide +kernel
theorem dX4_digest_44 : decode cX4_digest 44 = .ok (.if_icmp .ge 60, 3) := by decide +kernel
theorem dX4_digest_47 : decode cX4_digest 47 = .ok (.iconst 0, 1) := by decide +kernel
theorem dX4_digest_48 : decode cX4_digest 48 = .ok (.istore 4, 2) := by decide +kernel
theorem dX4_digest_50 : decode cX4_digest 50 = .ok (.iload 4, 2) := by decide +kernel
theorem dX4_digest_52 : decode cX4_digest 52 = .ok (.bipush 7, 2) := by decide +kernel
theorem dX4_digest_54 : decode cX4_digest 54 = .ok (.if_icmp .ge 27, 3) := by decide +kernel
theorem dX4_digest_57 : decode cX4_digest 57 = .ok (.lload_n 1, 1) := by decide +kernel
theorem dX4_digest_58 : decode cX4_digest 58 = .ok (.ldc2_w 175, 3) := by decide +kernel
theorem dX4_digest_61 : decode cX4_digest 61 = .ok (.lmul, 1) := by decide +kernel
theorem dX4_digest_62 : decode cX4_digest 62 = .ok (.aload_n 0, 1) := by decide +kernel
theorem dX4_digest_63 : decode cX4_digest 63 = .ok (.getfield 10, 3) := by decide +kernel
theorem dX4_digest_66 : decode cX4_digest 66 = .ok (.iload_n 3, 1) := by decide +kernel
theorem dX4_digest_67 : decode cX4_digest 67 = .ok (.iload 4, 2) := by decide +kernel
theorem dX4_digest_69 : decode cX4_digest 69 = .ok (.invokevirtual 128, 3) := by decide +kernel
theorem dX4_digest_72 : decode cX4_digest 72 = .ok (.i2l, 1) := by decide +kernel
theorem dX4_digest_73 : decode cX4_digest 73 = .ok (.ladd, 1) := by decide +kernel
theorem dX4_digest_74 : decode cX4_digest 74 = .ok (.lstore_n 1, 1) := by decide +kernel
theorem dX4_digest_75 : decode cX4_digest 75 = .ok (.iinc 4 1, 3) := by decide +kernel
theorem dX4_digest_78 : decode cX4_digest 78 = .ok (.goto (-28), 3) := by decide +kernel
theorem dX4_digest_81 : decode cX4_digest 81 = .ok (.aload_n 0, 1) := by decide +kernel
theorem dX4_digest_82 : decode cX4_digest 82 = .ok (.getfield 10, 3) := by decide +kernel
theorem dX4_digest_85 : decode cX4_digest 85 = .ok (.getfield 50, 3) := by decide +kernel
theorem dX4_digest_88 : decode cX4_digest 88 = .ok (.iload_n 3, 1) := by decide +kernel
theorem dX4_digest_89 : decode cX4_digest 89 = .ok (.aaload, 1) := by decide +kernel
theorem dX4_digest_90 : decode cX4_digest 90 = .ok (.getfield 54, 3) := by decide +kernel
theorem dX4_digest_93 : decode cX4_digest 93 = .ok (.lload_n 1, 1) := by decide +kernel
theorem dX4_digest_94 : decode cX4_digest 94 = .ok (.invokevirtual 177, 3) := by decide +kernel
theorem dX4_digest_97 : decode cX4_digest 97 = .ok (.lstore_n 1, 1) := by decide +kernel
theorem dX4_digest_98 : decode cX4_digest 98 = .ok (.iinc 3 1, 3) := by decide +kernel
theorem dX4_digest_101 : decode cX4_digest 101 = .ok (.goto (-65), 3) := by decide +kernel
theorem dX4_digest_104 : decode cX4_digest 104 = .ok (.iconst 0, 1) := by decide +kernel
theorem dX4_digest_105 : decode cX4_digest 105 = .ok (.istore_n 3, 1) := by decide +kernel
theorem dX4_digest_106 : decode cX4_digest 106 = .ok (.iload_n 3, 1) := by decide +kernel
theorem dX4_digest_107 : decode cX4_digest 107 = .ok (.aload_n 0, 1) := by decide +kernel
theorem dX4_digest_108 : decode cX4_digest 108 = .ok (.getfield 10, 3) := by decide +kernel
theorem dX4_digest_111 : decode cX4_digest 111 = .ok (.getfield 85, 3) := by decide +kernel
theorem dX4_digest_114 : decode cX4_digest 114 = .ok (.if_icmp .ge 43, 3) := by decide +kernel
theorem dX4_digest_117 : decode cX4_digest 117 = .ok (.iconst 0, 1) := by decide +kernel
theorem dX4_digest_118 : decode cX4_digest 118 = .ok (.istore 4, 2) := by decide +kernel
theorem dX4_digest_120 : decode cX4_digest 120 = .ok (.iload 4, 2) := by decide +kernel
theorem dX4_digest_122 : decode cX4_digest 122 = .ok (.bipush 7, 2) := by decide +kernel
theorem dX4_digest_124 : decode cX4_digest 124 = .ok (.if_icmp .ge 27, 3) := by decide +kernel
theorem dX4_digest_127 : decode cX4_digest 127 = .ok (.lload_n 1, 1) := by decide +kernel
theorem dX4_digest_128 : decode cX4_digest 128 = .ok (.ldc2_w 175, 3) := by decide +kernel
theorem dX4_digest_131 : decode cX4_digest 131 = .ok (.lmul, 1) := by decide +kernel
theorem dX4_digest_132 : decode cX4_digest 132 = .ok (.aload_n 0, 1) := by decide +kernel
theorem dX4_digest_133 : decode cX4_digest 133 = .ok (.getfield 10, 3) := by decide +kernel
theorem dX4_digest_136 : decode cX4_digest 136 = .ok (.iload_n 3, 1) := by decide +kernel
theorem dX4_digest_137 : decode cX4_digest 137 = .ok (.iload 4, 2) := by decide +kernel
theorem dX4_digest_139 : decode cX4_digest 139 = .ok (.invokevirtual 124, 3) := by decide +kernel
theorem dX4_digest_142 : decode cX4_digest 142 = .ok (.i2l, 1) := by decide +kernel
theorem dX4_digest_143 : decode cX4_digest 143 = .ok (.ladd, 1) := by decide +kernel
theorem dX4_digest_144 : decode cX4_digest 144 = .ok (.lstore_n 1, 1) := by decide +kernel
theorem dX4_digest_145 : decode cX4_digest 145 = .ok (.iinc 4 1, 3) := by decide +kernel
theorem dX4_digest_148 : decode cX4_digest 148 = .ok (.goto (-28), 3) := by decide +kernel
theorem dX4_digest_151 : decode cX4_digest 151 = .ok (.iinc 3 1, 3) := by decide +kernel
theorem dX4_digest_154 : decode cX4_digest 154 = .ok (.goto (-48), 3) := by decide +kernel
theorem dX4_digest_157 : decode cX4_digest 157 = .ok (.lload_n 1, 1) := by decide +kernel
theorem dX4_digest_158 : decode cX4_digest 158 = .ok (.lreturn, 1) := by decide +kernel
theorem dX4_fallenWith_0 : decode cX4_fallenWith 0 = .ok (.aload_n 0, 1) := by decide +kernel
theorem dX4_fallenWith_1 : decode cX4_fallenWith 1 = .ok (.getfield 16, 3) := by decide +kernel
theorem dX4_fallenWith_4 : decode cX4_fallenWith 4 = .ok (.aload_n 0, 1) := by decide +kernel
theorem dX4_fallenWith_5 : decode cX4_fallenWith 5 = .ok (.getfield 10, 3) := by decide +kernel
theorem dX4_fallenWith_8 : decode cX4_fallenWith 8 = .ok (.invokevirtual 150, 3) := by decide +kernel
theorem dX4_fallenWith_11 : decode cX4_fallenWith 11 = .ok (.aload_n 0, 1) := by decide +kernel
theorem dX4_fallenWith_12 : decode cX4_fallenWith 12 = .ok (.getfield 16, 3) := by decide +kernel
theorem dX4_fallenWith_15 : decode cX4_fallenWith 15 = .ok (.getfield 50, 3) := by decide +kernel
theorem dX4_fallenWith_18 : decode cX4_fallenWith 18 = .ok (.iload_n 1, 1) := by decide +kernel
theorem dX4_fallenWith_19 : decode cX4_fallenWith 19 = .ok (.aaload, 1) := by decide +kernel
theorem dX4_fallenWith_20 : decode cX4_fallenWith 20 = .ok (.getfield 54, 3) := by decide +kernel
theorem dX4_fallenWith_23 : decode cX4_fallenWith 23 = .ok (.getfield 80, 3) := by decide +kernel
theorem dX4_fallenWith_26 : decode cX4_fallenWith 26 = .ok (.iload_n 2, 1) := by decide +kernel
theorem dX4_fallenWith_27 : decode cX4_fallenWith 27 = .ok (.iload_n 3, 1) := by decide +kernel
theorem dX4_fallenWith_28 : decode cX4_fallenWith 28 = .ok (.iastore, 1) := by decide +kernel
theorem dX4_fallenWith_29 : decode cX4_fallenWith 29 = .ok (.aload_n 0, 1) := by decide +kernel
theorem dX4_fallenWith_30 : decode cX4_fallenWith 30 = .ok (.getfield 16, 3) := by decide +kernel
theorem dX4_fallenWith_33 : decode cX4_fallenWith 33 = .ok (.iload 4, 2) := by decide +kernel
theorem dX4_fallenWith_35 : decode cX4_fallenWith 35 = .ok (.invokevirtual 144, 3) := by decide +kernel
theorem dX4_fallenWith_38 : decode cX4_fallenWith 38 = .ok (.ireturn, 1) := by decide +kernel
theorem dX4_testJuggler_0 : decode cX4_testJuggler 0 = .ok (.aload_n 0, 1) := by decide +kernel
theorem dX4_testJuggler_1 : decode cX4_testJuggler 1 = .ok (.getfield 10, 3) := by decide +kernel
theorem dX4_testJuggler_4 : decode cX4_testJuggler 4 = .ok (.iload_n 1, 1) := by decide +kernel
theorem dX4_testJuggler_5 : decode cX4_testJuggler 5 = .ok (.invokevirtual 181, 3) := by decide +kernel
theorem dX4_testJuggler_8 : decode cX4_testJuggler 8 = .ok (.ifCond .ne 13, 3) := by decide +kernel
theorem dX4_testJuggler_11 : decode cX4_testJuggler 11 = .ok (.new 96, 3) := by decide +kernel
theorem dX4_testJuggler_14 : decode cX4_testJuggler 14 = .ok (.dup, 1) := by decide +kernel
theorem dX4_testJuggler_15 : decode cX4_testJuggler 15 = .ok (.ldc 185, 2) := by decide +kernel
theorem dX4_testJuggler_17 : decode cX4_testJuggler 17 = .ok (.invokespecial 100, 3) := by decide +kernel
theorem dX4_testJuggler_20 : decode cX4_testJuggler 20 = .ok (.athrow, 1) := by decide +kernel
theorem dX4_testJuggler_21 : decode cX4_testJuggler 21 = .ok (.return_, 1) := by decide +kernel
theorem dX4_testPlace_0 : decode cX4_testPlace 0 = .ok (.aload_n 0, 1) := by decide +kernel
theorem dX4_testPlace_1 : decode cX4_testPlace 1 = .ok (.iload_n 1, 1) := by decide +kernel
theorem dX4_testPlace_2 : decode cX4_testPlace 2 = .ok (.invokevirtual 39, 3) := by decide +kernel
theorem dX4_testPlace_5 : decode cX4_testPlace 5 = .ok (.iload_n 2, 1) := by decide +kernel
theorem dX4_testPlace_6 : decode cX4_testPlace 6 = .ok (.ifCond .lt 22, 3) := by decide +kernel
theorem dX4_testPlace_9 : decode cX4_testPlace 9 = .ok (.iload_n 2, 1) := by decide +kernel
theorem dX4_testPlace_10 : decode cX4_testPlace 10 = .ok (.aload_n 0, 1) := by decide +kernel
theorem dX4_testPlace_11 : decode cX4_testPlace 11 = .ok (.getfield 10, 3) := by decide +kernel
theorem dX4_testPlace_14 : decode cX4_testPlace 14 = .ok (.getfield 50, 3) := by decide +kernel
theorem dX4_testPlace_17 : decode cX4_testPlace 17 = .ok (.iload_n 1, 1) := by decide +kernel
theorem dX4_testPlace_18 : decode cX4_testPlace 18 = .ok (.aaload, 1) := by decide +kernel
theorem dX4_testPlace_19 : decode cX4_testPlace 19 = .ok (.getfield 54, 3) := by decide +kernel
theorem dX4_testPlace_22 : decode cX4_testPlace 22 = .ok (.getfield 60, 3) := by decide +kernel
theorem dX4_testPlace_25 : decode cX4_testPlace 25 = .ok (.if_icmp .lt 13, 3) := by decide +kernel
theorem dX4_testPlace_28 : decode cX4_testPlace 28 = .ok (.new 96, 3) := by decide +kernel
theorem dX4_testPlace_31 : decode cX4_testPlace 31 = .ok (.dup, 1) := by decide +kernel
theorem dX4_testPlace_32 : decode cX4_testPlace 32 = .ok (.ldc 187, 2) := by decide +kernel
theorem dX4_testPlace_34 : decode cX4_testPlace 34 = .ok (.invokespecial 100, 3) := by decide +kernel
theorem dX4_testPlace_37 : decode cX4_testPlace 37 = .ok (.athrow, 1) := by decide +kernel
theorem dX4_testPlace_38 : decode cX4_testPlace 38 = .ok (.return_, 1) := by decide +kernel
theorem dX4_testThing_0 : decode cX4_testThing 0 = .ok (.aload_n 0, 1) := by decide +kernel
theorem dX4_testThing_1 : decode cX4_testThing 1 = .ok (.getfield 10, 3) := by decide +kernel
theorem dX4_testThing_4 : decode cX4_testThing 4 = .ok (.iload_n 1, 1) := by decide +kernel
theorem dX4_testThing_5 : decode cX4_testThing 5 = .ok (.invokevirtual 189, 3) := by decide +kernel
theorem dX4_testThing_8 : decode cX4_testThing 8 = .ok (.ifCond .ne 13, 3) := by decide +kernel
theorem dX4_testThing_11 : decode cX4_testThing 11 = .ok (.new 96, 3) := by decide +kernel
theorem dX4_testThing_14 : decode cX4_testThing 14 = .ok (.dup, 1) := by decide +kernel
theorem dX4_testThing_15 : decode cX4_testThing 15 = .ok (.ldc 192, 2) := by decide +kernel
theorem dX4_testThing_17 : decode cX4_testThing 17 = .ok (.invokespecial 100, 3) := by decide +kernel
theorem dX4_testThing_20 : decode cX4_testThing 20 = .ok (.athrow, 1) := by decide +kernel
theorem dX4_testThing_21 : decode cX4_testThing 21 = .ok (.return_, 1) := by decide +kernel
theorem dX4_testWhat_0 : decode cX4_testWhat 0 = .ok (.iload_n 0, 1) := by decide +kernel
theorem dX4_testWhat_1 : decode cX4_testWhat 1 = .ok (.ifCond .lt 8, 3) := by decide +kernel
theorem dX4_testWhat_4 : decode cX4_testWhat 4 = .ok (.iload_n 0, 1) := by decide +kernel
theorem dX4_testWhat_5 : decode cX4_testWhat 5 = .ok (.iload_n 1, 1) := by decide +kernel
theorem dX4_testWhat_6 : decode cX4_testWhat 6 = .ok (.if_icmp .lt 13, 3) := by decide +kernel
theorem dX4_testWhat_9 : decode cX4_testWhat 9 = .ok (.new 96, 3) := by decide +kernel
theorem dX4_testWhat_12 : decode cX4_testWhat 12 = .ok (.dup, 1) := by decide +kernel
theorem dX4_testWhat_13 : decode cX4_testWhat 13 = .ok (.ldc 194, 2) := by decide +kernel
theorem dX4_testWhat_15 : decode cX4_testWhat 15 = .ok (.invokespecial 100, 3) := by decide +kernel
theorem dX4_testWhat_18 : decode cX4_testWhat 18 = .ok (.athrow, 1) := by decide +kernel
theorem dX4_testWhat_19 : decode cX4_testWhat 19 = .ok (.return_, 1) := by decide +kernel
theorem dX4_testBeats_0 : decode cX4_testBeats 0 = .ok (.iload_n 0, 1) := by decide +kernel
theorem dX4_testBeats_1 : decode cX4_testBeats 1 = .ok (.iconst 1, 1) := by decide +kernel
theorem dX4_testBeats_2 : decode cX4_testBeats 2 = .ok (.if_icmp .lt 8, 3) := by decide +kernel
theorem dX4_testBeats_5 : decode cX4_testBeats 5 = .ok (.iload_n 0, 1) := by decide +kernel
theorem dX4_testBeats_6 : decode cX4_testBeats 6 = .ok (.iload_n 1, 1) := by decide +kernel
theorem dX4_testBeats_7 : decode cX4_testBeats 7 = .ok (.if_icmp .le 13, 3) := by decide +kernel
theorem dX4_testBeats_10 : decode cX4_testBeats 10 = .ok (.new 19, 3) := by decide +kernel
theorem dX4_testBeats_13 : decode cX4_testBeats 13 = .ok (.dup, 1) := by decide +kernel
theorem dX4_testBeats_14 : decode cX4_testBeats 14 = .ok (.ldc 196, 2) := by decide +kernel
theorem dX4_testBeats_16 : decode cX4_testBeats 16 = .ok (.invokespecial 23, 3) := by decide +kernel
theorem dX4_testBeats_19 : decode cX4_testBeats 19 = .ok (.athrow, 1) := by decide +kernel
theorem dX4_testBeats_20 : decode cX4_testBeats 20 = .ok (.return_, 1) := by decide +kernel
theorem dX4_powerOfTen_0 : decode cX4_powerOfTen 0 = .ok (.iconst 1, 1) := by decide +kernel
theorem dX4_powerOfTen_1 : decode cX4_powerOfTen 1 = .ok (.istore_n 1, 1) := by decide +kernel
theorem dX4_powerOfTen_2 : decode cX4_powerOfTen 2 = .ok (.iconst 0, 1) := by decide +kernel
theorem dX4_powerOfTen_3 : decode cX4_powerOfTen 3 = .ok (.istore_n 2, 1) := by decide +kernel
theorem dX4_powerOfTen_4 : decode cX4_powerOfTen 4 = .ok (.iload_n 2, 1) := by decide +kernel
theorem dX4_powerOfTen_5 : decode cX4_powerOfTen 5 = .ok (.iload_n 0, 1) := by decide +kernel
theorem dX4_powerOfTen_6 : decode cX4_powerOfTen 6 = .ok (.if_icmp .ge 14, 3) := by decide +kernel
theorem dX4_powerOfTen_9 : decode cX4_powerOfTen 9 = .ok (.iload_n 1, 1) := by decide +kernel
theorem dX4_powerOfTen_10 : decode cX4_powerOfTen 10 = .ok (.bipush 10, 2) := by decide +kernel
theorem dX4_powerOfTen_12 : decode cX4_powerOfTen 12 = .ok (.imul, 1) := by decide +kernel
theorem dX4_powerOfTen_13 : decode cX4_powerOfTen 13 = .ok (.istore_n 1, 1) := by decide +kernel
theorem dX4_powerOfTen_14 : decode cX4_powerOfTen 14 = .ok (.iinc 2 1, 3) := by decide +kernel
theorem dX4_powerOfTen_17 : decode cX4_powerOfTen 17 = .ok (.goto (-13), 3) := by decide +kernel
theorem dX4_powerOfTen_20 : decode cX4_powerOfTen 20 = .ok (.iload_n 1, 1) := by decide +kernel
theorem dX4_powerOfTen_21 : decode cX4_powerOfTen 21 = .ok (.ireturn, 1) := by decide +kernel
end
section
theorem dX5_init_0 : decode cX5_init 0 = .ok (.aload_n 0, 1) := by decide +kernel
theorem dX5_init_1 : decode cX5_init 1 = .ok (.aload_n 1, 1) := by decide +kernel
theorem dX5_init_2 : decode cX5_init 2 = .ok (.putfield 3, 3) := by decide +kernel
theorem dX5_init_5 : decode cX5_init 5 = .ok (.aload_n 0, 1) := by decide +kernel
theorem dX5_init_6 : decode cX5_init 6 = .ok (.invokespecial 9, 3) := by decide +kernel
theorem dX5_init_9 : decode cX5_init 9 = .ok (.aload_n 0, 1) := by decide +kernel
theorem dX5_init_10 : decode cX5_init 10 = .ok (.iconst 4, 1) := by decide +kernel
theorem dX5_init_11 : decode cX5_init 11 = .ok (.newarray .int, 2) := by decide +kernel
theorem dX5_init_13 : decode cX5_init 13 = .ok (.putfield 15, 3) := by decide +kernel
theorem dX5_init_16 : decode cX5_init 16 = .ok (.aload_n 0, 1) := by decide +kernel
theorem dX5_init_17 : decode cX5_init 17 = .ok (.iconst 4, 1) := by decide +kernel
theorem dX5_init_18 : decode cX5_init 18 = .ok (.newarray .int, 2) := by decide +kernel
theorem dX5_init_20 : decode cX5_init 20 = .ok (.putfield 19, 3) := by decide +kernel
theorem dX5_init_23 : decode cX5_init 23 = .ok (.aload_n 0, 1) := by decide +kernel
theorem dX5_init_24 : decode cX5_init 24 = .ok (.bipush 8, 2) := by decide +kernel
theorem dX5_init_26 : decode cX5_init 26 = .ok (.newarray .int, 2) := by decide +kernel
theorem dX5_init_28 : decode cX5_init 28 = .ok (.putfield 22, 3) := by decide +kernel
theorem dX5_init_31 : decode cX5_init 31 = .ok (.aload_n 0, 1) := by decide +kernel
theorem dX5_init_32 : decode cX5_init 32 = .ok (.bipush 12, 2) := by decide +kernel
theorem dX5_init_34 : decode cX5_init 34 = .ok (.newarray .int, 2) := by decide +kernel
theorem dX5_init_36 : decode cX5_init 36 = .ok (.putfield 25, 3) := by decide +kernel
theorem dX5_init_39 : decode cX5_init 39 = .ok (.aload_n 0, 1) := by decide +kernel
theorem dX5_init_40 : decode cX5_init 40 = .ok (.bipush 12, 2) := by decide +kernel
theorem dX5_init_42 : decode cX5_init 42 = .ok (.newarray .int, 2) := by decide +kernel
theorem dX5_init_44 : decode cX5_init 44 = .ok (.putfield 28, 3) := by decide +kernel
theorem dX5_init_47 : decode cX5_init 47 = .ok (.aload_n 0, 1) := by decide +kernel
theorem dX5_init_48 : decode cX5_init 48 = .ok (.bipush 12, 2) := by decide +kernel
theorem dX5_init_50 : decode cX5_init 50 = .ok (.newarray .int, 2) := by decide +kernel
theorem dX5_init_52 : decode cX5_init 52 = .ok (.putfield 31, 3) := by decide +kernel
theorem dX5_init_55 : decode cX5_init 55 = .ok (.aload_n 0, 1) := by decide +kernel
theorem dX5_init_56 : decode cX5_init 56 = .ok (.bipush 12, 2) := by decide +kernel
theorem dX5_init_58 : decode cX5_init 58 = .ok (.newarray .int, 2) := by decide +kernel
theorem dX5_init_60 : decode cX5_init 60 = .ok (.putfield 34, 3) := by decide +kernel
theorem dX5_init_63 : decode cX5_init 63 = .ok (.aload_n 0, 1) := by decide +kernel
theorem dX5_init_64 : decode cX5_init 64 = .ok (.bipush 12, 2) := by decide +kernel
theorem dX5_init_66 : decode cX5_init 66 = .ok (.newarray .int, 2) := by decide +kernel
theorem dX5_init_68 : decode cX5_init 68 = .ok (.putfield 37, 3) := by decide +kernel
theorem dX5_init_71 : decode cX5_init 71 = .ok (.aload_n 0, 1) := by decide +kernel
theorem dX5_init_72 : decode cX5_init 72 = .ok (.bipush 12, 2) := by decide +kernel
theorem dX5_init_74 : decode cX5_init 74 = .ok (.newarray .int, 2) := by decide +kernel
theorem dX5_init_76 : decode cX5_init 76 = .ok (.putfield 40, 3) := by decide +kernel
theorem dX5_init_79 : decode cX5_init 79 = .ok (.return_, 1) := by decide +kernel
theorem dX5_copy_0 : decode cX5_copy 0 = .ok (.aload_n 1, 1) := by decide +kernel
theorem dX5_copy_1 : decode cX5_copy 1 = .ok (.iconst 0, 1) := by decide +kernel
theorem dX5_copy_2 : decode cX5_copy 2 = .ok (.aload_n 2, 1) := by decide +kernel
theorem dX5_copy_3 : decode cX5_copy 3 = .ok (.iconst 0, 1) := by decide +kernel
theorem dX5_copy_4 : decode cX5_copy 4 = .ok (.aload_n 1, 1) := by decide +kernel
theorem dX5_copy_5 : decode cX5_copy 5 = .ok (.arraylength, 1) := by decide +kernel
theorem dX5_copy_6 : decode cX5_copy 6 = .ok (.invokestatic 43, 3) := by decide +kernel
theorem dX5_copy_9 : decode cX5_copy 9 = .ok (.return_, 1) := by decide +kernel
theorem dX5_become_0 : decode cX5_become 0 = .ok (.aload_n 0, 1) := by decide +kernel
theorem dX5_become_1 : decode cX5_become 1 = .ok (.aload_n 1, 1) := by decide +kernel
theorem dX5_become_2 : decode cX5_become 2 = .ok (.getfield 49, 3) := by decide +kernel
theorem dX5_become_5 : decode cX5_become 5 = .ok (.putfield 49, 3) := by decide +kernel
theorem dX5_become_8 : decode cX5_become 8 = .ok (.aload_n 0, 1) := by decide +kernel
theorem dX5_become_9 : decode cX5_become 9 = .ok (.aload_n 1, 1) := by decide +kernel
theorem dX5_become_10 : decode cX5_become 10 = .ok (.getfield 15, 3) := by decide +kernel
theorem dX5_become_13 : decode cX5_become 13 = .ok (.aload_n 0, 1) := by decide +kernel
theorem dX5_become_14 : decode cX5_become 14 = .ok (.getfield 15, 3) := by decide +kernel
theorem dX5_become_17 : decode cX5_become 17 = .ok (.invokevirtual 53, 3) := by decide +kernel
theorem dX5_become_20 : decode cX5_become 20 = .ok (.aload_n 0, 1) := by decide +kernel
theorem dX5_become_21 : decode cX5_become 21 = .ok (.aload_n 1, 1) := by decide +kernel
theorem dX5_become_22 : decode cX5_become 22 = .ok (.getfield 19, 3) := by decide +kernel
theorem dX5_become_25 : decode cX5_become 25 = .ok (.aload_n 0, 1) := by decide +kernel
theorem dX5_become_26 : decode cX5_become 26 = .ok (.getfield 19, 3) := by decide +kernel
theorem dX5_become_29 : decode cX5_become 29 = .ok (.invokevirtual 53, 3) := by decide +kernel
theorem dX5_become_32 : decode cX5_become 32 = .ok (.aload_n 0, 1) := by decide +kernel
theorem dX5_become_33 : decode cX5_become 33 = .ok (.aload_n 1, 1) := by decide +kernel
theorem dX5_become_34 : decode cX5_become 34 = .ok (.getfield 22, 3) := by decide +kernel
theorem dX5_become_37 : decode cX5_become 37 = .ok (.aload_n 0, 1) := by decide +kernel
theorem dX5_become_38 : decode cX5_become 38 = .ok (.getfield 22, 3) := by decide +kernel
theorem dX5_become_41 : decode cX5_become 41 = .ok (.invokevirtual 53, 3) := by decide +kernel
theorem dX5_become_44 : decode cX5_become 44 = .ok (.aload_n 0, 1) := by decide +kernel
theorem dX5_become_45 : decode cX5_become 45 = .ok (.aload_n 1, 1) := by decide +kernel
theorem dX5_become_46 : decode cX5_become 46 = .ok (.getfield 25, 3) := by decide +kernel
theorem dX5_become_49 : decode cX5_become 49 = .ok (.aload_n 0, 1) := by decide +kernel
theorem dX5_become_50 : decode cX5_become 50 = .ok (.getfield 25, 3) := by decide +kernel
theorem dX5_become_53 : decode cX5_become 53 = .ok (.invokevirtual 53, 3) := by decide +kernel
theorem dX5_become_56 : decode cX5_become 56 = .ok (.aload_n 0, 1) := by decide +kernel
theorem dX5_become_57 : decode cX5_become 57 = .ok (.aload_n 1, 1) := by decide +kernel
theorem dX5_become_58 : decode cX5_become 58 = .ok (.getfield 28, 3) := by decide +kernel
theorem dX5_become_61 : decode cX5_become 61 = .ok (.aload_n 0, 1) := by decide +kernel
theorem dX5_become_62 : decode cX5_become 62 = .ok (.getfield 28, 3) := by decide +kernel
theorem dX5_become_65 : decode cX5_become 65 = .ok (.invokevirtual 53, 3) := by decide +kernel
theorem dX5_become_68 : decode cX5_become 68 = .ok (.aload_n 0, 1) := by decide +kernel
theorem dX5_become_69 : decode cX5_become 69 = .ok (.aload_n 1, 1) := by decide +kernel
theorem dX5_become_70 : decode cX5_become 70 = .ok (.getfield 31, 3) := by decide +kernel
theorem dX5_become_73 : decode cX5_become 73 = .ok (.aload_n 0, 1) := by decide +kernel
theorem dX5_become_74 : decode cX5_become 74 = .ok (.getfield 31, 3) := by decide +kernel
theorem dX5_become_77 : decode cX5_become 77 = .ok (.invokevirtual 53, 3) := by decide +kernel
theorem dX5_become_80 : decode cX5_become 80 = .ok (.aload_n 0, 1) := by decide +kernel
theorem dX5_become_81 : decode cX5_become 81 = .ok (.aload_n 1, 1) := by decide +kernel
theorem dX5_become_82 : decode cX5_become 82 = .ok (.getfield 34, 3) := by decide +kernel
theorem dX5_become_85 : decode cX5_become 85 = .ok (.aload_n 0, 1) := by decide +kernel
theorem dX5_become_86 : decode cX5_become 86 = .ok (.getfield 34, 3) := by decide +kernel
theorem dX5_become_89 : decode cX5_become 89 = .ok (.invokevirtual 53, 3) := by decide +kernel
theorem dX5_become_92 : decode cX5_become 92 = .ok (.aload_n 0, 1) := by decide +kernel
theorem dX5_become_93 : decode cX5_become 93 = .ok (.aload_n 1, 1) := by decide +kernel
theorem dX5_become_94 : decode cX5_become 94 = .ok (.getfield 37, 3) := by decide +kernel
theorem dX5_become_97 : decode cX5_become 97 = .ok (.aload_n 0, 1) := by decide +kernel
theorem dX5_become_98 : decode cX5_become 98 = .ok (.getfield 37, 3) := by decide +kernel
theorem dX5_become_101 : decode cX5_become 101 = .ok (.invokevirtual 53, 3) := by decide +kernel
theorem dX5_become_104 : decode cX5_become 104 = .ok (.aload_n 0, 1) := by decide +kernel
theorem dX5_become_105 : decode cX5_become 105 = .ok (.aload_n 1, 1) := by decide +kernel
theorem dX5_become_106 : decode cX5_become 106 = .ok (.getfield 40, 3) := by decide +kernel
theorem dX5_become_109 : decode cX5_become 109 = .ok (.aload_n 0, 1) := by decide +kernel
theorem dX5_become_110 : decode cX5_become 110 = .ok (.getfield 40, 3) := by decide +kernel
theorem dX5_become_113 : decode cX5_become 113 = .ok (.invokevirtual 53, 3) := by decide +kernel
theorem dX5_become_116 : decode cX5_become 116 = .ok (.return_, 1) := by decide +kernel
theorem dX5_comeDown_0 : decode cX5_comeDown 0 = .ok (.aload_n 0, 1) := by decide +kernel
theorem dX5_comeDown_1 : decode cX5_comeDown 1 = .ok (.getfield 28, 3) := by decide +kernel
theorem dX5_comeDown_4 : decode cX5_comeDown 4 = .ok (.iload_n 1, 1) := by decide +kernel
theorem dX5_comeDown_5 : decode cX5_comeDown 5 = .ok (.iaload, 1) := by decide +kernel
theorem dX5_comeDown_6 : decode cX5_comeDown 6 = .ok (.istore_n 2, 1) := by decide +kernel
theorem dX5_comeDown_7 : decode cX5_comeDown 7 = .ok (.iconst 2, 1) := by decide +kernel
theorem dX5_comeDown_8 : decode cX5_comeDown 8 = .ok (.iload_n 2, 1) := by decide +kernel
theorem dX5_comeDown_9 : decode cX5_comeDown 9 = .ok (.imul, 1) := by decide +kernel
theorem dX5_comeDown_10 : decode cX5_comeDown 10 = .ok (.aload_n 0, 1) := by decide +kernel
theorem dX5_comeDown_11 : decode cX5_comeDown 11 = .ok (.getfield 49, 3) := by decide +kernel
theorem dX5_comeDown_14 : decode cX5_comeDown 14 = .ok (.iconst 2, 1) := by decide +kernel
theorem dX5_comeDown_15 : decode cX5_comeDown 15 = .ok (.irem, 1) := by decide +kernel
theorem dX5_comeDown_16 : decode cX5_comeDown 16 = .ok (.iadd, 1) := by decide +kernel
theorem dX5_comeDown_17 : decode cX5_comeDown 17 = .ok (.istore_n 3, 1) := by decide +kernel
theorem dX5_comeDown_18 : decode cX5_comeDown 18 = .ok (.aload_n 0, 1) := by decide +kernel
theorem dX5_comeDown_19 : decode cX5_comeDown 19 = .ok (.getfield 22, 3) := by decide +kernel
theorem dX5_comeDown_22 : decode cX5_comeDown 22 = .ok (.iload_n 3, 1) := by decide +kernel
theorem dX5_comeDown_23 : decode cX5_comeDown 23 = .ok (.iaload, 1) := by decide +kernel
theorem dX5_comeDown_24 : decode cX5_comeDown 24 = .ok (.ifCond .ne 50, 3) := by decide +kernel
theorem dX5_comeDown_27 : decode cX5_comeDown 27 = .ok (.aload_n 0, 1) := by decide +kernel
theorem dX5_comeDown_28 : decode cX5_comeDown 28 = .ok (.getfield 34, 3) := by decide +kernel
theorem dX5_comeDown_31 : decode cX5_comeDown 31 = .ok (.iload_n 1, 1) := by decide +kernel
theorem dX5_comeDown_32 : decode cX5_comeDown 32 = .ok (.iaload, 1) := by decide +kernel
theorem dX5_comeDown_33 : decode cX5_comeDown 33 = .ok (.aload_n 0, 1) := by decide +kernel
theorem dX5_comeDown_34 : decode cX5_comeDown 34 = .ok (.getfield 3, 3) := by decide +kernel
theorem dX5_comeDown_37 : decode cX5_comeDown 37 = .ok (.getfield 57, 3) := by decide +kernel
theorem dX5_comeDown_40 : decode cX5_comeDown 40 = .ok (.iload_n 2, 1) := by decide +kernel
theorem dX5_comeDown_41 : decode cX5_comeDown 41 = .ok (.iaload, 1) := by decide +kernel
theorem dX5_comeDown_42 : decode cX5_comeDown 42 = .ok (.iconst 2, 1) := by decide +kernel
theorem dX5_comeDown_43 : decode cX5_comeDown 43 = .ok (.iadd, 1) := by decide +kernel
theorem dX5_comeDown_44 : decode cX5_comeDown 44 = .ok (.if_icmp .gt 30, 3) := by decide +kernel
theorem dX5_comeDown_47 : decode cX5_comeDown 47 = .ok (.aload_n 0, 1) := by decide +kernel
theorem dX5_comeDown_48 : decode cX5_comeDown 48 = .ok (.getfield 22, 3) := by decide +kernel
theorem dX5_comeDown_51 : decode cX5_comeDown 51 = .ok (.iload_n 3, 1) := by decide +kernel
theorem dX5_comeDown_52 : decode cX5_comeDown 52 = .ok (.iload_n 1, 1) := by decide +kernel
theorem dX5_comeDown_53 : decode cX5_comeDown 53 = .ok (.iconst 1, 1) := by decide +kernel
theorem dX5_comeDown_54 : decode cX5_comeDown 54 = .ok (.iadd, 1) := by decide +kernel
theorem dX5_comeDown_55 : decode cX5_comeDown 55 = .ok (.iastore, 1) := by decide +kernel
theorem dX5_comeDown_56 : decode cX5_comeDown 56 = .ok (.aload_n 0, 1) := by decide +kernel
theorem dX5_comeDown_57 : decode cX5_comeDown 57 = .ok (.getfield 25, 3) := by decide +kernel
theorem dX5_comeDown_60 : decode cX5_comeDown 60 = .ok (.iload_n 1, 1) := by decide +kernel
theorem dX5_comeDown_61 : decode cX5_comeDown 61 = .ok (.iconst 1, 1) := by decide +kernel
theorem dX5_comeDown_62 : decode cX5_comeDown 62 = .ok (.iastore, 1) := by decide +kernel
theorem dX5_comeDown_63 : decode cX5_comeDown 63 = .ok (.aload_n 0, 1) := by decide +kernel
theorem dX5_comeDown_64 : decode cX5_comeDown 64 = .ok (.getfield 19, 3) := by decide +kernel
theorem dX5_comeDown_67 : decode cX5_comeDown 67 = .ok (.iload_n 2, 1) := by decide +kernel
theorem dX5_comeDown_68 : decode cX5_comeDown 68 = .ok (.dup2, 1) := by decide +kernel
theorem dX5_comeDown_69 : decode cX5_comeDown 69 = .ok (.iaload, 1) := by decide +kernel
theorem dX5_comeDown_70 : decode cX5_comeDown 70 = .ok (.iconst 1, 1) := by decide +kernel
theorem dX5_comeDown_71 : decode cX5_comeDown 71 = .ok (.iadd, 1) := by decide +kernel
theorem dX5_comeDown_72 : decode cX5_comeDown 72 = .ok (.iastore, 1) := by decide +kernel
theorem dX5_comeDown_73 : decode cX5_comeDown 73 = .ok (.return_, 1) := by decide +kernel
theorem dX5_comeDown_74 : decode cX5_comeDown 74 = .ok (.aload_n 0, 1) := by decide +kernel
theorem dX5_comeDown_75 : decode cX5_comeDown 75 = .ok (.getfield 40, 3) := by decide +kernel
theorem dX5_comeDown_78 : decode cX5_comeDown 78 = .ok (.iload_n 1, 1) := by decide +kernel
theorem dX5_comeDown_79 : decode cX5_comeDown 79 = .ok (.dup2, 1) := by decide +kernel
theorem dX5_comeDown_80 : decode cX5_comeDown 80 = .ok (.iaload, 1) := by decide +kernel
theorem dX5_comeDown_81 : decode cX5_comeDown 81 = .ok (.iconst 1, 1) := by decide +kernel
theorem dX5_comeDown_82 : decode cX5_comeDown 82 = .ok (.iadd, 1) := by decide +kernel
theorem dX5_comeDown_83 : decode cX5_comeDown 83 = .ok (.iastore, 1) := by decide +kernel
theorem dX5_comeDown_84 : decode cX5_comeDown 84 = .ok (.aload_n 0, 1) := by decide +kernel
theorem dX5_comeDown_85 : decode cX5_comeDown 85 = .ok (.getfield 25, 3) := by decide +kernel
theorem dX5_comeDown_88 : decode cX5_comeDown 88 = .ok (.iload_n 1, 1) := by decide +kernel
theorem dX5_comeDown_89 : decode cX5_comeDown 89 = .ok (.aload_n 0, 1) := by decide +kernel
theorem dX5_comeDown_90 : decode cX5_comeDown 90 = .ok (.getfield 3, 3) := by decide +kernel
theorem dX5_comeDown_93 : decode cX5_comeDown 93 = .ok (.getfield 60, 3) := by decide +kernel
theorem dX5_comeDown_96 : decode cX5_comeDown 96 = .ok (.iload_n 1, 1) := by decide +kernel
theorem dX5_comeDown_97 : decode cX5_comeDown 97 = .ok (.iaload, 1) := by decide +kernel
theorem dX5_comeDown_98 : decode cX5_comeDown 98 = .ok (.iconst 2, 1) := by decide +kernel
theorem dX5_comeDown_99 : decode cX5_comeDown 99 = .ok (.if_icmp .ne 7, 3) := by decide +kernel
theorem dX5_comeDown_102 : decode cX5_comeDown 102 = .ok (.iconst 3, 1) := by decide +kernel
theorem dX5_comeDown_103 : decode cX5_comeDown 103 = .ok (.goto 4, 3) := by decide +kernel
theorem dX5_comeDown_106 : decode cX5_comeDown 106 = .ok (.iconst 0, 1) := by decide +kernel
theorem dX5_comeDown_107 : decode cX5_comeDown 107 = .ok (.iastore, 1) := by decide +kernel
theorem dX5_comeDown_108 : decode cX5_comeDown 108 = .ok (.aload_n 0, 1) := by decide +kernel
theorem dX5_comeDown_109 : decode cX5_comeDown 109 = .ok (.getfield 3, 3) := by decide +kernel
theorem dX5_comeDown_112 : decode cX5_comeDown 112 = .ok (.getfield 60, 3) := by decide +kernel
theorem dX5_comeDown_115 : decode cX5_comeDown 115 = .ok (.iload_n 1, 1) := by decide +kernel
theorem dX5_comeDown_116 : decode cX5_comeDown 116 = .ok (.iaload, 1) := by decide +kernel
theorem dX5_comeDown_117 : decode cX5_comeDown 117 = .ok (.iconst 1, 1) := by decide +kernel
theorem dX5_comeDown_118 : decode cX5_comeDown 118 = .ok (.if_icmp .ne 13, 3) := by decide +kernel
theorem dX5_comeDown_121 : decode cX5_comeDown 121 = .ok (.aload_n 0, 1) := by decide +kernel
theorem dX5_comeDown_122 : decode cX5_comeDown 122 = .ok (.getfield 15, 3) := by decide +kernel
theorem dX5_comeDown_125 : decode cX5_comeDown 125 = .ok (.iload_n 2, 1) := by decide +kernel
theorem dX5_comeDown_126 : decode cX5_comeDown 126 = .ok (.dup2, 1) := by decide +kernel
theorem dX5_comeDown_127 : decode cX5_comeDown 127 = .ok (.iaload, 1) := by decide +kernel
theorem dX5_comeDown_128 : decode cX5_comeDown 128 = .ok (.iconst 1, 1) := by decide +kernel
theorem dX5_comeDown_129 : decode cX5_comeDown 129 = .ok (.iadd, 1) := by decide +kernel
theorem dX5_comeDown_130 : decode cX5_comeDown 130 = .ok (.iastore, 1) := by decide +kernel
theorem dX5_comeDown_131 : decode cX5_comeDown 131 = .ok (.return_, 1) := by decide +kernel
theorem dX5_throwFrom_0 : decode cX5_throwFrom 0 = .ok (.iconst 2, 1) := by decide +kernel
theorem dX5_throwFrom_1 : decode cX5_throwFrom 1 = .ok (.iload_n 1, 1) := by decide +kernel
theorem dX5_throwFrom_2 : decode cX5_throwFrom 2 = .ok (.imul, 1) := by decide +kernel
theorem dX5_throwFrom_3 : decode cX5_throwFrom 3 = .ok (.aload_n 0, 1) := by decide +kernel
theorem dX5_throwFrom_4 : decode cX5_throwFrom 4 = .ok (.getfield 49, 3) := by decide +kernel
theorem dX5_throwFrom_7 : decode cX5_throwFrom 7 = .ok (.iconst 2, 1) := by decide +kernel
theorem dX5_throwFrom_8 : decode cX5_throwFrom 8 = .ok (.irem, 1) := by decide +kernel
theorem dX5_throwFrom_9 : decode cX5_throwFrom 9 = .ok (.iadd, 1) := by decide +kernel
theorem dX5_throwFrom_10 : decode cX5_throwFrom 10 = .ok (.istore_n 2, 1) := by decide +kernel
theorem dX5_throwFrom_11 : decode cX5_throwFrom 11 = .ok (.bipush 8, 2) := by decide +kernel
theorem dX5_throwFrom_13 : decode cX5_throwFrom 13 = .ok (.iload_n 1, 1) := by decide +kernel
theorem dX5_throwFrom_14 : decode cX5_throwFrom 14 = .ok (.imul, 1) := by decide +kernel
theorem dX5_throwFrom_15 : decode cX5_throwFrom 15 = .ok (.aload_n 0, 1) := by decide +kernel
theorem dX5_throwFrom_16 : decode cX5_throwFrom 16 = .ok (.getfield 49, 3) := by decide +kernel
theorem dX5_throwFrom_19 : decode cX5_throwFrom 19 = .ok (.aload_n 0, 1) := by decide +kernel
theorem dX5_throwFrom_20 : decode cX5_throwFrom 20 = .ok (.getfield 3, 3) := by decide +kernel
theorem dX5_throwFrom_23 : decode cX5_throwFrom 23 = .ok (.getfield 63, 3) := by decide +kernel
theorem dX5_throwFrom_26 : decode cX5_throwFrom 26 = .ok (.iload_n 1, 1) := by decide +kernel
theorem dX5_throwFrom_27 : decode cX5_throwFrom 27 = .ok (.iaload, 1) := by decide +kernel
theorem dX5_throwFrom_28 : decode cX5_throwFrom 28 = .ok (.irem, 1) := by decide +kernel
theorem dX5_throwFrom_29 : decode cX5_throwFrom 29 = .ok (.iadd, 1) := by decide +kernel
theorem dX5_throwFrom_30 : decode cX5_throwFrom 30 = .ok (.istore_n 3, 1) := by decide +kernel
theorem dX5_throwFrom_31 : decode cX5_throwFrom 31 = .ok (.aload_n 0, 1) := by decide +kernel
theorem dX5_throwFrom_32 : decode cX5_throwFrom 32 = .ok (.getfield 22, 3) := by decide +kernel
theorem dX5_throwFrom_35 : decode cX5_throwFrom 35 = .ok (.iload_n 2, 1) := by decide +kernel
theorem dX5_throwFrom_36 : decode cX5_throwFrom 36 = .ok (.iaload, 1) := by decide +kernel
theorem dX5_throwFrom_37 : decode cX5_throwFrom 37 = .ok (.ifCond .eq 15, 3) := by decide +kernel
theorem dX5_throwFrom_40 : decode cX5_throwFrom 40 = .ok (.aload_n 0, 1) := by decide +kernel
theorem dX5_throwFrom_41 : decode cX5_throwFrom 41 = .ok (.getfield 3, 3) := by decide +kernel
theorem dX5_throwFrom_44 : decode cX5_throwFrom 44 = .ok (.getfield 66, 3) := by decide +kernel
theorem dX5_throwFrom_47 : decode cX5_throwFrom 47 = .ok (.iload_n 3, 1) := by decide +kernel
theorem dX5_throwFrom_48 : decode cX5_throwFrom 48 = .ok (.iaload, 1) := by decide +kernel
theorem dX5_throwFrom_49 : decode cX5_throwFrom 49 = .ok (.ifCond .ne 4, 3) := by decide +kernel
theorem dX5_throwFrom_52 : decode cX5_throwFrom 52 = .ok (.return_, 1) := by decide +kernel
theorem dX5_throwFrom_53 : decode cX5_throwFrom 53 = .ok (.aload_n 0, 1) := by decide +kernel
theorem dX5_throwFrom_54 : decode cX5_throwFrom 54 = .ok (.getfield 22, 3) := by decide +kernel
theorem dX5_throwFrom_57 : decode cX5_throwFrom 57 = .ok (.iload_n 2, 1) := by decide +kernel
theorem dX5_throwFrom_58 : decode cX5_throwFrom 58 = .ok (.iaload, 1) := by decide +kernel
theorem dX5_throwFrom_59 : decode cX5_throwFrom 59 = .ok (.iconst 1, 1) := by decide +kernel
theorem dX5_throwFrom_60 : decode cX5_throwFrom 60 = .ok (.isub, 1) := by decide +kernel
theorem dX5_throwFrom_61 : decode cX5_throwFrom 61 = .ok (.istore 4, 2) := by decide +kernel
theorem dX5_throwFrom_63 : decode cX5_throwFrom 63 = .ok (.aload_n 0, 1) := by decide +kernel
theorem dX5_throwFrom_64 : decode cX5_throwFrom 64 = .ok (.getfield 22, 3) := by decide +kernel
theorem dX5_throwFrom_67 : decode cX5_throwFrom 67 = .ok (.iload_n 2, 1) := by decide +kernel
theorem dX5_throwFrom_68 : decode cX5_throwFrom 68 = .ok (.iconst 0, 1) := by decide +kernel
theorem dX5_throwFrom_69 : decode cX5_throwFrom 69 = .ok (.iastore, 1) := by decide +kernel
theorem dX5_throwFrom_70 : decode cX5_throwFrom 70 = .ok (.aload_n 0, 1) := by decide +kernel
theorem dX5_throwFrom_71 : decode cX5_throwFrom 71 = .ok (.getfield 25, 3) := by decide +kernel
theorem dX5_throwFrom_74 : decode cX5_throwFrom 74 = .ok (.iload 4, 2) := by decide +kernel
theorem dX5_throwFrom_76 : decode cX5_throwFrom 76 = .ok (.iconst 2, 1) := by decide +kernel
theorem dX5_throwFrom_77 : decode cX5_throwFrom 77 = .ok (.iastore, 1) := by decide +kernel
theorem dX5_throwFrom_78 : decode cX5_throwFrom 78 = .ok (.aload_n 0, 1) := by decide +kernel
theorem dX5_throwFrom_79 : decode cX5_throwFrom 79 = .ok (.getfield 28, 3) := by decide +kernel
theorem dX5_throwFrom_82 : decode cX5_throwFrom 82 = .ok (.iload 4, 2) := by decide +kernel
theorem dX5_throwFrom_84 : decode cX5_throwFrom 84 = .ok (.aload_n 0, 1) := by decide +kernel
theorem dX5_throwFrom_85 : decode cX5_throwFrom 85 = .ok (.getfield 3, 3) := by decide +kernel
theorem dX5_throwFrom_88 : decode cX5_throwFrom 88 = .ok (.getfield 69, 3) := by decide +kernel
theorem dX5_throwFrom_91 : decode cX5_throwFrom 91 = .ok (.iload_n 3, 1) := by decide +kernel
theorem dX5_throwFrom_92 : decode cX5_throwFrom 92 = .ok (.iaload, 1) := by decide +kernel
theorem dX5_throwFrom_93 : decode cX5_throwFrom 93 = .ok (.iastore, 1) := by decide +kernel
theorem dX5_throwFrom_94 : decode cX5_throwFrom 94 = .ok (.aload_n 0, 1) := by decide +kernel
theorem dX5_throwFrom_95 : decode cX5_throwFrom 95 = .ok (.getfield 34, 3) := by decide +kernel
theorem dX5_throwFrom_98 : decode cX5_throwFrom 98 = .ok (.iload 4, 2) := by decide +kernel
theorem dX5_throwFrom_100 : decode cX5_throwFrom 100 = .ok (.aload_n 0, 1) := by decide +kernel
theorem dX5_throwFrom_101 : decode cX5_throwFrom 101 = .ok (.getfield 3, 3) := by decide +kernel
theorem dX5_throwFrom_104 : decode cX5_throwFrom 104 = .ok (.getfield 66, 3) := by decide +kernel
theorem dX5_throwFrom_107 : decode cX5_throwFrom 107 = .ok (.iload_n 3, 1) := by decide +kernel
theorem dX5_throwFrom_108 : decode cX5_throwFrom 108 = .ok (.iaload, 1) := by decide +kernel
theorem dX5_throwFrom_109 : decode cX5_throwFrom 109 = .ok (.iastore, 1) := by decide +kernel
theorem dX5_throwFrom_110 : decode cX5_throwFrom 110 = .ok (.aload_n 0, 1) := by decide +kernel
theorem dX5_throwFrom_111 : decode cX5_throwFrom 111 = .ok (.getfield 31, 3) := by decide +kernel
theorem dX5_throwFrom_114 : decode cX5_throwFrom 114 = .ok (.iload 4, 2) := by decide +kernel
theorem dX5_throwFrom_116 : decode cX5_throwFrom 116 = .ok (.aload_n 0, 1) := by decide +kernel
theorem dX5_throwFrom_117 : decode cX5_throwFrom 117 = .ok (.getfield 49, 3) := by decide +kernel
theorem dX5_throwFrom_120 : decode cX5_throwFrom 120 = .ok (.aload_n 0, 1) := by decide +kernel
theorem dX5_throwFrom_121 : decode cX5_throwFrom 121 = .ok (.getfield 3, 3) := by decide +kernel
theorem dX5_throwFrom_124 : decode cX5_throwFrom 124 = .ok (.getfield 60, 3) := by decide +kernel
theorem dX5_throwFrom_127 : decode cX5_throwFrom 127 = .ok (.iload 4, 2) := by decide +kernel
theorem dX5_throwFrom_129 : decode cX5_throwFrom 129 = .ok (.iaload, 1) := by decide +kernel
theorem dX5_throwFrom_130 : decode cX5_throwFrom 130 = .ok (.aload_n 0, 1) := by decide +kernel
theorem dX5_throwFrom_131 : decode cX5_throwFrom 131 = .ok (.getfield 3, 3) := by decide +kernel
theorem dX5_throwFrom_134 : decode cX5_throwFrom 134 = .ok (.getfield 66, 3) := by decide +kernel
theorem dX5_throwFrom_137 : decode cX5_throwFrom 137 = .ok (.iload_n 3, 1) := by decide +kernel
theorem dX5_throwFrom_138 : decode cX5_throwFrom 138 = .ok (.iaload, 1) := by decide +kernel
theorem dX5_throwFrom_139 : decode cX5_throwFrom 139 = .ok (.invokestatic 72, 3) := by decide +kernel
theorem dX5_throwFrom_142 : decode cX5_throwFrom 142 = .ok (.iadd, 1) := by decide +kernel
theorem dX5_throwFrom_143 : decode cX5_throwFrom 143 = .ok (.iastore, 1) := by decide +kernel
theorem dX5_throwFrom_144 : decode cX5_throwFrom 144 = .ok (.aload_n 0, 1) := by decide +kernel
theorem dX5_throwFrom_145 : decode cX5_throwFrom 145 = .ok (.getfield 37, 3) := by decide +kernel
theorem dX5_throwFrom_148 : decode cX5_throwFrom 148 = .ok (.iload 4, 2) := by decide +kernel
theorem dX5_throwFrom_150 : decode cX5_throwFrom 150 = .ok (.dup2, 1) := by decide +kernel
theorem dX5_throwFrom_151 : decode cX5_throwFrom 151 = .ok (.iaload, 1) := by decide +kernel
theorem dX5_throwFrom_152 : decode cX5_throwFrom 152 = .ok (.iconst 1, 1) := by decide +kernel
theorem dX5_throwFrom_153 : decode cX5_throwFrom 153 = .ok (.iadd, 1) := by decide +kernel
theorem dX5_throwFrom_154 : decode cX5_throwFrom 154 = .ok (.iastore, 1) := by decide +kernel
theorem dX5_throwFrom_155 : decode cX5_throwFrom 155 = .ok (.return_, 1) := by decide +kernel
theorem dX5_go_0 : decode cX5_go 0 = .ok (.iconst 0, 1) := by decide +kernel
theorem dX5_go_1 : decode cX5_go 1 = .ok (.istore_n 1, 1) := by decide +kernel
theorem dX5_go_2 : decode cX5_go 2 = .ok (.iload_n 1, 1) := by decide +kernel
theorem dX5_go_3 : decode cX5_go 3 = .ok (.aload_n 0, 1) := by decide +kernel
theorem dX5_go_4 : decode cX5_go 4 = .ok (.getfield 3, 3) := by decide +kernel
theorem dX5_go_7 : decode cX5_go 7 = .ok (.getfield 76, 3) := by decide +kernel
theorem dX5_go_10 : decode cX5_go 10 = .ok (.if_icmp .ge 37, 3) := by decide +kernel
theorem dX5_go_13 : decode cX5_go 13 = .ok (.aload_n 0, 1) := by decide +kernel
theorem dX5_go_14 : decode cX5_go 14 = .ok (.getfield 25, 3) := by decide +kernel
theorem dX5_go_17 : decode cX5_go 17 = .ok (.iload_n 1, 1) := by decide +kernel
theorem dX5_go_18 : decode cX5_go 18 = .ok (.iaload, 1) := by decide +kernel
theorem dX5_go_19 : decode cX5_go 19 = .ok (.iconst 2, 1) := by decide +kernel
theorem dX5_go_20 : decode cX5_go 20 = .ok (.if_icmp .ne 21, 3) := by decide +kernel
theorem dX5_go_23 : decode cX5_go 23 = .ok (.aload_n 0, 1) := by decide +kernel
theorem dX5_go_24 : decode cX5_go 24 = .ok (.getfield 31, 3) := by decide +kernel
theorem dX5_go_27 : decode cX5_go 27 = .ok (.iload_n 1, 1) := by decide +kernel
theorem dX5_go_28 : decode cX5_go 28 = .ok (.iaload, 1) := by decide +kernel
theorem dX5_go_29 : decode cX5_go 29 = .ok (.aload_n 0, 1) := by decide +kernel
theorem dX5_go_30 : decode cX5_go 30 = .ok (.getfield 49, 3) := by decide +kernel
theorem dX5_go_33 : decode cX5_go 33 = .ok (.if_icmp .ne 8, 3) := by decide +kernel
theorem dX5_go_36 : decode cX5_go 36 = .ok (.aload_n 0, 1) := by decide +kernel
theorem dX5_go_37 : decode cX5_go 37 = .ok (.iload_n 1, 1) := by decide +kernel
theorem dX5_go_38 : decode cX5_go 38 = .ok (.invokevirtual 79, 3) := by decide +kernel
theorem dX5_go_41 : decode cX5_go 41 = .ok (.iinc 1 1, 3) := by decide +kernel
theorem dX5_go_44 : decode cX5_go 44 = .ok (.goto (-42), 3) := by decide +kernel
theorem dX5_go_47 : decode cX5_go 47 = .ok (.iconst 0, 1) := by decide +kernel
theorem dX5_go_48 : decode cX5_go 48 = .ok (.istore_n 1, 1) := by decide +kernel
theorem dX5_go_49 : decode cX5_go 49 = .ok (.iload_n 1, 1) := by decide +kernel
theorem dX5_go_50 : decode cX5_go 50 = .ok (.aload_n 0, 1) := by decide +kernel
theorem dX5_go_51 : decode cX5_go 51 = .ok (.getfield 3, 3) := by decide +kernel
theorem dX5_go_54 : decode cX5_go 54 = .ok (.getfield 83, 3) := by decide +kernel
theorem dX5_go_57 : decode cX5_go 57 = .ok (.if_icmp .ge 14, 3) := by decide +kernel
theorem dX5_go_60 : decode cX5_go 60 = .ok (.aload_n 0, 1) := by decide +kernel
theorem dX5_go_61 : decode cX5_go 61 = .ok (.iload_n 1, 1) := by decide +kernel
theorem dX5_go_62 : decode cX5_go 62 = .ok (.invokevirtual 86, 3) := by decide +kernel
theorem dX5_go_65 : decode cX5_go 65 = .ok (.iinc 1 1, 3) := by decide +kernel
theorem dX5_go_68 : decode cX5_go 68 = .ok (.goto (-19), 3) := by decide +kernel
theorem dX5_go_71 : decode cX5_go 71 = .ok (.aload_n 0, 1) := by decide +kernel
theorem dX5_go_72 : decode cX5_go 72 = .ok (.dup, 1) := by decide +kernel
theorem dX5_go_73 : decode cX5_go 73 = .ok (.getfield 49, 3) := by decide +kernel
theorem dX5_go_76 : decode cX5_go 76 = .ok (.iconst 1, 1) := by decide +kernel
theorem dX5_go_77 : decode cX5_go 77 = .ok (.iadd, 1) := by decide +kernel
theorem dX5_go_78 : decode cX5_go 78 = .ok (.putfield 49, 3) := by decide +kernel
theorem dX5_go_81 : decode cX5_go 81 = .ok (.return_, 1) := by decide +kernel
theorem dX5_are_0 : decode cX5_are 0 = .ok (.iconst 0, 1) := by decide +kernel
theorem dX5_are_1 : decode cX5_are 1 = .ok (.istore_n 2, 1) := by decide +kernel
theorem dX5_are_2 : decode cX5_are 2 = .ok (.iconst 0, 1) := by decide +kernel
theorem dX5_are_3 : decode cX5_are 3 = .ok (.istore_n 3, 1) := by decide +kernel
theorem dX5_are_4 : decode cX5_are 4 = .ok (.iload_n 3, 1) := by decide +kernel
theorem dX5_are_5 : decode cX5_are 5 = .ok (.aload_n 0, 1) := by decide +kernel
theorem dX5_are_6 : decode cX5_are 6 = .ok (.getfield 3, 3) := by decide +kernel
theorem dX5_are_9 : decode cX5_are 9 = .ok (.getfield 76, 3) := by decide +kernel
theorem dX5_are_12 : decode cX5_are 12 = .ok (.if_icmp .ge 27, 3) := by decide +kernel
theorem dX5_are_15 : decode cX5_are 15 = .ok (.iload_n 2, 1) := by decide +kernel
theorem dX5_are_16 : decode cX5_are 16 = .ok (.aload_n 0, 1) := by decide +kernel
theorem dX5_are_17 : decode cX5_are 17 = .ok (.getfield 25, 3) := by decide +kernel
theorem dX5_are_20 : decode cX5_are 20 = .ok (.iload_n 3, 1) := by decide +kernel
theorem dX5_are_21 : decode cX5_are 21 = .ok (.iaload, 1) := by decide +kernel
theorem dX5_are_22 : decode cX5_are 22 = .ok (.iload_n 1, 1) := by decide +kernel
theorem dX5_are_23 : decode cX5_are 23 = .ok (.if_icmp .ne 7, 3) := by decide +kernel
theorem dX5_are_26 : decode cX5_are 26 = .ok (.iconst 1, 1) := by decide +kernel
theorem dX5_are_27 : decode cX5_are 27 = .ok (.goto 4, 3) := by decide +kernel
theorem dX5_are_30 : decode cX5_are 30 = .ok (.iconst 0, 1) := by decide +kernel
theorem dX5_are_31 : decode cX5_are 31 = .ok (.iadd, 1) := by decide +kernel
theorem dX5_are_32 : decode cX5_are 32 = .ok (.istore_n 2, 1) := by decide +kernel
theorem dX5_are_33 : decode cX5_are 33 = .ok (.iinc 3 1, 3) := by decide +kernel
theorem dX5_are_36 : decode cX5_are 36 = .ok (.goto (-32), 3) := by decide +kernel
theorem dX5_are_39 : decode cX5_are 39 = .ok (.iload_n 2, 1) := by decide +kernel
theorem dX5_are_40 : decode cX5_are 40 = .ok (.ireturn, 1) := by decide +kernel
theorem dX5_sum_0 : decode cX5_sum 0 = .ok (.iconst 0, 1) := by decide +kernel
theorem dX5_sum_1 : decode cX5_sum 1 = .ok (.istore_n 2, 1) := by decide +kernel
theorem dX5_sum_2 : decode cX5_sum 2 = .ok (.aload_n 1, 1) := by decide +kernel
theorem dX5_sum_3 : decode cX5_sum 3 = .ok (.astore_n 3, 1) := by decide +kernel
theorem dX5_sum_4 : decode cX5_sum 4 = .ok (.aload_n 3, 1) := by decide +kernel
theorem dX5_sum_5 : decode cX5_sum 5 = .ok (.arraylength, 1) := by decide +kernel
theorem dX5_sum_6 : decode cX5_sum 6 = .ok (.istore 4, 2) := by decide +kernel
theorem dX5_sum_8 : decode cX5_sum 8 = .ok (.iconst 0, 1) := by decide +kernel
theorem dX5_sum_9 : decode cX5_sum 9 = .ok (.istore 5, 2) := by decide +kernel
theorem dX5_sum_11 : decode cX5_sum 11 = .ok (.iload 5, 2) := by decide +kernel
theorem dX5_sum_13 : decode cX5_sum 13 = .ok (.iload 4, 2) := by decide +kernel
theorem dX5_sum_15 : decode cX5_sum 15 = .ok (.if_icmp .ge 20, 3) := by decide +kernel
theorem dX5_sum_18 : decode cX5_sum 18 = .ok (.aload_n 3, 1) := by decide +kernel
theorem dX5_sum_19 : decode cX5_sum 19 = .ok (.iload 5, 2) := by decide +kernel
theorem dX5_sum_21 : decode cX5_sum 21 = .ok (.iaload, 1) := by decide +kernel
theorem dX5_sum_22 : decode cX5_sum 22 = .ok (.istore 6, 2) := by decide +kernel
theorem dX5_sum_24 : decode cX5_sum 24 = .ok (.iload_n 2, 1) := by decide +kernel
theorem dX5_sum_25 : decode cX5_sum 25 = .ok (.iload 6, 2) := by decide +kernel
theorem dX5_sum_27 : decode cX5_sum 27 = .ok (.iadd, 1) := by decide +kernel
theorem dX5_sum_28 : decode cX5_sum 28 = .ok (.istore_n 2, 1) := by decide +kernel
theorem dX5_sum_29 : decode cX5_sum 29 = .ok (.iinc 5 1, 3) := by decide +kernel
theorem dX5_sum_32 : decode cX5_sum 32 = .ok (.goto (-21), 3) := by decide +kernel
theorem dX5_sum_35 : decode cX5_sum 35 = .ok (.iload_n 2, 1) := by decide +kernel
theorem dX5_sum_36 : decode cX5_sum 36 = .ok (.ireturn, 1) := by decide +kernel
theorem dX5_handOf_0 : decode cX5_handOf 0 = .ok (.iconst 0, 1) := by decide +kernel
theorem dX5_handOf_1 : decode cX5_handOf 1 = .ok (.istore_n 2, 1) := by decide +kernel
theorem dX5_handOf_2 : decode cX5_handOf 2 = .ok (.iload_n 2, 1) := by decide +kernel
theorem dX5_handOf_3 : decode cX5_handOf 3 = .ok (.aload_n 0, 1) := by decide +kernel
theorem dX5_handOf_4 : decode cX5_handOf 4 = .ok (.getfield 22, 3) := by decide +kernel
theorem dX5_handOf_7 : decode cX5_handOf 7 = .ok (.arraylength, 1) := by decide +kernel
theorem dX5_handOf_8 : decode cX5_handOf 8 = .ok (.if_icmp .ge 23, 3) := by decide +kernel
theorem dX5_handOf_11 : decode cX5_handOf 11 = .ok (.aload_n 0, 1) := by decide +kernel
theorem dX5_handOf_12 : decode cX5_handOf 12 = .ok (.getfield 22, 3) := by decide +kernel
theorem dX5_handOf_15 : decode cX5_handOf 15 = .ok (.iload_n 2, 1) := by decide +kernel
theorem dX5_handOf_16 : decode cX5_handOf 16 = .ok (.iaload, 1) := by decide +kernel
theorem dX5_handOf_17 : decode cX5_handOf 17 = .ok (.iload_n 1, 1) := by decide +kernel
theorem dX5_handOf_18 : decode cX5_handOf 18 = .ok (.iconst 1, 1) := by decide +kernel
theorem dX5_handOf_19 : decode cX5_handOf 19 = .ok (.iadd, 1) := by decide +kernel
theorem dX5_handOf_20 : decode cX5_handOf 20 = .ok (.if_icmp .ne 5, 3) := by decide +kernel
theorem dX5_handOf_23 : decode cX5_handOf 23 = .ok (.iload_n 2, 1) := by decide +kernel
theorem dX5_handOf_24 : decode cX5_handOf 24 = .ok (.ireturn, 1) := by decide +kernel
theorem dX5_handOf_25 : decode cX5_handOf 25 = .ok (.iinc 2 1, 3) := by decide +kernel
theorem dX5_handOf_28 : decode cX5_handOf 28 = .ok (.goto (-26), 3) := by decide +kernel
theorem dX5_handOf_31 : decode cX5_handOf 31 = .ok (.iconst (-1), 1) := by decide +kernel
theorem dX5_handOf_32 : decode cX5_handOf 32 = .ok (.ireturn, 1) := by decide +kernel
end
section
theorem dX6_init_0 : decode cX6_init 0 = .ok (.aload_n 0, 1) := by decide +kernel
theorem dX6_init_1 : decode cX6_init 1 = .ok (.invokespecial 1, 3) := by decide +kernel
theorem dX6_init_4 : decode cX6_init 4 = .ok (.aload_n 0, 1) := by decide +kernel
theorem dX6_init_5 : decode cX6_init 5 = .ok (.iconst 4, 1) := by decide +kernel
theorem dX6_init_6 : decode cX6_init 6 = .ok (.newarray .int, 2) := by decide +kernel
theorem dX6_init_8 : decode cX6_init 8 = .ok (.putfield 9, 3) := by decide +kernel
theorem dX6_init_11 : decode cX6_init 11 = .ok (.aload_n 0, 1) := by decide +kernel
theorem dX6_init_12 : decode cX6_init 12 = .ok (.iconst 4, 1) := by decide +kernel
theorem dX6_init_13 : decode cX6_init 13 = .ok (.newarray .int, 2) := by decide +kernel
theorem dX6_init_15 : decode cX6_init 15 = .ok (.putfield 13, 3) := by decide +kernel
theorem dX6_init_18 : decode cX6_init 18 = .ok (.aload_n 0, 1) := by decide +kernel
theorem dX6_init_19 : decode cX6_init 19 = .ok (.bipush 32, 2) := by decide +kernel
theorem dX6_init_21 : decode cX6_init 21 = .ok (.newarray .int, 2) := by decide +kernel
theorem dX6_init_23 : decode cX6_init 23 = .ok (.putfield 16, 3) := by decide +kernel
theorem dX6_init_26 : decode cX6_init 26 = .ok (.aload_n 0, 1) := by decide +kernel
theorem dX6_init_27 : decode cX6_init 27 = .ok (.bipush 32, 2) := by decide +kernel
theorem dX6_init_29 : decode cX6_init 29 = .ok (.newarray .int, 2) := by decide +kernel
theorem dX6_init_31 : decode cX6_init 31 = .ok (.putfield 19, 3) := by decide +kernel
theorem dX6_init_34 : decode cX6_init 34 = .ok (.aload_n 0, 1) := by decide +kernel
theorem dX6_init_35 : decode cX6_init 35 = .ok (.bipush 12, 2) := by decide +kernel
theorem dX6_init_37 : decode cX6_init 37 = .ok (.newarray .int, 2) := by decide +kernel
theorem dX6_init_39 : decode cX6_init 39 = .ok (.putfield 22, 3) := by decide +kernel
theorem dX6_init_42 : decode cX6_init 42 = .ok (.aload_n 0, 1) := by decide +kernel
theorem dX6_init_43 : decode cX6_init 43 = .ok (.new 25, 3) := by decide +kernel
theorem dX6_init_46 : decode cX6_init 46 = .ok (.dup, 1) := by decide +kernel
theorem dX6_init_47 : decode cX6_init 47 = .ok (.aload_n 0, 1) := by decide +kernel
theorem dX6_init_48 : decode cX6_init 48 = .ok (.invokespecial 27, 3) := by decide +kernel
theorem dX6_init_51 : decode cX6_init 51 = .ok (.putfield 30, 3) := by decide +kernel
theorem dX6_init_54 : decode cX6_init 54 = .ok (.aload_n 0, 1) := by decide +kernel
theorem dX6_init_55 : decode cX6_init 55 = .ok (.new 25, 3) := by decide +kernel
theorem dX6_init_58 : decode cX6_init 58 = .ok (.dup, 1) := by decide +kernel
theorem dX6_init_59 : decode cX6_init 59 = .ok (.aload_n 0, 1) := by decide +kernel
theorem dX6_init_60 : decode cX6_init 60 = .ok (.invokespecial 27, 3) := by decide +kernel
theorem dX6_init_63 : decode cX6_init 63 = .ok (.putfield 34, 3) := by decide +kernel
theorem dX6_init_66 : decode cX6_init 66 = .ok (.return_, 1) := by decide +kernel
theorem dX6_thrown_0 : decode cX6_thrown 0 = .ok (.aload_n 0, 1) := by decide +kernel
theorem dX6_thrown_1 : decode cX6_thrown 1 = .ok (.getfield 37, 3) := by decide +kernel
theorem dX6_thrown_4 : decode cX6_thrown 4 = .ok (.ireturn, 1) := by decide +kernel
theorem dX6_no_0 : decode cX6_no 0 = .ok (.aload_n 0, 1) := by decide +kernel
theorem dX6_no_1 : decode cX6_no 1 = .ok (.iload_n 1, 1) := by decide +kernel
theorem dX6_no_2 : decode cX6_no 2 = .ok (.putfield 37, 3) := by decide +kernel
theorem dX6_no_5 : decode cX6_no 5 = .ok (.iconst 0, 1) := by decide +kernel
theorem dX6_no_6 : decode cX6_no 6 = .ok (.ireturn, 1) := by decide +kernel
theorem dX6_isIn_0 : decode cX6_isIn 0 = .ok (.iload_n 0, 1) := by decide +kernel
theorem dX6_isIn_1 : decode cX6_isIn 1 = .ok (.iload_n 1, 1) := by decide +kernel
theorem dX6_isIn_2 : decode cX6_isIn 2 = .ok (.if_icmp .lt 12, 3) := by decide +kernel
theorem dX6_isIn_5 : decode cX6_isIn 5 = .ok (.iload_n 0, 1) := by decide +kernel
theorem dX6_isIn_6 : decode cX6_isIn 6 = .ok (.iload_n 2, 1) := by decide +kernel
theorem dX6_isIn_7 : decode cX6_isIn 7 = .ok (.if_icmp .gt 7, 3) := by decide +kernel
theorem dX6_isIn_10 : decode cX6_isIn 10 = .ok (.iconst 1, 1) := by decide +kernel
theorem dX6_isIn_11 : decode cX6_isIn 11 = .ok (.goto 4, 3) := by decide +kernel
theorem dX6_isIn_14 : decode cX6_isIn 14 = .ok (.iconst 0, 1) := by decide +kernel
theorem dX6_isIn_15 : decode cX6_isIn 15 = .ok (.ireturn, 1) := by decide +kernel
theorem dX6_isJuggler_0 : decode cX6_isJuggler 0 = .ok (.iload_n 1, 1) := by decide +kernel
theorem dX6_isJuggler_1 : decode cX6_isJuggler 1 = .ok (.iconst 0, 1) := by decide +kernel
theorem dX6_isJuggler_2 : decode cX6_isJuggler 2 = .ok (.aload_n 0, 1) := by decide +kernel
theorem dX6_isJuggler_3 : decode cX6_isJuggler 3 = .ok (.getfield 41, 3) := by decide +kernel
theorem dX6_isJuggler_6 : decode cX6_isJuggler 6 = .ok (.iconst 1, 1) := by decide +kernel
theorem dX6_isJuggler_7 : decode cX6_isJuggler 7 = .ok (.isub, 1) := by decide +kernel
theorem dX6_isJuggler_8 : decode cX6_isJuggler 8 = .ok (.invokestatic 44, 3) := by decide +kernel
theorem dX6_isJuggler_11 : decode cX6_isJuggler 11 = .ok (.ireturn, 1) := by decide +kernel
theorem dX6_isThing_0 : decode cX6_isThing 0 = .ok (.iload_n 1, 1) := by decide +kernel
theorem dX6_isThing_1 : decode cX6_isThing 1 = .ok (.iconst 0, 1) := by decide +kernel
theorem dX6_isThing_2 : decode cX6_isThing 2 = .ok (.aload_n 0, 1) := by decide +kernel
theorem dX6_isThing_3 : decode cX6_isThing 3 = .ok (.getfield 48, 3) := by decide +kernel
theorem dX6_isThing_6 : decode cX6_isThing 6 = .ok (.iconst 1, 1) := by decide +kernel
theorem dX6_isThing_7 : decode cX6_isThing 7 = .ok (.isub, 1) := by decide +kernel
theorem dX6_isThing_8 : decode cX6_isThing 8 = .ok (.invokestatic 44, 3) := by decide +kernel
theorem dX6_isThing_11 : decode cX6_isThing 11 = .ok (.ireturn, 1) := by decide +kernel
theorem dX6_isPlace_0 : decode cX6_isPlace 0 = .ok (.aload_n 0, 1) := by decide +kernel
theorem dX6_isPlace_1 : decode cX6_isPlace 1 = .ok (.iload_n 1, 1) := by decide +kernel
theorem dX6_isPlace_2 : decode cX6_isPlace 2 = .ok (.invokevirtual 51, 3) := by decide +kernel
theorem dX6_isPlace_5 : decode cX6_isPlace 5 = .ok (.ifCond .eq 23, 3) := by decide +kernel
theorem dX6_isPlace_8 : decode cX6_isPlace 8 = .ok (.iload_n 2, 1) := by decide +kernel
theorem dX6_isPlace_9 : decode cX6_isPlace 9 = .ok (.iconst 0, 1) := by decide +kernel
theorem dX6_isPlace_10 : decode cX6_isPlace 10 = .ok (.aload_n 0, 1) := by decide +kernel
theorem dX6_isPlace_11 : decode cX6_isPlace 11 = .ok (.getfield 13, 3) := by decide +kernel
theorem dX6_isPlace_14 : decode cX6_isPlace 14 = .ok (.iload_n 1, 1) := by decide +kernel
theorem dX6_isPlace_15 : decode cX6_isPlace 15 = .ok (.iaload, 1) := by decide +kernel
theorem dX6_isPlace_16 : decode cX6_isPlace 16 = .ok (.iconst 1, 1) := by decide +kernel
theorem dX6_isPlace_17 : decode cX6_isPlace 17 = .ok (.isub, 1) := by decide +kernel
theorem dX6_isPlace_18 : decode cX6_isPlace 18 = .ok (.invokestatic 44, 3) := by decide +kernel
theorem dX6_isPlace_21 : decode cX6_isPlace 21 = .ok (.ifCond .eq 7, 3) := by decide +kernel
theorem dX6_isPlace_24 : decode cX6_isPlace 24 = .ok (.iconst 1, 1) := by decide +kernel
theorem dX6_isPlace_25 : decode cX6_isPlace 25 = .ok (.goto 4, 3) := by decide +kernel
theorem dX6_isPlace_28 : decode cX6_isPlace 28 = .ok (.iconst 0, 1) := by decide +kernel
theorem dX6_isPlace_29 : decode cX6_isPlace 29 = .ok (.ireturn, 1) := by decide +kernel
theorem dX6_beatsOf_0 : decode cX6_beatsOf 0 = .ok (.iload_n 0, 1) := by decide +kernel
theorem dX6_beatsOf_1 : decode cX6_beatsOf 1 = .ok (.iconst 1, 1) := by decide +kernel
theorem dX6_beatsOf_2 : decode cX6_beatsOf 2 = .ok (.if_icmp .ne 12, 3) := by decide +kernel
theorem dX6_beatsOf_5 : decode cX6_beatsOf 5 = .ok (.iload_n 1, 1) := by decide +kernel
theorem dX6_beatsOf_6 : decode cX6_beatsOf 6 = .ok (.iconst 3, 1) := by decide +kernel
theorem dX6_beatsOf_7 : decode cX6_beatsOf 7 = .ok (.if_icmp .lt 7, 3) := by decide +kernel
theorem dX6_beatsOf_10 : decode cX6_beatsOf 10 = .ok (.iload_n 1, 1) := by decide +kernel
theorem dX6_beatsOf_11 : decode cX6_beatsOf 11 = .ok (.iconst 1, 1) := by decide +kernel
theorem dX6_beatsOf_12 : decode cX6_beatsOf 12 = .ok (.isub, 1) := by decide +kernel
theorem dX6_beatsOf_13 : decode cX6_beatsOf 13 = .ok (.ireturn, 1) := by decide +kernel
theorem dX6_beatsOf_14 : decode cX6_beatsOf 14 = .ok (.iload_n 0, 1) := by decide +kernel
theorem dX6_beatsOf_15 : decode cX6_beatsOf 15 = .ok (.iconst 2, 1) := by decide +kernel
theorem dX6_beatsOf_16 : decode cX6_beatsOf 16 = .ok (.if_icmp .ne 14, 3) := by decide +kernel
theorem dX6_beatsOf_19 : decode cX6_beatsOf 19 = .ok (.iload_n 1, 1) := by decide +kernel
theorem dX6_beatsOf_20 : decode cX6_beatsOf 20 = .ok (.iconst 5, 1) := by decide +kernel
theorem dX6_beatsOf_21 : decode cX6_beatsOf 21 = .ok (.if_icmp .lt 9, 3) := by decide +kernel
theorem dX6_beatsOf_24 : decode cX6_beatsOf 24 = .ok (.iload_n 1, 1) := by decide +kernel
theorem dX6_beatsOf_25 : decode cX6_beatsOf 25 = .ok (.iconst 1, 1) := by decide +kernel
theorem dX6_beatsOf_26 : decode cX6_beatsOf 26 = .ok (.iadd, 1) := by decide +kernel
theorem dX6_beatsOf_27 : decode cX6_beatsOf 27 = .ok (.goto 4, 3) := by decide +kernel
theorem dX6_beatsOf_30 : decode cX6_beatsOf 30 = .ok (.iload_n 1, 1) := by decide +kernel
theorem dX6_beatsOf_31 : decode cX6_beatsOf 31 = .ok (.ireturn, 1) := by decide +kernel
theorem dX6_come_0 : decode cX6_come 0 = .ok (.aload_n 0, 1) := by decide +kernel
theorem dX6_come_1 : decode cX6_come 1 = .ok (.iconst 0, 1) := by decide +kernel
theorem dX6_come_2 : decode cX6_come 2 = .ok (.putfield 37, 3) := by decide +kernel
theorem dX6_come_5 : decode cX6_come 5 = .ok (.iload_n 1, 1) := by decide +kernel
theorem dX6_come_6 : decode cX6_come 6 = .ok (.iconst 1, 1) := by decide +kernel
theorem dX6_come_7 : decode cX6_come 7 = .ok (.bipush 9, 2) := by decide +kernel
theorem dX6_come_9 : decode cX6_come 9 = .ok (.invokestatic 44, 3) := by decide +kernel
theorem dX6_come_12 : decode cX6_come 12 = .ok (.ifCond .ne 9, 3) := by decide +kernel
theorem dX6_come_15 : decode cX6_come 15 = .ok (.aload_n 0, 1) := by decide +kernel
theorem dX6_come_16 : decode cX6_come 16 = .ok (.iconst 1, 1) := by decide +kernel
theorem dX6_come_17 : decode cX6_come 17 = .ok (.invokevirtual 55, 3) := by decide +kernel
theorem dX6_come_20 : decode cX6_come 20 = .ok (.ireturn, 1) := by decide +kernel
theorem dX6_come_21 : decode cX6_come 21 = .ok (.aload_n 0, 1) := by decide +kernel
theorem dX6_come_22 : decode cX6_come 22 = .ok (.getfield 41, 3) := by decide +kernel
theorem dX6_come_25 : decode cX6_come 25 = .ok (.iconst 4, 1) := by decide +kernel
theorem dX6_come_26 : decode cX6_come 26 = .ok (.if_icmp .ne 9, 3) := by decide +kernel
theorem dX6_come_29 : decode cX6_come 29 = .ok (.aload_n 0, 1) := by decide +kernel
theorem dX6_come_30 : decode cX6_come 30 = .ok (.iconst 2, 1) := by decide +kernel
theorem dX6_come_31 : decode cX6_come 31 = .ok (.invokevirtual 55, 3) := by decide +kernel
theorem dX6_come_34 : decode cX6_come 34 = .ok (.ireturn, 1) := by decide +kernel
theorem dX6_come_35 : decode cX6_come 35 = .ok (.aload_n 0, 1) := by decide +kernel
theorem dX6_come_36 : decode cX6_come 36 = .ok (.getfield 9, 3) := by decide +kernel
theorem dX6_come_39 : decode cX6_come 39 = .ok (.aload_n 0, 1) := by decide +kernel
theorem dX6_come_40 : decode cX6_come 40 = .ok (.getfield 41, 3) := by decide +kernel
theorem dX6_come_43 : decode cX6_come 43 = .ok (.iload_n 1, 1) := by decide +kernel
theorem dX6_come_44 : decode cX6_come 44 = .ok (.iastore, 1) := by decide +kernel
theorem dX6_come_45 : decode cX6_come 45 = .ok (.aload_n 0, 1) := by decide +kernel
theorem dX6_come_46 : decode cX6_come 46 = .ok (.getfield 13, 3) := by decide +kernel
theorem dX6_come_49 : decode cX6_come 49 = .ok (.aload_n 0, 1) := by decide +kernel
theorem dX6_come_50 : decode cX6_come 50 = .ok (.getfield 41, 3) := by decide +kernel
theorem dX6_come_53 : decode cX6_come 53 = .ok (.iconst 1, 1) := by decide +kernel
theorem dX6_come_54 : decode cX6_come 54 = .ok (.iastore, 1) := by decide +kernel
theorem dX6_come_55 : decode cX6_come 55 = .ok (.aload_n 0, 1) := by decide +kernel
theorem dX6_come_56 : decode cX6_come 56 = .ok (.getfield 19, 3) := by decide +kernel
theorem dX6_come_59 : decode cX6_come 59 = .ok (.bipush 8, 2) := by decide +kernel
theorem dX6_come_61 : decode cX6_come 61 = .ok (.aload_n 0, 1) := by decide +kernel
theorem dX6_come_62 : decode cX6_come 62 = .ok (.getfield 41, 3) := by decide +kernel
theorem dX6_come_65 : decode cX6_come 65 = .ok (.imul, 1) := by decide +kernel
theorem dX6_come_66 : decode cX6_come 66 = .ok (.aload_n 0, 1) := by decide +kernel
theorem dX6_come_67 : decode cX6_come 67 = .ok (.getfield 41, 3) := by decide +kernel
theorem dX6_come_70 : decode cX6_come 70 = .ok (.iastore, 1) := by decide +kernel
theorem dX6_come_71 : decode cX6_come 71 = .ok (.aload_n 0, 1) := by decide +kernel
theorem dX6_come_72 : decode cX6_come 72 = .ok (.dup, 1) := by decide +kernel
theorem dX6_come_73 : decode cX6_come 73 = .ok (.getfield 41, 3) := by decide +kernel
theorem dX6_come_76 : decode cX6_come 76 = .ok (.iconst 1, 1) := by decide +kernel
theorem dX6_come_77 : decode cX6_come 77 = .ok (.iadd, 1) := by decide +kernel
theorem dX6_come_78 : decode cX6_come 78 = .ok (.putfield 41, 3) := by decide +kernel
theorem dX6_come_81 : decode cX6_come 81 = .ok (.aload_n 0, 1) := by decide +kernel
theorem dX6_come_82 : decode cX6_come 82 = .ok (.getfield 41, 3) := by decide +kernel
theorem dX6_come_85 : decode cX6_come 85 = .ok (.iconst 1, 1) := by decide +kernel
theorem dX6_come_86 : decode cX6_come 86 = .ok (.isub, 1) := by decide +kernel
theorem dX6_come_87 : decode cX6_come 87 = .ok (.ireturn, 1) := by decide +kernel
theorem dX6_setPattern_0 : decode cX6_setPattern 0 = .ok (.aload_n 0, 1) := by decide +kernel
theorem dX6_setPattern_1 : decode cX6_setPattern 1 = .ok (.iconst 0, 1) := by decide +kernel
theorem dX6_setPattern_2 : decode cX6_setPattern 2 = .ok (.putfield 37, 3) := by decide +kernel
theorem dX6_setPattern_5 : decode cX6_setPattern 5 = .ok (.aload_n 0, 1) := by decide +kernel
theorem dX6_setPattern_6 : decode cX6_setPattern 6 = .ok (.iload_n 1, 1) := by decide +kernel
theorem dX6_setPattern_7 : decode cX6_setPattern 7 = .ok (.invokevirtual 51, 3) := by decide +kernel
theorem dX6_setPattern_10 : decode cX6_setPattern 10 = .ok (.ifCond .ne 9, 3) := by decide +kernel
theorem dX6_setPattern_13 : decode cX6_setPattern 13 = .ok (.aload_n 0, 1) := by decide +kernel
theorem dX6_setPattern_14 : decode cX6_setPattern 14 = .ok (.iconst 1, 1) := by decide +kernel
theorem dX6_setPattern_15 : decode cX6_setPattern 15 = .ok (.invokevirtual 55, 3) := by decide +kernel
theorem dX6_setPattern_18 : decode cX6_setPattern 18 = .ok (.ireturn, 1) := by decide +kernel
theorem dX6_setPattern_19 : decode cX6_setPattern 19 = .ok (.iconst 1, 1) := by decide +kernel
theorem dX6_setPattern_20 : decode cX6_setPattern 20 = .ok (.istore 4, 2) := by decide +kernel
theorem dX6_setPattern_22 : decode cX6_setPattern 22 = .ok (.iconst 0, 1) := by decide +kernel
theorem dX6_setPattern_23 : decode cX6_setPattern 23 = .ok (.istore 5, 2) := by decide +kernel
theorem dX6_setPattern_25 : decode cX6_setPattern 25 = .ok (.iload 5, 2) := by decide +kernel
theorem dX6_setPattern_27 : decode cX6_setPattern 27 = .ok (.iload_n 2, 1) := by decide +kernel
theorem dX6_setPattern_28 : decode cX6_setPattern 28 = .ok (.if_icmp .ge 23, 3) := by decide +kernel
theorem dX6_setPattern_31 : decode cX6_setPattern 31 = .ok (.iload 5, 2) := by decide +kernel
theorem dX6_setPattern_33 : decode cX6_setPattern 33 = .ok (.bipush 8, 2) := by decide +kernel
theorem dX6_setPattern_35 : decode cX6_setPattern 35 = .ok (.if_icmp .ge 16, 3) := by decide +kernel
theorem dX6_setPattern_38 : decode cX6_setPattern 38 = .ok (.iload 4, 2) := by decide +kernel
theorem dX6_setPattern_40 : decode cX6_setPattern 40 = .ok (.bipush 10, 2) := by decide +kernel
theorem dX6_setPattern_42 : decode cX6_setPattern 42 = .ok (.imul, 1) := by decide +kernel
theorem dX6_setPattern_43 : decode cX6_setPattern 43 = .ok (.istore 4, 2) := by decide +kernel
theorem dX6_setPattern_45 : decode cX6_setPattern 45 = .ok (.iinc 5 1, 3) := by decide +kernel
theorem dX6_setPattern_48 : decode cX6_setPattern 48 = .ok (.goto (-23), 3) := by decide +kernel
theorem dX6_setPattern_51 : decode cX6_setPattern 51 = .ok (.iload_n 2, 1) := by decide +kernel
theorem dX6_setPattern_52 : decode cX6_setPattern 52 = .ok (.iconst 1, 1) := by decide +kernel
theorem dX6_setPattern_53 : decode cX6_setPattern 53 = .ok (.bipush 8, 2) := by decide +kernel
theorem dX6_setPattern_55 : decode cX6_setPattern 55 = .ok (.invokestatic 44, 3) := by decide +kernel
theorem dX6_setPattern_58 : decode cX6_setPattern 58 = .ok (.ifCond .eq 15, 3) := by decide +kernel
theorem dX6_setPattern_61 : decode cX6_setPattern 61 = .ok (.iload_n 3, 1) := by decide +kernel
theorem dX6_setPattern_62 : decode cX6_setPattern 62 = .ok (.iconst 0, 1) := by decide +kernel
theorem dX6_setPattern_63 : decode cX6_setPattern 63 = .ok (.iload 4, 2) := by decide +kernel
theorem dX6_setPattern_65 : decode cX6_setPattern 65 = .ok (.iconst 1, 1) := by decide +kernel
theorem dX6_setPattern_66 : decode cX6_setPattern 66 = .ok (.isub, 1) := by decide +kernel
theorem dX6_setPattern_67 : decode cX6_setPattern 67 = .ok (.invokestatic 44, 3) := by decide +kernel
theorem dX6_setPattern_70 : decode cX6_setPattern 70 = .ok (.ifCond .ne 9, 3) := by decide +kernel
theorem dX6_setPattern_73 : decode cX6_setPattern 73 = .ok (.aload_n 0, 1) := by decide +kernel
theorem dX6_setPattern_74 : decode cX6_setPattern 74 = .ok (.iconst 2, 1) := by decide +kernel
theorem dX6_setPattern_75 : decode cX6_setPattern 75 = .ok (.invokevirtual 55, 3) := by decide +kernel
theorem dX6_setPattern_78 : decode cX6_setPattern 78 = .ok (.ireturn, 1) := by decide +kernel
theorem dX6_setPattern_79 : decode cX6_setPattern 79 = .ok (.aload_n 0, 1) := by decide +kernel
theorem dX6_setPattern_80 : decode cX6_setPattern 80 = .ok (.getfield 13, 3) := by decide +kernel
theorem dX6_setPattern_83 : decode cX6_setPattern 83 = .ok (.iload_n 1, 1) := by decide +kernel
theorem dX6_setPattern_84 : decode cX6_setPattern 84 = .ok (.iaload, 1) := by decide +kernel
theorem dX6_setPattern_85 : decode cX6_setPattern 85 = .ok (.istore 5, 2) := by decide +kernel
theorem dX6_setPattern_87 : decode cX6_setPattern 87 = .ok (.aload_n 0, 1) := by decide +kernel
theorem dX6_setPattern_88 : decode cX6_setPattern 88 = .ok (.getfield 13, 3) := by decide +kernel
theorem dX6_setPattern_91 : decode cX6_setPattern 91 = .ok (.iload_n 1, 1) := by decide +kernel
theorem dX6_setPattern_92 : decode cX6_setPattern 92 = .ok (.iload_n 2, 1) := by decide +kernel
theorem dX6_setPattern_93 : decode cX6_setPattern 93 = .ok (.iastore, 1) := by decide +kernel
theorem dX6_setPattern_94 : decode cX6_setPattern 94 = .ok (.iload_n 3, 1) := by decide +kernel
theorem dX6_setPattern_95 : decode cX6_setPattern 95 = .ok (.istore 6, 2) := by decide +kernel
theorem dX6_setPattern_97 : decode cX6_setPattern 97 = .ok (.iload_n 2, 1) := by decide +kernel
theorem dX6_setPattern_98 : decode cX6_setPattern 98 = .ok (.iconst 1, 1) := by decide +kernel
theorem dX6_setPattern_99 : decode cX6_setPattern 99 = .ok (.isub, 1) := by decide +kernel
theorem dX6_setPattern_100 : decode cX6_setPattern 100 = .ok (.istore 7, 2) := by decide +kernel
theorem dX6_setPattern_102 : decode cX6_setPattern 102 = .ok (.iload 7, 2) := by decide +kernel
theorem dX6_setPattern_104 : decode cX6_setPattern 104 = .ok (.ifCond .lt 46, 3) := by decide +kernel
theorem dX6_setPattern_107 : decode cX6_setPattern 107 = .ok (.aload_n 0, 1) := by decide +kernel
theorem dX6_setPattern_108 : decode cX6_setPattern 108 = .ok (.getfield 16, 3) := by decide +kernel
theorem dX6_setPattern_111 : decode cX6_setPattern 111 = .ok (.bipush 8, 2) := by decide +kernel
theorem dX6_setPattern_113 : decode cX6_setPattern 113 = .ok (.iload_n 1, 1) := by decide +kernel
theorem dX6_setPattern_114 : decode cX6_setPattern 114 = .ok (.imul, 1) := by decide +kernel
theorem dX6_setPattern_115 : decode cX6_setPattern 115 = .ok (.iload 7, 2) := by decide +kernel
theorem dX6_setPattern_117 : decode cX6_setPattern 117 = .ok (.iadd, 1) := by decide +kernel
theorem dX6_setPattern_118 : decode cX6_setPattern 118 = .ok (.iload 6, 2) := by decide +kernel
theorem dX6_setPattern_120 : decode cX6_setPattern 120 = .ok (.bipush 10, 2) := by decide +kernel
theorem dX6_setPattern_122 : decode cX6_setPattern 122 = .ok (.irem, 1) := by decide +kernel
theorem dX6_setPattern_123 : decode cX6_setPattern 123 = .ok (.iastore, 1) := by decide +kernel
theorem dX6_setPattern_124 : decode cX6_setPattern 124 = .ok (.aload_n 0, 1) := by decide +kernel
theorem dX6_setPattern_125 : decode cX6_setPattern 125 = .ok (.getfield 19, 3) := by decide +kernel
theorem dX6_setPattern_128 : decode cX6_setPattern 128 = .ok (.bipush 8, 2) := by decide +kernel
theorem dX6_setPattern_130 : decode cX6_setPattern 130 = .ok (.iload_n 1, 1) := by decide +kernel
theorem dX6_setPattern_131 : decode cX6_setPattern 131 = .ok (.imul, 1) := by decide +kernel
theorem dX6_setPattern_132 : decode cX6_setPattern 132 = .ok (.iload 7, 2) := by decide +kernel
theorem dX6_setPattern_134 : decode cX6_setPattern 134 = .ok (.iadd, 1) := by decide +kernel
theorem dX6_setPattern_135 : decode cX6_setPattern 135 = .ok (.iload_n 1, 1) := by decide +kernel
theorem dX6_setPattern_136 : decode cX6_setPattern 136 = .ok (.iastore, 1) := by decide +kernel
theorem dX6_setPattern_137 : decode cX6_setPattern 137 = .ok (.iload 6, 2) := by decide +kernel
theorem dX6_setPattern_139 : decode cX6_setPattern 139 = .ok (.bipush 10, 2) := by decide +kernel
theorem dX6_setPattern_141 : decode cX6_setPattern 141 = .ok (.idiv, 1) := by decide +kernel
theorem dX6_setPattern_142 : decode cX6_setPattern 142 = .ok (.istore 6, 2) := by decide +kernel
theorem dX6_setPattern_144 : decode cX6_setPattern 144 = .ok (.iinc 7 (-1), 3) := by decide +kernel
theorem dX6_setPattern_147 : decode cX6_setPattern 147 = .ok (.goto (-45), 3) := by decide +kernel
theorem dX6_setPattern_150 : decode cX6_setPattern 150 = .ok (.iload 5, 2) := by decide +kernel
theorem dX6_setPattern_152 : decode cX6_setPattern 152 = .ok (.ireturn, 1) := by decide +kernel
theorem dX6_pass_0 : decode cX6_pass 0 = .ok (.aload_n 0, 1) := by decide +kernel
theorem dX6_pass_1 : decode cX6_pass 1 = .ok (.iconst 0, 1) := by decide +kernel
theorem dX6_pass_2 : decode cX6_pass 2 = .ok (.putfield 37, 3) := by decide +kernel
theorem dX6_pass_5 : decode cX6_pass 5 = .ok (.aload_n 0, 1) := by decide +kernel
theorem dX6_pass_6 : decode cX6_pass 6 = .ok (.iload_n 1, 1) := by decide +kernel
theorem dX6_pass_7 : decode cX6_pass 7 = .ok (.iload_n 2, 1) := by decide +kernel
theorem dX6_pass_8 : decode cX6_pass 8 = .ok (.invokevirtual 59, 3) := by decide +kernel
theorem dX6_pass_11 : decode cX6_pass 11 = .ok (.ifCond .eq 11, 3) := by decide +kernel
theorem dX6_pass_14 : decode cX6_pass 14 = .ok (.aload_n 0, 1) := by decide +kernel
theorem dX6_pass_15 : decode cX6_pass 15 = .ok (.iload_n 3, 1) := by decide +kernel
theorem dX6_pass_16 : decode cX6_pass 16 = .ok (.invokevirtual 51, 3) := by decide +kernel
theorem dX6_pass_19 : decode cX6_pass 19 = .ok (.ifCond .ne 9, 3) := by decide +kernel
theorem dX6_pass_22 : decode cX6_pass 22 = .ok (.aload_n 0, 1) := by decide +kernel
theorem dX6_pass_23 : decode cX6_pass 23 = .ok (.iconst 1, 1) := by decide +kernel
theorem dX6_pass_24 : decode cX6_pass 24 = .ok (.invokevirtual 55, 3) := by decide +kernel
theorem dX6_pass_27 : decode cX6_pass 27 = .ok (.ireturn, 1) := by decide +kernel
theorem dX6_pass_28 : decode cX6_pass 28 = .ok (.aload_n 0, 1) := by decide +kernel
theorem dX6_pass_29 : decode cX6_pass 29 = .ok (.getfield 19, 3) := by decide +kernel
theorem dX6_pass_32 : decode cX6_pass 32 = .ok (.bipush 8, 2) := by decide +kernel
theorem dX6_pass_34 : decode cX6_pass 34 = .ok (.iload_n 1, 1) := by decide +kernel
theorem dX6_pass_35 : decode cX6_pass 35 = .ok (.imul, 1) := by decide +kernel
theorem dX6_pass_36 : decode cX6_pass 36 = .ok (.iload_n 2, 1) := by decide +kernel
theorem dX6_pass_37 : decode cX6_pass 37 = .ok (.iadd, 1) := by decide +kernel
theorem dX6_pass_38 : decode cX6_pass 38 = .ok (.iaload, 1) := by decide +kernel
theorem dX6_pass_39 : decode cX6_pass 39 = .ok (.istore 4, 2) := by decide +kernel
theorem dX6_pass_41 : decode cX6_pass 41 = .ok (.aload_n 0, 1) := by decide +kernel
theorem dX6_pass_42 : decode cX6_pass 42 = .ok (.getfield 19, 3) := by decide +kernel
theorem dX6_pass_45 : decode cX6_pass 45 = .ok (.bipush 8, 2) := by decide +kernel
theorem dX6_pass_47 : decode cX6_pass 47 = .ok (.iload_n 1, 1) := by decide +kernel
theorem dX6_pass_48 : decode cX6_pass 48 = .ok (.imul, 1) := by decide +kernel
theorem dX6_pass_49 : decode cX6_pass 49 = .ok (.iload_n 2, 1) := by decide +kernel
theorem dX6_pass_50 : decode cX6_pass 50 = .ok (.iadd, 1) := by decide +kernel
theorem dX6_pass_51 : decode cX6_pass 51 = .ok (.iload_n 3, 1) := by decide +kernel
theorem dX6_pass_52 : decode cX6_pass 52 = .ok (.iastore, 1) := by decide +kernel
theorem dX6_pass_53 : decode cX6_pass 53 = .ok (.iload 4, 2) := by decide +kernel
theorem dX6_pass_55 : decode cX6_pass 55 = .ok (.ireturn, 1) := by decide +kernel
theorem dX6_written_0 : decode cX6_written 0 = .ok (.aload_n 0, 1) := by decide +kernel
theorem dX6_written_1 : decode cX6_written 1 = .ok (.iconst 0, 1) := by decide +kernel
theorem dX6_written_2 : decode cX6_written 2 = .ok (.putfield 37, 3) := by decide +kernel
theorem dX6_written_5 : decode cX6_written 5 = .ok (.aload_n 0, 1) := by decide +kernel
theorem dX6_written_6 : decode cX6_written 6 = .ok (.iload_n 1, 1) := by decide +kernel
theorem dX6_written_7 : decode cX6_written 7 = .ok (.iload_n 2, 1) := by decide +kernel
theorem dX6_written_8 : decode cX6_written 8 = .ok (.invokevirtual 59, 3) := by decide +kernel
theorem dX6_written_11 : decode cX6_written 11 = .ok (.ifCond .eq 12, 3) := by decide +kernel
theorem dX6_written_14 : decode cX6_written 14 = .ok (.iload_n 3, 1) := by decide +kernel
theorem dX6_written_15 : decode cX6_written 15 = .ok (.iconst 0, 1) := by decide +kernel
theorem dX6_written_16 : decode cX6_written 16 = .ok (.iconst 1, 1) := by decide +kernel
theorem dX6_written_17 : decode cX6_written 17 = .ok (.invokestatic 44, 3) := by decide +kernel
theorem dX6_written_20 : decode cX6_written 20 = .ok (.ifCond .ne 9, 3) := by decide +kernel
theorem dX6_written_23 : decode cX6_written 23 = .ok (.aload_n 0, 1) := by decide +kernel
theorem dX6_written_24 : decode cX6_written 24 = .ok (.iconst 1, 1) := by decide +kernel
theorem dX6_written_25 : decode cX6_written 25 = .ok (.invokevirtual 55, 3) := by decide +kernel
theorem dX6_written_28 : decode cX6_written 28 = .ok (.ireturn, 1) := by decide +kernel
theorem dX6_written_29 : decode cX6_written 29 = .ok (.iload_n 3, 1) := by decide +kernel
theorem dX6_written_30 : decode cX6_written 30 = .ok (.ifCond .ne 17, 3) := by decide +kernel
theorem dX6_written_33 : decode cX6_written 33 = .ok (.aload_n 0, 1) := by decide +kernel
theorem dX6_written_34 : decode cX6_written 34 = .ok (.getfield 16, 3) := by decide +kernel
theorem dX6_written_37 : decode cX6_written 37 = .ok (.bipush 8, 2) := by decide +kernel
theorem dX6_written_39 : decode cX6_written 39 = .ok (.iload_n 1, 1) := by decide +kernel
theorem dX6_written_40 : decode cX6_written 40 = .ok (.imul, 1) := by decide +kernel
theorem dX6_written_41 : decode cX6_written 41 = .ok (.iload_n 2, 1) := by decide +kernel
theorem dX6_written_42 : decode cX6_written 42 = .ok (.iadd, 1) := by decide +kernel
theorem dX6_written_43 : decode cX6_written 43 = .ok (.iaload, 1) := by decide +kernel
theorem dX6_written_44 : decode cX6_written 44 = .ok (.goto 14, 3) := by decide +kernel
theorem dX6_written_47 : decode cX6_written 47 = .ok (.aload_n 0, 1) := by decide +kernel
theorem dX6_written_48 : decode cX6_written 48 = .ok (.getfield 19, 3) := by decide +kernel
theorem dX6_written_51 : decode cX6_written 51 = .ok (.bipush 8, 2) := by decide +kernel
theorem dX6_written_53 : decode cX6_written 53 = .ok (.iload_n 1, 1) := by decide +kernel
theorem dX6_written_54 : decode cX6_written 54 = .ok (.imul, 1) := by decide +kernel
theorem dX6_written_55 : decode cX6_written 55 = .ok (.iload_n 2, 1) := by decide +kernel
theorem dX6_written_56 : decode cX6_written 56 = .ok (.iadd, 1) := by decide +kernel
theorem dX6_written_57 : decode cX6_written 57 = .ok (.iaload, 1) := by decide +kernel
theorem dX6_written_58 : decode cX6_written 58 = .ok (.ireturn, 1) := by decide +kernel
theorem dX6_make_0 : decode cX6_make 0 = .ok (.aload_n 0, 1) := by decide +kernel
theorem dX6_make_1 : decode cX6_make 1 = .ok (.iconst 0, 1) := by decide +kernel
theorem dX6_make_2 : decode cX6_make 2 = .ok (.putfield 37, 3) := by decide +kernel
theorem dX6_make_5 : decode cX6_make 5 = .ok (.iload_n 1, 1) := by decide +kernel
theorem dX6_make_6 : decode cX6_make 6 = .ok (.iconst 0, 1) := by decide +kernel
theorem dX6_make_7 : decode cX6_make 7 = .ok (.iconst 2, 1) := by decide +kernel
theorem dX6_make_8 : decode cX6_make 8 = .ok (.invokestatic 44, 3) := by decide +kernel
theorem dX6_make_11 : decode cX6_make 11 = .ok (.ifCond .ne 9, 3) := by decide +kernel
theorem dX6_make_14 : decode cX6_make 14 = .ok (.aload_n 0, 1) := by decide +kernel
theorem dX6_make_15 : decode cX6_make 15 = .ok (.iconst 1, 1) := by decide +kernel
theorem dX6_make_16 : decode cX6_make 16 = .ok (.invokevirtual 55, 3) := by decide +kernel
theorem dX6_make_19 : decode cX6_make 19 = .ok (.ireturn, 1) := by decide +kernel
theorem dX6_make_20 : decode cX6_make 20 = .ok (.aload_n 0, 1) := by decide +kernel
theorem dX6_make_21 : decode cX6_make 21 = .ok (.getfield 48, 3) := by decide +kernel
theorem dX6_make_24 : decode cX6_make 24 = .ok (.bipush 12, 2) := by decide +kernel
theorem dX6_make_26 : decode cX6_make 26 = .ok (.if_icmp .ne 9, 3) := by decide +kernel
theorem dX6_make_29 : decode cX6_make 29 = .ok (.aload_n 0, 1) := by decide +kernel
theorem dX6_make_30 : decode cX6_make 30 = .ok (.iconst 2, 1) := by decide +kernel
theorem dX6_make_31 : decode cX6_make 31 = .ok (.invokevirtual 55, 3) := by decide +kernel
theorem dX6_make_34 : decode cX6_make 34 = .ok (.ireturn, 1) := by decide +kernel
theorem dX6_make_35 : decode cX6_make 35 = .ok (.aload_n 0, 1) := by decide +kernel
theorem dX6_make_36 : decode cX6_make 36 = .ok (.getfield 22, 3) := by decide +kernel
theorem dX6_make_39 : decode cX6_make 39 = .ok (.aload_n 0, 1) := by decide +kernel
theorem dX6_make_40 : decode cX6_make 40 = .ok (.getfield 48, 3) := by decide +kernel
theorem dX6_make_43 : decode cX6_make 43 = .ok (.iload_n 1, 1) := by decide +kernel
theorem dX6_make_44 : decode cX6_make 44 = .ok (.iastore, 1) := by decide +kernel
theorem dX6_make_45 : decode cX6_make 45 = .ok (.aload_n 0, 1) := by decide +kernel
theorem dX6_make_46 : decode cX6_make 46 = .ok (.dup, 1) := by decide +kernel
theorem dX6_make_47 : decode cX6_make 47 = .ok (.getfield 48, 3) := by decide +kernel
theorem dX6_make_50 : decode cX6_make 50 = .ok (.iconst 1, 1) := by decide +kernel
theorem dX6_make_51 : decode cX6_make 51 = .ok (.iadd, 1) := by decide +kernel
theorem dX6_make_52 : decode cX6_make 52 = .ok (.putfield 48, 3) := by decide +kernel
theorem dX6_make_55 : decode cX6_make 55 = .ok (.aload_n 0, 1) := by decide +kernel
theorem dX6_make_56 : decode cX6_make 56 = .ok (.getfield 48, 3) := by decide +kernel
theorem dX6_make_59 : decode cX6_make 59 = .ok (.iconst 1, 1) := by decide +kernel
theorem dX6_make_60 : decode cX6_make 60 = .ok (.isub, 1) := by decide +kernel
theorem dX6_make_61 : decode cX6_make 61 = .ok (.ireturn, 1) := by decide +kernel
theorem dX6_holds_0 : decode cX6_holds 0 = .ok (.aload_n 0, 1) := by decide +kernel
theorem dX6_holds_1 : decode cX6_holds 1 = .ok (.getfield 30, 3) := by decide +kernel
theorem dX6_holds_4 : decode cX6_holds 4 = .ok (.getfield 63, 3) := by decide +kernel
theorem dX6_holds_7 : decode cX6_holds 7 = .ok (.iconst 2, 1) := by decide +kernel
theorem dX6_holds_8 : decode cX6_holds 8 = .ok (.iload_n 1, 1) := by decide +kernel
theorem dX6_holds_9 : decode cX6_holds 9 = .ok (.imul, 1) := by decide +kernel
theorem dX6_holds_10 : decode cX6_holds 10 = .ok (.iaload, 1) := by decide +kernel
theorem dX6_holds_11 : decode cX6_holds 11 = .ok (.ifCond .le 7, 3) := by decide +kernel
theorem dX6_holds_14 : decode cX6_holds 14 = .ok (.iconst 1, 1) := by decide +kernel
theorem dX6_holds_15 : decode cX6_holds 15 = .ok (.goto 4, 3) := by decide +kernel
theorem dX6_holds_18 : decode cX6_holds 18 = .ok (.iconst 0, 1) := by decide +kernel
theorem dX6_holds_19 : decode cX6_holds 19 = .ok (.aload_n 0, 1) := by decide +kernel
theorem dX6_holds_20 : decode cX6_holds 20 = .ok (.getfield 30, 3) := by decide +kernel
theorem dX6_holds_23 : decode cX6_holds 23 = .ok (.getfield 63, 3) := by decide +kernel
theorem dX6_holds_26 : decode cX6_holds 26 = .ok (.iconst 2, 1) := by decide +kernel
theorem dX6_holds_27 : decode cX6_holds 27 = .ok (.iload_n 1, 1) := by decide +kernel
theorem dX6_holds_28 : decode cX6_holds 28 = .ok (.imul, 1) := by decide +kernel
theorem dX6_holds_29 : decode cX6_holds 29 = .ok (.iconst 1, 1) := by decide +kernel
theorem dX6_holds_30 : decode cX6_holds 30 = .ok (.iadd, 1) := by decide +kernel
theorem dX6_holds_31 : decode cX6_holds 31 = .ok (.iaload, 1) := by decide +kernel
theorem dX6_holds_32 : decode cX6_holds 32 = .ok (.ifCond .le 7, 3) := by decide +kernel
theorem dX6_holds_35 : decode cX6_holds 35 = .ok (.iconst 1, 1) := by decide +kernel
theorem dX6_holds_36 : decode cX6_holds 36 = .ok (.goto 4, 3) := by decide +kernel
theorem dX6_holds_39 : decode cX6_holds 39 = .ok (.iconst 0, 1) := by decide +kernel
theorem dX6_holds_40 : decode cX6_holds 40 = .ok (.iadd, 1) := by decide +kernel
theorem dX6_holds_41 : decode cX6_holds 41 = .ok (.ireturn, 1) := by decide +kernel
theorem dX6_give_0 : decode cX6_give 0 = .ok (.aload_n 0, 1) := by decide +kernel
theorem dX6_give_1 : decode cX6_give 1 = .ok (.iconst 0, 1) := by decide +kernel
theorem dX6_give_2 : decode cX6_give 2 = .ok (.putfield 37, 3) := by decide +kernel
theorem dX6_give_5 : decode cX6_give 5 = .ok (.aload_n 0, 1) := by decide +kernel
theorem dX6_give_6 : decode cX6_give 6 = .ok (.iload_n 1, 1) := by decide +kernel
theorem dX6_give_7 : decode cX6_give 7 = .ok (.invokevirtual 66, 3) := by decide +kernel
theorem dX6_give_10 : decode cX6_give 10 = .ok (.ifCond .eq 20, 3) := by decide +kernel
theorem dX6_give_13 : decode cX6_give 13 = .ok (.aload_n 0, 1) := by decide +kernel
theorem dX6_give_14 : decode cX6_give 14 = .ok (.iload_n 2, 1) := by decide +kernel
theorem dX6_give_15 : decode cX6_give 15 = .ok (.invokevirtual 51, 3) := by decide +kernel
theorem dX6_give_18 : decode cX6_give 18 = .ok (.ifCond .eq 12, 3) := by decide +kernel
theorem dX6_give_21 : decode cX6_give 21 = .ok (.iload_n 3, 1) := by decide +kernel
theorem dX6_give_22 : decode cX6_give 22 = .ok (.iconst 0, 1) := by decide +kernel
theorem dX6_give_23 : decode cX6_give 23 = .ok (.iconst 1, 1) := by decide +kernel
theorem dX6_give_24 : decode cX6_give 24 = .ok (.invokestatic 44, 3) := by decide +kernel
theorem dX6_give_27 : decode cX6_give 27 = .ok (.ifCond .ne 9, 3) := by decide +kernel
theorem dX6_give_30 : decode cX6_give 30 = .ok (.aload_n 0, 1) := by decide +kernel
theorem dX6_give_31 : decode cX6_give 31 = .ok (.iconst 1, 1) := by decide +kernel
theorem dX6_give_32 : decode cX6_give 32 = .ok (.invokevirtual 55, 3) := by decide +kernel
theorem dX6_give_35 : decode cX6_give 35 = .ok (.ireturn, 1) := by decide +kernel
theorem dX6_give_36 : decode cX6_give 36 = .ok (.aload_n 0, 1) := by decide +kernel
theorem dX6_give_37 : decode cX6_give 37 = .ok (.getfield 30, 3) := by decide +kernel
theorem dX6_give_40 : decode cX6_give 40 = .ok (.getfield 69, 3) := by decide +kernel
theorem dX6_give_43 : decode cX6_give 43 = .ok (.iload_n 1, 1) := by decide +kernel
theorem dX6_give_44 : decode cX6_give 44 = .ok (.iaload, 1) := by decide +kernel
theorem dX6_give_45 : decode cX6_give 45 = .ok (.ifCond .ne 19, 3) := by decide +kernel
theorem dX6_give_48 : decode cX6_give 48 = .ok (.aload_n 0, 1) := by decide +kernel
theorem dX6_give_49 : decode cX6_give 49 = .ok (.getfield 30, 3) := by decide +kernel
theorem dX6_give_52 : decode cX6_give 52 = .ok (.getfield 63, 3) := by decide +kernel
theorem dX6_give_55 : decode cX6_give 55 = .ok (.iconst 2, 1) := by decide +kernel
theorem dX6_give_56 : decode cX6_give 56 = .ok (.iload_n 2, 1) := by decide +kernel
theorem dX6_give_57 : decode cX6_give 57 = .ok (.imul, 1) := by decide +kernel
theorem dX6_give_58 : decode cX6_give 58 = .ok (.iload_n 3, 1) := by decide +kernel
theorem dX6_give_59 : decode cX6_give 59 = .ok (.iadd, 1) := by decide +kernel
theorem dX6_give_60 : decode cX6_give 60 = .ok (.iaload, 1) := by decide +kernel
theorem dX6_give_61 : decode cX6_give 61 = .ok (.ifCond .le 9, 3) := by decide +kernel
theorem dX6_give_64 : decode cX6_give 64 = .ok (.aload_n 0, 1) := by decide +kernel
theorem dX6_give_65 : decode cX6_give 65 = .ok (.iconst 2, 1) := by decide +kernel
theorem dX6_give_66 : decode cX6_give 66 = .ok (.invokevirtual 55, 3) := by decide +kernel
theorem dX6_give_69 : decode cX6_give 69 = .ok (.ireturn, 1) := by decide +kernel
theorem dX6_give_70 : decode cX6_give 70 = .ok (.aload_n 0, 1) := by decide +kernel
theorem dX6_give_71 : decode cX6_give 71 = .ok (.getfield 30, 3) := by decide +kernel
theorem dX6_give_74 : decode cX6_give 74 = .ok (.getfield 69, 3) := by decide +kernel
theorem dX6_give_77 : decode cX6_give 77 = .ok (.iload_n 1, 1) := by decide +kernel
theorem dX6_give_78 : decode cX6_give 78 = .ok (.iconst 1, 1) := by decide +kernel
theorem dX6_give_79 : decode cX6_give 79 = .ok (.iastore, 1) := by decide +kernel
theorem dX6_give_80 : decode cX6_give 80 = .ok (.aload_n 0, 1) := by decide +kernel
theorem dX6_give_81 : decode cX6_give 81 = .ok (.getfield 30, 3) := by decide +kernel
theorem dX6_give_84 : decode cX6_give 84 = .ok (.getfield 63, 3) := by decide +kernel
theorem dX6_give_87 : decode cX6_give 87 = .ok (.iconst 2, 1) := by decide +kernel
theorem dX6_give_88 : decode cX6_give 88 = .ok (.iload_n 2, 1) := by decide +kernel
theorem dX6_give_89 : decode cX6_give 89 = .ok (.imul, 1) := by decide +kernel
theorem dX6_give_90 : decode cX6_give 90 = .ok (.iload_n 3, 1) := by decide +kernel
theorem dX6_give_91 : decode cX6_give 91 = .ok (.iadd, 1) := by decide +kernel
theorem dX6_give_92 : decode cX6_give 92 = .ok (.iload_n 1, 1) := by decide +kernel
theorem dX6_give_93 : decode cX6_give 93 = .ok (.iconst 1, 1) := by decide +kernel
theorem dX6_give_94 : decode cX6_give 94 = .ok (.iadd, 1) := by decide +kernel
theorem dX6_give_95 : decode cX6_give 95 = .ok (.iastore, 1) := by decide +kernel
theorem dX6_give_96 : decode cX6_give 96 = .ok (.aload_n 0, 1) := by decide +kernel
theorem dX6_give_97 : decode cX6_give 97 = .ok (.iload_n 2, 1) := by decide +kernel
theorem dX6_give_98 : decode cX6_give 98 = .ok (.invokevirtual 72, 3) := by decide +kernel
theorem dX6_give_101 : decode cX6_give 101 = .ok (.ireturn, 1) := by decide +kernel
theorem dX6_thingTold_0 : decode cX6_thingTold 0 = .ok (.aload_n 0, 1) := by decide +kernel
theorem dX6_thingTold_1 : decode cX6_thingTold 1 = .ok (.getfield 30, 3) := by decide +kernel
theorem dX6_thingTold_4 : decode cX6_thingTold 4 = .ok (.iload_n 1, 1) := by decide +kernel
theorem dX6_thingTold_5 : decode cX6_thingTold 5 = .ok (.invokevirtual 75, 3) := by decide +kernel
theorem dX6_thingTold_8 : decode cX6_thingTold 8 = .ok (.istore_n 3, 1) := by decide +kernel
theorem dX6_thingTold_9 : decode cX6_thingTold 9 = .ok (.aload_n 0, 1) := by decide +kernel
theorem dX6_thingTold_10 : decode cX6_thingTold 10 = .ok (.getfield 30, 3) := by decide +kernel
theorem dX6_thingTold_13 : decode cX6_thingTold 13 = .ok (.getfield 69, 3) := by decide +kernel
theorem dX6_thingTold_16 : decode cX6_thingTold 16 = .ok (.iload_n 1, 1) := by decide +kernel
theorem dX6_thingTold_17 : decode cX6_thingTold 17 = .ok (.iaload, 1) := by decide +kernel
theorem dX6_thingTold_18 : decode cX6_thingTold 18 = .ok (.iconst 2, 1) := by decide +kernel
theorem dX6_thingTold_19 : decode cX6_thingTold 19 = .ok (.if_icmp .ne 7, 3) := by decide +kernel
theorem dX6_thingTold_22 : decode cX6_thingTold 22 = .ok (.iconst 1, 1) := by decide +kernel
theorem dX6_thingTold_23 : decode cX6_thingTold 23 = .ok (.goto 4, 3) := by decide +kernel
theorem dX6_thingTold_26 : decode cX6_thingTold 26 = .ok (.iconst 0, 1) := by decide +kernel
theorem dX6_thingTold_27 : decode cX6_thingTold 27 = .ok (.istore 4, 2) := by decide +kernel
theorem dX6_thingTold_29 : decode cX6_thingTold 29 = .ok (.bipush 7, 2) := by decide +kernel
theorem dX6_thingTold_31 : decode cX6_thingTold 31 = .ok (.newarray .int, 2) := by decide +kernel
theorem dX6_thingTold_33 : decode cX6_thingTold 33 = .ok (.dup, 1) := by decide +kernel
theorem dX6_thingTold_34 : decode cX6_thingTold 34 = .ok (.iconst 0, 1) := by decide +kernel
theorem dX6_thingTold_35 : decode cX6_thingTold 35 = .ok (.aload_n 0, 1) := by decide +kernel
theorem dX6_thingTold_36 : decode cX6_thingTold 36 = .ok (.getfield 22, 3) := by decide +kernel
theorem dX6_thingTold_39 : decode cX6_thingTold 39 = .ok (.iload_n 1, 1) := by decide +kernel
theorem dX6_thingTold_40 : decode cX6_thingTold 40 = .ok (.iaload, 1) := by decide +kernel
theorem dX6_thingTold_41 : decode cX6_thingTold 41 = .ok (.iastore, 1) := by decide +kernel
theorem dX6_thingTold_42 : decode cX6_thingTold 42 = .ok (.dup, 1) := by decide +kernel
theorem dX6_thingTold_43 : decode cX6_thingTold 43 = .ok (.iconst 1, 1) := by decide +kernel
theorem dX6_thingTold_44 : decode cX6_thingTold 44 = .ok (.aload_n 0, 1) := by decide +kernel
theorem dX6_thingTold_45 : decode cX6_thingTold 45 = .ok (.getfield 30, 3) := by decide +kernel
theorem dX6_thingTold_48 : decode cX6_thingTold 48 = .ok (.getfield 69, 3) := by decide +kernel
theorem dX6_thingTold_51 : decode cX6_thingTold 51 = .ok (.iload_n 1, 1) := by decide +kernel
theorem dX6_thingTold_52 : decode cX6_thingTold 52 = .ok (.iaload, 1) := by decide +kernel
theorem dX6_thingTold_53 : decode cX6_thingTold 53 = .ok (.iastore, 1) := by decide +kernel
theorem dX6_thingTold_54 : decode cX6_thingTold 54 = .ok (.dup, 1) := by decide +kernel
theorem dX6_thingTold_55 : decode cX6_thingTold 55 = .ok (.iconst 2, 1) := by decide +kernel
theorem dX6_thingTold_56 : decode cX6_thingTold 56 = .ok (.iload_n 3, 1) := by decide +kernel
theorem dX6_thingTold_57 : decode cX6_thingTold 57 = .ok (.iconst (-1), 1) := by decide +kernel
theorem dX6_thingTold_58 : decode cX6_thingTold 58 = .ok (.if_icmp .eq 9, 3) := by decide +kernel
theorem dX6_thingTold_61 : decode cX6_thingTold 61 = .ok (.iload_n 3, 1) := by decide +kernel
theorem dX6_thingTold_62 : decode cX6_thingTold 62 = .ok (.iconst 2, 1) := by decide +kernel
theorem dX6_thingTold_63 : decode cX6_thingTold 63 = .ok (.idiv, 1) := by decide +kernel
theorem dX6_thingTold_64 : decode cX6_thingTold 64 = .ok (.goto 21, 3) := by decide +kernel
theorem dX6_thingTold_67 : decode cX6_thingTold 67 = .ok (.iload 4, 2) := by decide +kernel
theorem dX6_thingTold_69 : decode cX6_thingTold 69 = .ok (.ifCond .eq 15, 3) := by decide +kernel
theorem dX6_thingTold_72 : decode cX6_thingTold 72 = .ok (.aload_n 0, 1) := by decide +kernel
theorem dX6_thingTold_73 : decode cX6_thingTold 73 = .ok (.getfield 30, 3) := by decide +kernel
theorem dX6_thingTold_76 : decode cX6_thingTold 76 = .ok (.getfield 78, 3) := by decide +kernel
theorem dX6_thingTold_79 : decode cX6_thingTold 79 = .ok (.iload_n 1, 1) := by decide +kernel
theorem dX6_thingTold_80 : decode cX6_thingTold 80 = .ok (.iaload, 1) := by decide +kernel
theorem dX6_thingTold_81 : decode cX6_thingTold 81 = .ok (.goto 4, 3) := by decide +kernel
theorem dX6_thingTold_84 : decode cX6_thingTold 84 = .ok (.iconst (-1), 1) := by decide +kernel
theorem dX6_thingTold_85 : decode cX6_thingTold 85 = .ok (.iastore, 1) := by decide +kernel
theorem dX6_thingTold_86 : decode cX6_thingTold 86 = .ok (.dup, 1) := by decide +kernel
theorem dX6_thingTold_87 : decode cX6_thingTold 87 = .ok (.iconst 3, 1) := by decide +kernel
theorem dX6_thingTold_88 : decode cX6_thingTold 88 = .ok (.iload_n 3, 1) := by decide +kernel
theorem dX6_thingTold_89 : decode cX6_thingTold 89 = .ok (.iconst (-1), 1) := by decide +kernel
theorem dX6_thingTold_90 : decode cX6_thingTold 90 = .ok (.if_icmp .eq 9, 3) := by decide +kernel
theorem dX6_thingTold_93 : decode cX6_thingTold 93 = .ok (.iload_n 3, 1) := by decide +kernel
theorem dX6_thingTold_94 : decode cX6_thingTold 94 = .ok (.iconst 2, 1) := by decide +kernel
theorem dX6_thingTold_95 : decode cX6_thingTold 95 = .ok (.irem, 1) := by decide +kernel
theorem dX6_thingTold_96 : decode cX6_thingTold 96 = .ok (.goto 4, 3) := by decide +kernel
theorem dX6_thingTold_99 : decode cX6_thingTold 99 = .ok (.iconst (-1), 1) := by decide +kernel
theorem dX6_thingTold_100 : decode cX6_thingTold 100 = .ok (.iastore, 1) := by decide +kernel
theorem dX6_thingTold_101 : decode cX6_thingTold 101 = .ok (.dup, 1) := by decide +kernel
theorem dX6_thingTold_102 : decode cX6_thingTold 102 = .ok (.iconst 4, 1) := by decide +kernel
theorem dX6_thingTold_103 : decode cX6_thingTold 103 = .ok (.iload 4, 2) := by decide +kernel
theorem dX6_thingTold_105 : decode cX6_thingTold 105 = .ok (.ifCond .eq 23, 3) := by decide +kernel
theorem dX6_thingTold_108 : decode cX6_thingTold 108 = .ok (.aload_n 0, 1) := by decide +kernel
theorem dX6_thingTold_109 : decode cX6_thingTold 109 = .ok (.getfield 30, 3) := by decide +kernel
theorem dX6_thingTold_112 : decode cX6_thingTold 112 = .ok (.getfield 81, 3) := by decide +kernel
theorem dX6_thingTold_115 : decode cX6_thingTold 115 = .ok (.iload_n 1, 1) := by decide +kernel
theorem dX6_thingTold_116 : decode cX6_thingTold 116 = .ok (.iaload, 1) := by decide +kernel
theorem dX6_thingTold_117 : decode cX6_thingTold 117 = .ok (.aload_n 0, 1) := by decide +kernel
theorem dX6_thingTold_118 : decode cX6_thingTold 118 = .ok (.getfield 30, 3) := by decide +kernel
theorem dX6_thingTold_121 : decode cX6_thingTold 121 = .ok (.getfield 84, 3) := by decide +kernel
theorem dX6_thingTold_124 : decode cX6_thingTold 124 = .ok (.isub, 1) := by decide +kernel
theorem dX6_thingTold_125 : decode cX6_thingTold 125 = .ok (.goto 4, 3) := by decide +kernel
theorem dX6_thingTold_128 : decode cX6_thingTold 128 = .ok (.iconst (-1), 1) := by decide +kernel
theorem dX6_thingTold_129 : decode cX6_thingTold 129 = .ok (.iastore, 1) := by decide +kernel
theorem dX6_thingTold_130 : decode cX6_thingTold 130 = .ok (.dup, 1) := by decide +kernel
theorem dX6_thingTold_131 : decode cX6_thingTold 131 = .ok (.iconst 5, 1) := by decide +kernel
theorem dX6_thingTold_132 : decode cX6_thingTold 132 = .ok (.aload_n 0, 1) := by decide +kernel
theorem dX6_thingTold_133 : decode cX6_thingTold 133 = .ok (.getfield 30, 3) := by decide +kernel
theorem dX6_thingTold_136 : decode cX6_thingTold 136 = .ok (.getfield 87, 3) := by decide +kernel
theorem dX6_thingTold_139 : decode cX6_thingTold 139 = .ok (.iload_n 1, 1) := by decide +kernel
theorem dX6_thingTold_140 : decode cX6_thingTold 140 = .ok (.iaload, 1) := by decide +kernel
theorem dX6_thingTold_141 : decode cX6_thingTold 141 = .ok (.iastore, 1) := by decide +kernel
theorem dX6_thingTold_142 : decode cX6_thingTold 142 = .ok (.dup, 1) := by decide +kernel
theorem dX6_thingTold_143 : decode cX6_thingTold 143 = .ok (.bipush 6, 2) := by decide +kernel
theorem dX6_thingTold_145 : decode cX6_thingTold 145 = .ok (.aload_n 0, 1) := by decide +kernel
theorem dX6_thingTold_146 : decode cX6_thingTold 146 = .ok (.getfield 30, 3) := by decide +kernel
theorem dX6_thingTold_149 : decode cX6_thingTold 149 = .ok (.getfield 90, 3) := by decide +kernel
theorem dX6_thingTold_152 : decode cX6_thingTold 152 = .ok (.iload_n 1, 1) := by decide +kernel
theorem dX6_thingTold_153 : decode cX6_thingTold 153 = .ok (.iaload, 1) := by decide +kernel
theorem dX6_thingTold_154 : decode cX6_thingTold 154 = .ok (.iastore, 1) := by decide +kernel
theorem dX6_thingTold_155 : decode cX6_thingTold 155 = .ok (.astore 5, 2) := by decide +kernel
theorem dX6_thingTold_157 : decode cX6_thingTold 157 = .ok (.aload 5, 2) := by decide +kernel
theorem dX6_thingTold_159 : decode cX6_thingTold 159 = .ok (.iload_n 2, 1) := by decide +kernel
theorem dX6_thingTold_160 : decode cX6_thingTold 160 = .ok (.iaload, 1) := by decide +kernel
theorem dX6_thingTold_161 : decode cX6_thingTold 161 = .ok (.ireturn, 1) := by decide +kernel
theorem dX6_thing_0 : decode cX6_thing 0 = .ok (.aload_n 0, 1) := by decide +kernel
theorem dX6_thing_1 : decode cX6_thing 1 = .ok (.iconst 0, 1) := by decide +kernel
theorem dX6_thing_2 : decode cX6_thing 2 = .ok (.putfield 37, 3) := by decide +kernel
theorem dX6_thing_5 : decode cX6_thing 5 = .ok (.aload_n 0, 1) := by decide +kernel
theorem dX6_thing_6 : decode cX6_thing 6 = .ok (.iload_n 1, 1) := by decide +kernel
theorem dX6_thing_7 : decode cX6_thing 7 = .ok (.invokevirtual 66, 3) := by decide +kernel
theorem dX6_thing_10 : decode cX6_thing 10 = .ok (.ifCond .eq 22, 3) := by decide +kernel
theorem dX6_thing_13 : decode cX6_thing 13 = .ok (.iload_n 2, 1) := by decide +kernel
theorem dX6_thing_14 : decode cX6_thing 14 = .ok (.iconst 0, 1) := by decide +kernel
theorem dX6_thing_15 : decode cX6_thing 15 = .ok (.bipush 6, 2) := by decide +kernel
theorem dX6_thing_17 : decode cX6_thing 17 = .ok (.invokestatic 44, 3) := by decide +kernel
theorem dX6_thing_20 : decode cX6_thing 20 = .ok (.ifCond .eq 12, 3) := by decide +kernel
theorem dX6_thing_23 : decode cX6_thing 23 = .ok (.aload_n 0, 1) := by decide +kernel
theorem dX6_thing_24 : decode cX6_thing 24 = .ok (.iload_n 1, 1) := by decide +kernel
theorem dX6_thing_25 : decode cX6_thing 25 = .ok (.iload_n 2, 1) := by decide +kernel
theorem dX6_thing_26 : decode cX6_thing 26 = .ok (.invokevirtual 93, 3) := by decide +kernel
theorem dX6_thing_29 : decode cX6_thing 29 = .ok (.goto 8, 3) := by decide +kernel
theorem dX6_thing_32 : decode cX6_thing 32 = .ok (.aload_n 0, 1) := by decide +kernel
theorem dX6_thing_33 : decode cX6_thing 33 = .ok (.iconst 1, 1) := by decide +kernel
theorem dX6_thing_34 : decode cX6_thing 34 = .ok (.invokevirtual 55, 3) := by decide +kernel
theorem dX6_thing_37 : decode cX6_thing 37 = .ok (.ireturn, 1) := by decide +kernel
theorem dX6_jugglerTold_0 : decode cX6_jugglerTold 0 = .ok (.iconst 0, 1) := by decide +kernel
theorem dX6_jugglerTold_1 : decode cX6_jugglerTold 1 = .ok (.istore_n 3, 1) := by decide +kernel
theorem dX6_jugglerTold_2 : decode cX6_jugglerTold 2 = .ok (.iconst 0, 1) := by decide +kernel
theorem dX6_jugglerTold_3 : decode cX6_jugglerTold 3 = .ok (.istore 4, 2) := by decide +kernel
theorem dX6_jugglerTold_5 : decode cX6_jugglerTold 5 = .ok (.iload 4, 2) := by decide +kernel
theorem dX6_jugglerTold_7 : decode cX6_jugglerTold 7 = .ok (.aload_n 0, 1) := by decide +kernel
theorem dX6_jugglerTold_8 : decode cX6_jugglerTold 8 = .ok (.getfield 48, 3) := by decide +kernel
theorem dX6_jugglerTold_11 : decode cX6_jugglerTold 11 = .ok (.if_icmp .ge 45, 3) := by decide +kernel
theorem dX6_jugglerTold_14 : decode cX6_jugglerTold 14 = .ok (.iload_n 3, 1) := by decide +kernel
theorem dX6_jugglerTold_15 : decode cX6_jugglerTold 15 = .ok (.aload_n 0, 1) := by decide +kernel
theorem dX6_jugglerTold_16 : decode cX6_jugglerTold 16 = .ok (.getfield 30, 3) := by decide +kernel
theorem dX6_jugglerTold_19 : decode cX6_jugglerTold 19 = .ok (.getfield 69, 3) := by decide +kernel
theorem dX6_jugglerTold_22 : decode cX6_jugglerTold 22 = .ok (.iload 4, 2) := by decide +kernel
theorem dX6_jugglerTold_24 : decode cX6_jugglerTold 24 = .ok (.iaload, 1) := by decide +kernel
theorem dX6_jugglerTold_25 : decode cX6_jugglerTold 25 = .ok (.iconst 2, 1) := by decide +kernel
theorem dX6_jugglerTold_26 : decode cX6_jugglerTold 26 = .ok (.if_icmp .ne 21, 3) := by decide +kernel
theorem dX6_jugglerTold_29 : decode cX6_jugglerTold 29 = .ok (.aload_n 0, 1) := by decide +kernel
theorem dX6_jugglerTold_30 : decode cX6_jugglerTold 30 = .ok (.getfield 30, 3) := by decide +kernel
theorem dX6_jugglerTold_33 : decode cX6_jugglerTold 33 = .ok (.getfield 78, 3) := by decide +kernel
theorem dX6_jugglerTold_36 : decode cX6_jugglerTold 36 = .ok (.iload 4, 2) := by decide +kernel
theorem dX6_jugglerTold_38 : decode cX6_jugglerTold 38 = .ok (.iaload, 1) := by decide +kernel
theorem dX6_jugglerTold_39 : decode cX6_jugglerTold 39 = .ok (.iload_n 1, 1) := by decide +kernel
theorem dX6_jugglerTold_40 : decode cX6_jugglerTold 40 = .ok (.if_icmp .ne 7, 3) := by decide +kernel
theorem dX6_jugglerTold_43 : decode cX6_jugglerTold 43 = .ok (.iconst 1, 1) := by decide +kernel
theorem dX6_jugglerTold_44 : decode cX6_jugglerTold 44 = .ok (.goto 4, 3) := by decide +kernel
theorem dX6_jugglerTold_47 : decode cX6_jugglerTold 47 = .ok (.iconst 0, 1) := by decide +kernel
theorem dX6_jugglerTold_48 : decode cX6_jugglerTold 48 = .ok (.iadd, 1) := by decide +kernel
theorem dX6_jugglerTold_49 : decode cX6_jugglerTold 49 = .ok (.istore_n 3, 1) := by decide +kernel
theorem dX6_jugglerTold_50 : decode cX6_jugglerTold 50 = .ok (.iinc 4 1, 3) := by decide +kernel
theorem dX6_jugglerTold_53 : decode cX6_jugglerTold 53 = .ok (.goto (-48), 3) := by decide +kernel
theorem dX6_jugglerTold_56 : decode cX6_jugglerTold 56 = .ok (.bipush 7, 2) := by decide +kernel
theorem dX6_jugglerTold_58 : decode cX6_jugglerTold 58 = .ok (.newarray .int, 2) := by decide +kernel
theorem dX6_jugglerTold_60 : decode cX6_jugglerTold 60 = .ok (.dup, 1) := by decide +kernel
theorem dX6_jugglerTold_61 : decode cX6_jugglerTold 61 = .ok (.iconst 0, 1) := by decide +kernel
theorem dX6_jugglerTold_62 : decode cX6_jugglerTold 62 = .ok (.aload_n 0, 1) := by decide +kernel
theorem dX6_jugglerTold_63 : decode cX6_jugglerTold 63 = .ok (.getfield 9, 3) := by decide +kernel
theorem dX6_jugglerTold_66 : decode cX6_jugglerTold 66 = .ok (.iload_n 1, 1) := by decide +kernel
theorem dX6_jugglerTold_67 : decode cX6_jugglerTold 67 = .ok (.iaload, 1) := by decide +kernel
theorem dX6_jugglerTold_68 : decode cX6_jugglerTold 68 = .ok (.iastore, 1) := by decide +kernel
theorem dX6_jugglerTold_69 : decode cX6_jugglerTold 69 = .ok (.dup, 1) := by decide +kernel
theorem dX6_jugglerTold_70 : decode cX6_jugglerTold 70 = .ok (.iconst 1, 1) := by decide +kernel
theorem dX6_jugglerTold_71 : decode cX6_jugglerTold 71 = .ok (.aload_n 0, 1) := by decide +kernel
theorem dX6_jugglerTold_72 : decode cX6_jugglerTold 72 = .ok (.getfield 30, 3) := by decide +kernel
theorem dX6_jugglerTold_75 : decode cX6_jugglerTold 75 = .ok (.getfield 97, 3) := by decide +kernel
theorem dX6_jugglerTold_78 : decode cX6_jugglerTold 78 = .ok (.iload_n 1, 1) := by decide +kernel
theorem dX6_jugglerTold_79 : decode cX6_jugglerTold 79 = .ok (.iaload, 1) := by decide +kernel
theorem dX6_jugglerTold_80 : decode cX6_jugglerTold 80 = .ok (.iastore, 1) := by decide +kernel
theorem dX6_jugglerTold_81 : decode cX6_jugglerTold 81 = .ok (.dup, 1) := by decide +kernel
theorem dX6_jugglerTold_82 : decode cX6_jugglerTold 82 = .ok (.iconst 2, 1) := by decide +kernel
theorem dX6_jugglerTold_83 : decode cX6_jugglerTold 83 = .ok (.aload_n 0, 1) := by decide +kernel
theorem dX6_jugglerTold_84 : decode cX6_jugglerTold 84 = .ok (.getfield 30, 3) := by decide +kernel
theorem dX6_jugglerTold_87 : decode cX6_jugglerTold 87 = .ok (.getfield 63, 3) := by decide +kernel
theorem dX6_jugglerTold_90 : decode cX6_jugglerTold 90 = .ok (.iconst 2, 1) := by decide +kernel
theorem dX6_jugglerTold_91 : decode cX6_jugglerTold 91 = .ok (.iload_n 1, 1) := by decide +kernel
theorem dX6_jugglerTold_92 : decode cX6_jugglerTold 92 = .ok (.imul, 1) := by decide +kernel
theorem dX6_jugglerTold_93 : decode cX6_jugglerTold 93 = .ok (.iaload, 1) := by decide +kernel
theorem dX6_jugglerTold_94 : decode cX6_jugglerTold 94 = .ok (.iconst 1, 1) := by decide +kernel
theorem dX6_jugglerTold_95 : decode cX6_jugglerTold 95 = .ok (.isub, 1) := by decide +kernel
theorem dX6_jugglerTold_96 : decode cX6_jugglerTold 96 = .ok (.iastore, 1) := by decide +kernel
theorem dX6_jugglerTold_97 : decode cX6_jugglerTold 97 = .ok (.dup, 1) := by decide +kernel
theorem dX6_jugglerTold_98 : decode cX6_jugglerTold 98 = .ok (.iconst 3, 1) := by decide +kernel
theorem dX6_jugglerTold_99 : decode cX6_jugglerTold 99 = .ok (.aload_n 0, 1) := by decide +kernel
theorem dX6_jugglerTold_100 : decode cX6_jugglerTold 100 = .ok (.getfield 30, 3) := by decide +kernel
theorem dX6_jugglerTold_103 : decode cX6_jugglerTold 103 = .ok (.getfield 63, 3) := by decide +kernel
theorem dX6_jugglerTold_106 : decode cX6_jugglerTold 106 = .ok (.iconst 2, 1) := by decide +kernel
theorem dX6_jugglerTold_107 : decode cX6_jugglerTold 107 = .ok (.iload_n 1, 1) := by decide +kernel
theorem dX6_jugglerTold_108 : decode cX6_jugglerTold 108 = .ok (.imul, 1) := by decide +kernel
theorem dX6_jugglerTold_109 : decode cX6_jugglerTold 109 = .ok (.iconst 1, 1) := by decide +kernel
theorem dX6_jugglerTold_110 : decode cX6_jugglerTold 110 = .ok (.iadd, 1) := by decide +kernel
theorem dX6_jugglerTold_111 : decode cX6_jugglerTold 111 = .ok (.iaload, 1) := by decide +kernel
theorem dX6_jugglerTold_112 : decode cX6_jugglerTold 112 = .ok (.iconst 1, 1) := by decide +kernel
theorem dX6_jugglerTold_113 : decode cX6_jugglerTold 113 = .ok (.isub, 1) := by decide +kernel
theorem dX6_jugglerTold_114 : decode cX6_jugglerTold 114 = .ok (.iastore, 1) := by decide +kernel
theorem dX6_jugglerTold_115 : decode cX6_jugglerTold 115 = .ok (.dup, 1) := by decide +kernel
theorem dX6_jugglerTold_116 : decode cX6_jugglerTold 116 = .ok (.iconst 4, 1) := by decide +kernel
theorem dX6_jugglerTold_117 : decode cX6_jugglerTold 117 = .ok (.aload_n 0, 1) := by decide +kernel
theorem dX6_jugglerTold_118 : decode cX6_jugglerTold 118 = .ok (.getfield 13, 3) := by decide +kernel
theorem dX6_jugglerTold_121 : decode cX6_jugglerTold 121 = .ok (.iload_n 1, 1) := by decide +kernel
theorem dX6_jugglerTold_122 : decode cX6_jugglerTold 122 = .ok (.iaload, 1) := by decide +kernel
theorem dX6_jugglerTold_123 : decode cX6_jugglerTold 123 = .ok (.iastore, 1) := by decide +kernel
theorem dX6_jugglerTold_124 : decode cX6_jugglerTold 124 = .ok (.dup, 1) := by decide +kernel
theorem dX6_jugglerTold_125 : decode cX6_jugglerTold 125 = .ok (.iconst 5, 1) := by decide +kernel
theorem dX6_jugglerTold_126 : decode cX6_jugglerTold 126 = .ok (.iload_n 3, 1) := by decide +kernel
theorem dX6_jugglerTold_127 : decode cX6_jugglerTold 127 = .ok (.iastore, 1) := by decide +kernel
theorem dX6_jugglerTold_128 : decode cX6_jugglerTold 128 = .ok (.dup, 1) := by decide +kernel
theorem dX6_jugglerTold_129 : decode cX6_jugglerTold 129 = .ok (.bipush 6, 2) := by decide +kernel
theorem dX6_jugglerTold_131 : decode cX6_jugglerTold 131 = .ok (.aload_n 0, 1) := by decide +kernel
theorem dX6_jugglerTold_132 : decode cX6_jugglerTold 132 = .ok (.getfield 30, 3) := by decide +kernel
theorem dX6_jugglerTold_135 : decode cX6_jugglerTold 135 = .ok (.getfield 100, 3) := by decide +kernel
theorem dX6_jugglerTold_138 : decode cX6_jugglerTold 138 = .ok (.iload_n 1, 1) := by decide +kernel
theorem dX6_jugglerTold_139 : decode cX6_jugglerTold 139 = .ok (.iaload, 1) := by decide +kernel
theorem dX6_jugglerTold_140 : decode cX6_jugglerTold 140 = .ok (.iastore, 1) := by decide +kernel
theorem dX6_jugglerTold_141 : decode cX6_jugglerTold 141 = .ok (.astore 4, 2) := by decide +kernel
theorem dX6_jugglerTold_143 : decode cX6_jugglerTold 143 = .ok (.aload 4, 2) := by decide +kernel
theorem dX6_jugglerTold_145 : decode cX6_jugglerTold 145 = .ok (.iload_n 2, 1) := by decide +kernel
theorem dX6_jugglerTold_146 : decode cX6_jugglerTold 146 = .ok (.iaload, 1) := by decide +kernel
theorem dX6_jugglerTold_147 : decode cX6_jugglerTold 147 = .ok (.ireturn, 1) := by decide +kernel
theorem dX6_juggler_0 : decode cX6_juggler 0 = .ok (.aload_n 0, 1) := by decide +kernel
theorem dX6_juggler_1 : decode cX6_juggler 1 = .ok (.iconst 0, 1) := by decide +kernel
theorem dX6_juggler_2 : decode cX6_juggler 2 = .ok (.putfield 37, 3) := by decide +kernel
theorem dX6_juggler_5 : decode cX6_juggler 5 = .ok (.aload_n 0, 1) := by decide +kernel
theorem dX6_juggler_6 : decode cX6_juggler 6 = .ok (.iload_n 1, 1) := by decide +kernel
theorem dX6_juggler_7 : decode cX6_juggler 7 = .ok (.invokevirtual 51, 3) := by decide +kernel
theorem dX6_juggler_10 : decode cX6_juggler 10 = .ok (.ifCond .eq 22, 3) := by decide +kernel
theorem dX6_juggler_13 : decode cX6_juggler 13 = .ok (.iload_n 2, 1) := by decide +kernel
theorem dX6_juggler_14 : decode cX6_juggler 14 = .ok (.iconst 0, 1) := by decide +kernel
theorem dX6_juggler_15 : decode cX6_juggler 15 = .ok (.bipush 6, 2) := by decide +kernel
theorem dX6_juggler_17 : decode cX6_juggler 17 = .ok (.invokestatic 44, 3) := by decide +kernel
theorem dX6_juggler_20 : decode cX6_juggler 20 = .ok (.ifCond .eq 12, 3) := by decide +kernel
theorem dX6_juggler_23 : decode cX6_juggler 23 = .ok (.aload_n 0, 1) := by decide +kernel
theorem dX6_juggler_24 : decode cX6_juggler 24 = .ok (.iload_n 1, 1) := by decide +kernel
theorem dX6_juggler_25 : decode cX6_juggler 25 = .ok (.iload_n 2, 1) := by decide +kernel
theorem dX6_juggler_26 : decode cX6_juggler 26 = .ok (.invokevirtual 103, 3) := by decide +kernel
theorem dX6_juggler_29 : decode cX6_juggler 29 = .ok (.goto 8, 3) := by decide +kernel
theorem dX6_juggler_32 : decode cX6_juggler 32 = .ok (.aload_n 0, 1) := by decide +kernel
theorem dX6_juggler_33 : decode cX6_juggler 33 = .ok (.iconst 1, 1) := by decide +kernel
theorem dX6_juggler_34 : decode cX6_juggler 34 = .ok (.invokevirtual 55, 3) := by decide +kernel
theorem dX6_juggler_37 : decode cX6_juggler 37 = .ok (.ireturn, 1) := by decide +kernel
theorem dX6_lasts_0 : decode cX6_lasts 0 = .ok (.aload_n 0, 1) := by decide +kernel
theorem dX6_lasts_1 : decode cX6_lasts 1 = .ok (.iconst 0, 1) := by decide +kernel
theorem dX6_lasts_2 : decode cX6_lasts 2 = .ok (.putfield 37, 3) := by decide +kernel
theorem dX6_lasts_5 : decode cX6_lasts 5 = .ok (.aload_n 0, 1) := by decide +kernel
theorem dX6_lasts_6 : decode cX6_lasts 6 = .ok (.iload_n 1, 1) := by decide +kernel
theorem dX6_lasts_7 : decode cX6_lasts 7 = .ok (.invokevirtual 51, 3) := by decide +kernel
theorem dX6_lasts_10 : decode cX6_lasts 10 = .ok (.ifCond .ne 17, 3) := by decide +kernel
theorem dX6_lasts_13 : decode cX6_lasts 13 = .ok (.aload_n 0, 1) := by decide +kernel
theorem dX6_lasts_14 : decode cX6_lasts 14 = .ok (.iconst 1, 1) := by decide +kernel
theorem dX6_lasts_15 : decode cX6_lasts 15 = .ok (.invokevirtual 55, 3) := by decide +kernel
theorem dX6_lasts_18 : decode cX6_lasts 18 = .ok (.ifCond .eq 7, 3) := by decide +kernel
theorem dX6_lasts_21 : decode cX6_lasts 21 = .ok (.iconst 1, 1) := by decide +kernel
theorem dX6_lasts_22 : decode cX6_lasts 22 = .ok (.goto 4, 3) := by decide +kernel
theorem dX6_lasts_25 : decode cX6_lasts 25 = .ok (.iconst 0, 1) := by decide +kernel
theorem dX6_lasts_26 : decode cX6_lasts 26 = .ok (.ireturn, 1) := by decide +kernel
theorem dX6_lasts_27 : decode cX6_lasts 27 = .ok (.iconst 0, 1) := by decide +kernel
theorem dX6_lasts_28 : decode cX6_lasts 28 = .ok (.istore_n 2, 1) := by decide +kernel
theorem dX6_lasts_29 : decode cX6_lasts 29 = .ok (.iconst 0, 1) := by decide +kernel
theorem dX6_lasts_30 : decode cX6_lasts 30 = .ok (.istore_n 3, 1) := by decide +kernel
theorem dX6_lasts_31 : decode cX6_lasts 31 = .ok (.iload_n 3, 1) := by decide +kernel
theorem dX6_lasts_32 : decode cX6_lasts 32 = .ok (.aload_n 0, 1) := by decide +kernel
theorem dX6_lasts_33 : decode cX6_lasts 33 = .ok (.getfield 13, 3) := by decide +kernel
theorem dX6_lasts_36 : decode cX6_lasts 36 = .ok (.iload_n 1, 1) := by decide +kernel
theorem dX6_lasts_37 : decode cX6_lasts 37 = .ok (.iaload, 1) := by decide +kernel
theorem dX6_lasts_38 : decode cX6_lasts 38 = .ok (.if_icmp .ge 34, 3) := by decide +kernel
theorem dX6_lasts_41 : decode cX6_lasts 41 = .ok (.iload_n 2, 1) := by decide +kernel
theorem dX6_lasts_42 : decode cX6_lasts 42 = .ok (.iconst 1, 1) := by decide +kernel
theorem dX6_lasts_43 : decode cX6_lasts 43 = .ok (.iload_n 3, 1) := by decide +kernel
theorem dX6_lasts_44 : decode cX6_lasts 44 = .ok (.aload_n 0, 1) := by decide +kernel
theorem dX6_lasts_45 : decode cX6_lasts 45 = .ok (.getfield 16, 3) := by decide +kernel
theorem dX6_lasts_48 : decode cX6_lasts 48 = .ok (.bipush 8, 2) := by decide +kernel
theorem dX6_lasts_50 : decode cX6_lasts 50 = .ok (.iload_n 1, 1) := by decide +kernel
theorem dX6_lasts_51 : decode cX6_lasts 51 = .ok (.imul, 1) := by decide +kernel
theorem dX6_lasts_52 : decode cX6_lasts 52 = .ok (.iload_n 3, 1) := by decide +kernel
theorem dX6_lasts_53 : decode cX6_lasts 53 = .ok (.iadd, 1) := by decide +kernel
theorem dX6_lasts_54 : decode cX6_lasts 54 = .ok (.iaload, 1) := by decide +kernel
theorem dX6_lasts_55 : decode cX6_lasts 55 = .ok (.iadd, 1) := by decide +kernel
theorem dX6_lasts_56 : decode cX6_lasts 56 = .ok (.aload_n 0, 1) := by decide +kernel
theorem dX6_lasts_57 : decode cX6_lasts 57 = .ok (.getfield 13, 3) := by decide +kernel
theorem dX6_lasts_60 : decode cX6_lasts 60 = .ok (.iload_n 1, 1) := by decide +kernel
theorem dX6_lasts_61 : decode cX6_lasts 61 = .ok (.iaload, 1) := by decide +kernel
theorem dX6_lasts_62 : decode cX6_lasts 62 = .ok (.irem, 1) := by decide +kernel
theorem dX6_lasts_63 : decode cX6_lasts 63 = .ok (.ishl, 1) := by decide +kernel
theorem dX6_lasts_64 : decode cX6_lasts 64 = .ok (.ior, 1) := by decide +kernel
theorem dX6_lasts_65 : decode cX6_lasts 65 = .ok (.istore_n 2, 1) := by decide +kernel
theorem dX6_lasts_66 : decode cX6_lasts 66 = .ok (.iinc 3 1, 3) := by decide +kernel
theorem dX6_lasts_69 : decode cX6_lasts 69 = .ok (.goto (-38), 3) := by decide +kernel
theorem dX6_lasts_72 : decode cX6_lasts 72 = .ok (.iload_n 2, 1) := by decide +kernel
theorem dX6_lasts_73 : decode cX6_lasts 73 = .ok (.iconst 1, 1) := by decide +kernel
theorem dX6_lasts_74 : decode cX6_lasts 74 = .ok (.aload_n 0, 1) := by decide +kernel
theorem dX6_lasts_75 : decode cX6_lasts 75 = .ok (.getfield 13, 3) := by decide +kernel
theorem dX6_lasts_78 : decode cX6_lasts 78 = .ok (.iload_n 1, 1) := by decide +kernel
theorem dX6_lasts_79 : decode cX6_lasts 79 = .ok (.iaload, 1) := by decide +kernel
theorem dX6_lasts_80 : decode cX6_lasts 80 = .ok (.ishl, 1) := by decide +kernel
theorem dX6_lasts_81 : decode cX6_lasts 81 = .ok (.iconst 1, 1) := by decide +kernel
theorem dX6_lasts_82 : decode cX6_lasts 82 = .ok (.isub, 1) := by decide +kernel
theorem dX6_lasts_83 : decode cX6_lasts 83 = .ok (.if_icmp .ne 7, 3) := by decide +kernel
theorem dX6_lasts_86 : decode cX6_lasts 86 = .ok (.iconst 1, 1) := by decide +kernel
theorem dX6_lasts_87 : decode cX6_lasts 87 = .ok (.goto 4, 3) := by decide +kernel
theorem dX6_lasts_90 : decode cX6_lasts 90 = .ok (.iconst 0, 1) := by decide +kernel
theorem dX6_lasts_91 : decode cX6_lasts 91 = .ok (.ireturn, 1) := by decide +kernel
theorem dX6_asks_0 : decode cX6_asks 0 = .ok (.aload_n 0, 1) := by decide +kernel
theorem dX6_asks_1 : decode cX6_asks 1 = .ok (.iconst 0, 1) := by decide +kernel
theorem dX6_asks_2 : decode cX6_asks 2 = .ok (.putfield 37, 3) := by decide +kernel
theorem dX6_asks_5 : decode cX6_asks 5 = .ok (.aload_n 0, 1) := by decide +kernel
theorem dX6_asks_6 : decode cX6_asks 6 = .ok (.iload_n 1, 1) := by decide +kernel
theorem dX6_asks_7 : decode cX6_asks 7 = .ok (.invokevirtual 51, 3) := by decide +kernel
theorem dX6_asks_10 : decode cX6_asks 10 = .ok (.ifCond .ne 9, 3) := by decide +kernel
theorem dX6_asks_13 : decode cX6_asks 13 = .ok (.aload_n 0, 1) := by decide +kernel
theorem dX6_asks_14 : decode cX6_asks 14 = .ok (.iconst 1, 1) := by decide +kernel
theorem dX6_asks_15 : decode cX6_asks 15 = .ok (.invokevirtual 55, 3) := by decide +kernel
theorem dX6_asks_18 : decode cX6_asks 18 = .ok (.ireturn, 1) := by decide +kernel
theorem dX6_asks_19 : decode cX6_asks 19 = .ok (.iconst 0, 1) := by decide +kernel
theorem dX6_asks_20 : decode cX6_asks 20 = .ok (.istore_n 2, 1) := by decide +kernel
theorem dX6_asks_21 : decode cX6_asks 21 = .ok (.iconst 0, 1) := by decide +kernel
theorem dX6_asks_22 : decode cX6_asks 22 = .ok (.istore_n 3, 1) := by decide +kernel
theorem dX6_asks_23 : decode cX6_asks 23 = .ok (.iload_n 3, 1) := by decide +kernel
theorem dX6_asks_24 : decode cX6_asks 24 = .ok (.aload_n 0, 1) := by decide +kernel
theorem dX6_asks_25 : decode cX6_asks 25 = .ok (.getfield 13, 3) := by decide +kernel
theorem dX6_asks_28 : decode cX6_asks 28 = .ok (.iload_n 1, 1) := by decide +kernel
theorem dX6_asks_29 : decode cX6_asks 29 = .ok (.iaload, 1) := by decide +kernel
theorem dX6_asks_30 : decode cX6_asks 30 = .ok (.if_icmp .ge 23, 3) := by decide +kernel
theorem dX6_asks_33 : decode cX6_asks 33 = .ok (.iload_n 2, 1) := by decide +kernel
theorem dX6_asks_34 : decode cX6_asks 34 = .ok (.aload_n 0, 1) := by decide +kernel
theorem dX6_asks_35 : decode cX6_asks 35 = .ok (.getfield 16, 3) := by decide +kernel
theorem dX6_asks_38 : decode cX6_asks 38 = .ok (.bipush 8, 2) := by decide +kernel
theorem dX6_asks_40 : decode cX6_asks 40 = .ok (.iload_n 1, 1) := by decide +kernel
theorem dX6_asks_41 : decode cX6_asks 41 = .ok (.imul, 1) := by decide +kernel
theorem dX6_asks_42 : decode cX6_asks 42 = .ok (.iload_n 3, 1) := by decide +kernel
theorem dX6_asks_43 : decode cX6_asks 43 = .ok (.iadd, 1) := by decide +kernel
theorem dX6_asks_44 : decode cX6_asks 44 = .ok (.iaload, 1) := by decide +kernel
theorem dX6_asks_45 : decode cX6_asks 45 = .ok (.iadd, 1) := by decide +kernel
theorem dX6_asks_46 : decode cX6_asks 46 = .ok (.istore_n 2, 1) := by decide +kernel
theorem dX6_asks_47 : decode cX6_asks 47 = .ok (.iinc 3 1, 3) := by decide +kernel
theorem dX6_asks_50 : decode cX6_asks 50 = .ok (.goto (-27), 3) := by decide +kernel
theorem dX6_asks_53 : decode cX6_asks 53 = .ok (.iload_n 2, 1) := by decide +kernel
theorem dX6_asks_54 : decode cX6_asks 54 = .ok (.aload_n 0, 1) := by decide +kernel
theorem dX6_asks_55 : decode cX6_asks 55 = .ok (.getfield 13, 3) := by decide +kernel
theorem dX6_asks_58 : decode cX6_asks 58 = .ok (.iload_n 1, 1) := by decide +kernel
theorem dX6_asks_59 : decode cX6_asks 59 = .ok (.iaload, 1) := by decide +kernel
theorem dX6_asks_60 : decode cX6_asks 60 = .ok (.irem, 1) := by decide +kernel
theorem dX6_asks_61 : decode cX6_asks 61 = .ok (.ifCond .ne 14, 3) := by decide +kernel
theorem dX6_asks_64 : decode cX6_asks 64 = .ok (.iload_n 2, 1) := by decide +kernel
theorem dX6_asks_65 : decode cX6_asks 65 = .ok (.aload_n 0, 1) := by decide +kernel
theorem dX6_asks_66 : decode cX6_asks 66 = .ok (.getfield 13, 3) := by decide +kernel
theorem dX6_asks_69 : decode cX6_asks 69 = .ok (.iload_n 1, 1) := by decide +kernel
theorem dX6_asks_70 : decode cX6_asks 70 = .ok (.iaload, 1) := by decide +kernel
theorem dX6_asks_71 : decode cX6_asks 71 = .ok (.idiv, 1) := by decide +kernel
theorem dX6_asks_72 : decode cX6_asks 72 = .ok (.goto 4, 3) := by decide +kernel
theorem dX6_asks_75 : decode cX6_asks 75 = .ok (.iconst (-1), 1) := by decide +kernel
theorem dX6_asks_76 : decode cX6_asks 76 = .ok (.ireturn, 1) := by decide +kernel
theorem dX6_shortest_0 : decode cX6_shortest 0 = .ok (.aload_n 0, 1) := by decide +kernel
theorem dX6_shortest_1 : decode cX6_shortest 1 = .ok (.iconst 0, 1) := by decide +kernel
theorem dX6_shortest_2 : decode cX6_shortest 2 = .ok (.putfield 37, 3) := by decide +kernel
theorem dX6_shortest_5 : decode cX6_shortest 5 = .ok (.aload_n 0, 1) := by decide +kernel
theorem dX6_shortest_6 : decode cX6_shortest 6 = .ok (.iload_n 1, 1) := by decide +kernel
theorem dX6_shortest_7 : decode cX6_shortest 7 = .ok (.invokevirtual 51, 3) := by decide +kernel
theorem dX6_shortest_10 : decode cX6_shortest 10 = .ok (.ifCond .ne 9, 3) := by decide +kernel
theorem dX6_shortest_13 : decode cX6_shortest 13 = .ok (.aload_n 0, 1) := by decide +kernel
theorem dX6_shortest_14 : decode cX6_shortest 14 = .ok (.iconst 1, 1) := by decide +kernel
theorem dX6_shortest_15 : decode cX6_shortest 15 = .ok (.invokevirtual 55, 3) := by decide +kernel
theorem dX6_shortest_18 : decode cX6_shortest 18 = .ok (.ireturn, 1) := by decide +kernel
theorem dX6_shortest_19 : decode cX6_shortest 19 = .ok (.iconst 1, 1) := by decide +kernel
theorem dX6_shortest_20 : decode cX6_shortest 20 = .ok (.istore_n 2, 1) := by decide +kernel
theorem dX6_shortest_21 : decode cX6_shortest 21 = .ok (.aload_n 0, 1) := by decide +kernel
theorem dX6_shortest_22 : decode cX6_shortest 22 = .ok (.iload_n 1, 1) := by decide +kernel
theorem dX6_shortest_23 : decode cX6_shortest 23 = .ok (.iload_n 2, 1) := by decide +kernel
theorem dX6_shortest_24 : decode cX6_shortest 24 = .ok (.invokevirtual 106, 3) := by decide +kernel
theorem dX6_shortest_27 : decode cX6_shortest 27 = .ok (.ifCond .ne 9, 3) := by decide +kernel
theorem dX6_shortest_30 : decode cX6_shortest 30 = .ok (.iinc 2 1, 3) := by decide +kernel
theorem dX6_shortest_33 : decode cX6_shortest 33 = .ok (.goto (-12), 3) := by decide +kernel
theorem dX6_shortest_36 : decode cX6_shortest 36 = .ok (.iload_n 2, 1) := by decide +kernel
theorem dX6_shortest_37 : decode cX6_shortest 37 = .ok (.ireturn, 1) := by decide +kernel
theorem dX6_isWritten_0 : decode cX6_isWritten 0 = .ok (.aload_n 0, 1) := by decide +kernel
theorem dX6_isWritten_1 : decode cX6_isWritten 1 = .ok (.getfield 13, 3) := by decide +kernel
theorem dX6_isWritten_4 : decode cX6_isWritten 4 = .ok (.iload_n 1, 1) := by decide +kernel
theorem dX6_isWritten_5 : decode cX6_isWritten 5 = .ok (.iaload, 1) := by decide +kernel
theorem dX6_isWritten_6 : decode cX6_isWritten 6 = .ok (.iload_n 2, 1) := by decide +kernel
theorem dX6_isWritten_7 : decode cX6_isWritten 7 = .ok (.irem, 1) := by decide +kernel
theorem dX6_isWritten_8 : decode cX6_isWritten 8 = .ok (.ifCond .le 5, 3) := by decide +kernel
theorem dX6_isWritten_11 : decode cX6_isWritten 11 = .ok (.iconst 0, 1) := by decide +kernel
theorem dX6_isWritten_12 : decode cX6_isWritten 12 = .ok (.ireturn, 1) := by decide +kernel
theorem dX6_isWritten_13 : decode cX6_isWritten 13 = .ok (.bipush 8, 2) := by decide +kernel
theorem dX6_isWritten_15 : decode cX6_isWritten 15 = .ok (.iload_n 1, 1) := by decide +kernel
theorem dX6_isWritten_16 : decode cX6_isWritten 16 = .ok (.imul, 1) := by decide +kernel
theorem dX6_isWritten_17 : decode cX6_isWritten 17 = .ok (.istore_n 3, 1) := by decide +kernel
theorem dX6_isWritten_18 : decode cX6_isWritten 18 = .ok (.iload_n 2, 1) := by decide +kernel
theorem dX6_isWritten_19 : decode cX6_isWritten 19 = .ok (.istore 4, 2) := by decide +kernel
theorem dX6_isWritten_21 : decode cX6_isWritten 21 = .ok (.iload 4, 2) := by decide +kernel
theorem dX6_isWritten_23 : decode cX6_isWritten 23 = .ok (.aload_n 0, 1) := by decide +kernel
theorem dX6_isWritten_24 : decode cX6_isWritten 24 = .ok (.getfield 13, 3) := by decide +kernel
theorem dX6_isWritten_27 : decode cX6_isWritten 27 = .ok (.iload_n 1, 1) := by decide +kernel
theorem dX6_isWritten_28 : decode cX6_isWritten 28 = .ok (.iaload, 1) := by decide +kernel
theorem dX6_isWritten_29 : decode cX6_isWritten 29 = .ok (.if_icmp .ge 57, 3) := by decide +kernel
theorem dX6_isWritten_32 : decode cX6_isWritten 32 = .ok (.aload_n 0, 1) := by decide +kernel
theorem dX6_isWritten_33 : decode cX6_isWritten 33 = .ok (.getfield 16, 3) := by decide +kernel
theorem dX6_isWritten_36 : decode cX6_isWritten 36 = .ok (.iload_n 3, 1) := by decide +kernel
theorem dX6_isWritten_37 : decode cX6_isWritten 37 = .ok (.iload 4, 2) := by decide +kernel
theorem dX6_isWritten_39 : decode cX6_isWritten 39 = .ok (.iadd, 1) := by decide +kernel
theorem dX6_isWritten_40 : decode cX6_isWritten 40 = .ok (.iaload, 1) := by decide +kernel
theorem dX6_isWritten_41 : decode cX6_isWritten 41 = .ok (.aload_n 0, 1) := by decide +kernel
theorem dX6_isWritten_42 : decode cX6_isWritten 42 = .ok (.getfield 16, 3) := by decide +kernel
theorem dX6_isWritten_45 : decode cX6_isWritten 45 = .ok (.iload_n 3, 1) := by decide +kernel
theorem dX6_isWritten_46 : decode cX6_isWritten 46 = .ok (.iload 4, 2) := by decide +kernel
theorem dX6_isWritten_48 : decode cX6_isWritten 48 = .ok (.iload_n 2, 1) := by decide +kernel
theorem dX6_isWritten_49 : decode cX6_isWritten 49 = .ok (.irem, 1) := by decide +kernel
theorem dX6_isWritten_50 : decode cX6_isWritten 50 = .ok (.iadd, 1) := by decide +kernel
theorem dX6_isWritten_51 : decode cX6_isWritten 51 = .ok (.iaload, 1) := by decide +kernel
theorem dX6_isWritten_52 : decode cX6_isWritten 52 = .ok (.if_icmp .ne 26, 3) := by decide +kernel
theorem dX6_isWritten_55 : decode cX6_isWritten 55 = .ok (.aload_n 0, 1) := by decide +kernel
theorem dX6_isWritten_56 : decode cX6_isWritten 56 = .ok (.getfield 19, 3) := by decide +kernel
theorem dX6_isWritten_59 : decode cX6_isWritten 59 = .ok (.iload_n 3, 1) := by decide +kernel
theorem dX6_isWritten_60 : decode cX6_isWritten 60 = .ok (.iload 4, 2) := by decide +kernel
theorem dX6_isWritten_62 : decode cX6_isWritten 62 = .ok (.iadd, 1) := by decide +kernel
theorem dX6_isWritten_63 : decode cX6_isWritten 63 = .ok (.iaload, 1) := by decide +kernel
theorem dX6_isWritten_64 : decode cX6_isWritten 64 = .ok (.aload_n 0, 1) := by decide +kernel
theorem dX6_isWritten_65 : decode cX6_isWritten 65 = .ok (.getfield 19, 3) := by decide +kernel
theorem dX6_isWritten_68 : decode cX6_isWritten 68 = .ok (.iload_n 3, 1) := by decide +kernel
theorem dX6_isWritten_69 : decode cX6_isWritten 69 = .ok (.iload 4, 2) := by decide +kernel
theorem dX6_isWritten_71 : decode cX6_isWritten 71 = .ok (.iload_n 2, 1) := by decide +kernel
theorem dX6_isWritten_72 : decode cX6_isWritten 72 = .ok (.irem, 1) := by decide +kernel
theorem dX6_isWritten_73 : decode cX6_isWritten 73 = .ok (.iadd, 1) := by decide +kernel
theorem dX6_isWritten_74 : decode cX6_isWritten 74 = .ok (.iaload, 1) := by decide +kernel
theorem dX6_isWritten_75 : decode cX6_isWritten 75 = .ok (.if_icmp .eq 5, 3) := by decide +kernel
theorem dX6_isWritten_78 : decode cX6_isWritten 78 = .ok (.iconst 0, 1) := by decide +kernel
theorem dX6_isWritten_79 : decode cX6_isWritten 79 = .ok (.ireturn, 1) := by decide +kernel
theorem dX6_isWritten_80 : decode cX6_isWritten 80 = .ok (.iinc 4 1, 3) := by decide +kernel
theorem dX6_isWritten_83 : decode cX6_isWritten 83 = .ok (.goto (-62), 3) := by decide +kernel
theorem dX6_isWritten_86 : decode cX6_isWritten 86 = .ok (.iconst 1, 1) := by decide +kernel
theorem dX6_isWritten_87 : decode cX6_isWritten 87 = .ok (.ireturn, 1) := by decide +kernel
theorem dX6_go_0 : decode cX6_go 0 = .ok (.aload_n 0, 1) := by decide +kernel
theorem dX6_go_1 : decode cX6_go 1 = .ok (.iconst 0, 1) := by decide +kernel
theorem dX6_go_2 : decode cX6_go 2 = .ok (.putfield 37, 3) := by decide +kernel
theorem dX6_go_5 : decode cX6_go 5 = .ok (.iload_n 1, 1) := by decide +kernel
theorem dX6_go_6 : decode cX6_go 6 = .ok (.iconst 1, 1) := by decide +kernel
theorem dX6_go_7 : decode cX6_go 7 = .ok (.sipush 200, 3) := by decide +kernel
theorem dX6_go_10 : decode cX6_go 10 = .ok (.invokestatic 44, 3) := by decide +kernel
theorem dX6_go_13 : decode cX6_go 13 = .ok (.ifCond .ne 9, 3) := by decide +kernel
theorem dX6_go_16 : decode cX6_go 16 = .ok (.aload_n 0, 1) := by decide +kernel
theorem dX6_go_17 : decode cX6_go 17 = .ok (.iconst 1, 1) := by decide +kernel
theorem dX6_go_18 : decode cX6_go 18 = .ok (.invokevirtual 55, 3) := by decide +kernel
theorem dX6_go_21 : decode cX6_go 21 = .ok (.ireturn, 1) := by decide +kernel
theorem dX6_go_22 : decode cX6_go 22 = .ok (.aload_n 0, 1) := by decide +kernel
theorem dX6_go_23 : decode cX6_go 23 = .ok (.getfield 30, 3) := by decide +kernel
theorem dX6_go_26 : decode cX6_go 26 = .ok (.aload_n 0, 1) := by decide +kernel
theorem dX6_go_27 : decode cX6_go 27 = .ok (.getfield 30, 3) := by decide +kernel
theorem dX6_go_30 : decode cX6_go 30 = .ok (.getfield 90, 3) := by decide +kernel
theorem dX6_go_33 : decode cX6_go 33 = .ok (.invokevirtual 109, 3) := by decide +kernel
theorem dX6_go_36 : decode cX6_go 36 = .ok (.istore_n 2, 1) := by decide +kernel
theorem dX6_go_37 : decode cX6_go 37 = .ok (.iconst 0, 1) := by decide +kernel
theorem dX6_go_38 : decode cX6_go 38 = .ok (.istore_n 3, 1) := by decide +kernel
theorem dX6_go_39 : decode cX6_go 39 = .ok (.iload_n 3, 1) := by decide +kernel
theorem dX6_go_40 : decode cX6_go 40 = .ok (.iload_n 1, 1) := by decide +kernel
theorem dX6_go_41 : decode cX6_go 41 = .ok (.if_icmp .ge 16, 3) := by decide +kernel
theorem dX6_go_44 : decode cX6_go 44 = .ok (.aload_n 0, 1) := by decide +kernel
theorem dX6_go_45 : decode cX6_go 45 = .ok (.getfield 30, 3) := by decide +kernel
theorem dX6_go_48 : decode cX6_go 48 = .ok (.invokevirtual 113, 3) := by decide +kernel
theorem dX6_go_51 : decode cX6_go 51 = .ok (.iinc 3 1, 3) := by decide +kernel
theorem dX6_go_54 : decode cX6_go 54 = .ok (.goto (-15), 3) := by decide +kernel
theorem dX6_go_57 : decode cX6_go 57 = .ok (.aload_n 0, 1) := by decide +kernel
theorem dX6_go_58 : decode cX6_go 58 = .ok (.getfield 30, 3) := by decide +kernel
theorem dX6_go_61 : decode cX6_go 61 = .ok (.aload_n 0, 1) := by decide +kernel
theorem dX6_go_62 : decode cX6_go 62 = .ok (.getfield 30, 3) := by decide +kernel
theorem dX6_go_65 : decode cX6_go 65 = .ok (.getfield 90, 3) := by decide +kernel
theorem dX6_go_68 : decode cX6_go 68 = .ok (.invokevirtual 109, 3) := by decide +kernel
theorem dX6_go_71 : decode cX6_go 71 = .ok (.iload_n 2, 1) := by decide +kernel
theorem dX6_go_72 : decode cX6_go 72 = .ok (.isub, 1) := by decide +kernel
theorem dX6_go_73 : decode cX6_go 73 = .ok (.ireturn, 1) := by decide +kernel
theorem dX6_counted_0 : decode cX6_counted 0 = .ok (.bipush 9, 2) := by decide +kernel
theorem dX6_counted_2 : decode cX6_counted 2 = .ok (.newarray .int, 2) := by decide +kernel
theorem dX6_counted_4 : decode cX6_counted 4 = .ok (.dup, 1) := by decide +kernel
theorem dX6_counted_5 : decode cX6_counted 5 = .ok (.iconst 0, 1) := by decide +kernel
theorem dX6_counted_6 : decode cX6_counted 6 = .ok (.aload_n 0, 1) := by decide +kernel
theorem dX6_counted_7 : decode cX6_counted 7 = .ok (.getfield 30, 3) := by decide +kernel
theorem dX6_counted_10 : decode cX6_counted 10 = .ok (.getfield 84, 3) := by decide +kernel
theorem dX6_counted_13 : decode cX6_counted 13 = .ok (.iastore, 1) := by decide +kernel
theorem dX6_counted_14 : decode cX6_counted 14 = .ok (.dup, 1) := by decide +kernel
theorem dX6_counted_15 : decode cX6_counted 15 = .ok (.iconst 1, 1) := by decide +kernel
theorem dX6_counted_16 : decode cX6_counted 16 = .ok (.aload_n 0, 1) := by decide +kernel
theorem dX6_counted_17 : decode cX6_counted 17 = .ok (.getfield 41, 3) := by decide +kernel
theorem dX6_counted_20 : decode cX6_counted 20 = .ok (.iastore, 1) := by decide +kernel
theorem dX6_counted_21 : decode cX6_counted 21 = .ok (.dup, 1) := by decide +kernel
theorem dX6_counted_22 : decode cX6_counted 22 = .ok (.iconst 2, 1) := by decide +kernel
theorem dX6_counted_23 : decode cX6_counted 23 = .ok (.aload_n 0, 1) := by decide +kernel
theorem dX6_counted_24 : decode cX6_counted 24 = .ok (.getfield 48, 3) := by decide +kernel
theorem dX6_counted_27 : decode cX6_counted 27 = .ok (.iastore, 1) := by decide +kernel
theorem dX6_counted_28 : decode cX6_counted 28 = .ok (.dup, 1) := by decide +kernel
theorem dX6_counted_29 : decode cX6_counted 29 = .ok (.iconst 3, 1) := by decide +kernel
theorem dX6_counted_30 : decode cX6_counted 30 = .ok (.aload_n 0, 1) := by decide +kernel
theorem dX6_counted_31 : decode cX6_counted 31 = .ok (.getfield 30, 3) := by decide +kernel
theorem dX6_counted_34 : decode cX6_counted 34 = .ok (.iconst 1, 1) := by decide +kernel
theorem dX6_counted_35 : decode cX6_counted 35 = .ok (.invokevirtual 116, 3) := by decide +kernel
theorem dX6_counted_38 : decode cX6_counted 38 = .ok (.iastore, 1) := by decide +kernel
theorem dX6_counted_39 : decode cX6_counted 39 = .ok (.dup, 1) := by decide +kernel
theorem dX6_counted_40 : decode cX6_counted 40 = .ok (.iconst 4, 1) := by decide +kernel
theorem dX6_counted_41 : decode cX6_counted 41 = .ok (.aload_n 0, 1) := by decide +kernel
theorem dX6_counted_42 : decode cX6_counted 42 = .ok (.getfield 30, 3) := by decide +kernel
theorem dX6_counted_45 : decode cX6_counted 45 = .ok (.iconst 2, 1) := by decide +kernel
theorem dX6_counted_46 : decode cX6_counted 46 = .ok (.invokevirtual 116, 3) := by decide +kernel
theorem dX6_counted_49 : decode cX6_counted 49 = .ok (.iastore, 1) := by decide +kernel
theorem dX6_counted_50 : decode cX6_counted 50 = .ok (.dup, 1) := by decide +kernel
theorem dX6_counted_51 : decode cX6_counted 51 = .ok (.iconst 5, 1) := by decide +kernel
theorem dX6_counted_52 : decode cX6_counted 52 = .ok (.aload_n 0, 1) := by decide +kernel
theorem dX6_counted_53 : decode cX6_counted 53 = .ok (.getfield 30, 3) := by decide +kernel
theorem dX6_counted_56 : decode cX6_counted 56 = .ok (.iconst 0, 1) := by decide +kernel
theorem dX6_counted_57 : decode cX6_counted 57 = .ok (.invokevirtual 116, 3) := by decide +kernel
theorem dX6_counted_60 : decode cX6_counted 60 = .ok (.iastore, 1) := by decide +kernel
theorem dX6_counted_61 : decode cX6_counted 61 = .ok (.dup, 1) := by decide +kernel
theorem dX6_counted_62 : decode cX6_counted 62 = .ok (.bipush 6, 2) := by decide +kernel
theorem dX6_counted_64 : decode cX6_counted 64 = .ok (.aload_n 0, 1) := by decide +kernel
theorem dX6_counted_65 : decode cX6_counted 65 = .ok (.getfield 30, 3) := by decide +kernel
theorem dX6_counted_68 : decode cX6_counted 68 = .ok (.iconst 3, 1) := by decide +kernel
theorem dX6_counted_69 : decode cX6_counted 69 = .ok (.invokevirtual 116, 3) := by decide +kernel
theorem dX6_counted_72 : decode cX6_counted 72 = .ok (.iastore, 1) := by decide +kernel
theorem dX6_counted_73 : decode cX6_counted 73 = .ok (.dup, 1) := by decide +kernel
theorem dX6_counted_74 : decode cX6_counted 74 = .ok (.bipush 7, 2) := by decide +kernel
theorem dX6_counted_76 : decode cX6_counted 76 = .ok (.aload_n 0, 1) := by decide +kernel
theorem dX6_counted_77 : decode cX6_counted 77 = .ok (.getfield 30, 3) := by decide +kernel
theorem dX6_counted_80 : decode cX6_counted 80 = .ok (.aload_n 0, 1) := by decide +kernel
theorem dX6_counted_81 : decode cX6_counted 81 = .ok (.getfield 30, 3) := by decide +kernel
theorem dX6_counted_84 : decode cX6_counted 84 = .ok (.getfield 90, 3) := by decide +kernel
theorem dX6_counted_87 : decode cX6_counted 87 = .ok (.invokevirtual 109, 3) := by decide +kernel
theorem dX6_counted_90 : decode cX6_counted 90 = .ok (.iastore, 1) := by decide +kernel
theorem dX6_counted_91 : decode cX6_counted 91 = .ok (.dup, 1) := by decide +kernel
theorem dX6_counted_92 : decode cX6_counted 92 = .ok (.bipush 8, 2) := by decide +kernel
theorem dX6_counted_94 : decode cX6_counted 94 = .ok (.aload_n 0, 1) := by decide +kernel
theorem dX6_counted_95 : decode cX6_counted 95 = .ok (.getfield 30, 3) := by decide +kernel
theorem dX6_counted_98 : decode cX6_counted 98 = .ok (.aload_n 0, 1) := by decide +kernel
theorem dX6_counted_99 : decode cX6_counted 99 = .ok (.getfield 30, 3) := by decide +kernel
theorem dX6_counted_102 : decode cX6_counted 102 = .ok (.getfield 87, 3) := by decide +kernel
theorem dX6_counted_105 : decode cX6_counted 105 = .ok (.invokevirtual 109, 3) := by decide +kernel
theorem dX6_counted_108 : decode cX6_counted 108 = .ok (.iastore, 1) := by decide +kernel
theorem dX6_counted_109 : decode cX6_counted 109 = .ok (.astore_n 2, 1) := by decide +kernel
theorem dX6_counted_110 : decode cX6_counted 110 = .ok (.aload_n 2, 1) := by decide +kernel
theorem dX6_counted_111 : decode cX6_counted 111 = .ok (.iload_n 1, 1) := by decide +kernel
theorem dX6_counted_112 : decode cX6_counted 112 = .ok (.iaload, 1) := by decide +kernel
theorem dX6_counted_113 : decode cX6_counted 113 = .ok (.ireturn, 1) := by decide +kernel
theorem dX6_count_0 : decode cX6_count 0 = .ok (.aload_n 0, 1) := by decide +kernel
theorem dX6_count_1 : decode cX6_count 1 = .ok (.iconst 0, 1) := by decide +kernel
theorem dX6_count_2 : decode cX6_count 2 = .ok (.putfield 37, 3) := by decide +kernel
theorem dX6_count_5 : decode cX6_count 5 = .ok (.iload_n 1, 1) := by decide +kernel
theorem dX6_count_6 : decode cX6_count 6 = .ok (.iconst 0, 1) := by decide +kernel
theorem dX6_count_7 : decode cX6_count 7 = .ok (.bipush 8, 2) := by decide +kernel
theorem dX6_count_9 : decode cX6_count 9 = .ok (.invokestatic 44, 3) := by decide +kernel
theorem dX6_count_12 : decode cX6_count 12 = .ok (.ifCond .eq 11, 3) := by decide +kernel
theorem dX6_count_15 : decode cX6_count 15 = .ok (.aload_n 0, 1) := by decide +kernel
theorem dX6_count_16 : decode cX6_count 16 = .ok (.iload_n 1, 1) := by decide +kernel
theorem dX6_count_17 : decode cX6_count 17 = .ok (.invokevirtual 119, 3) := by decide +kernel
theorem dX6_count_20 : decode cX6_count 20 = .ok (.goto 8, 3) := by decide +kernel
theorem dX6_count_23 : decode cX6_count 23 = .ok (.aload_n 0, 1) := by decide +kernel
theorem dX6_count_24 : decode cX6_count 24 = .ok (.iconst 1, 1) := by decide +kernel
theorem dX6_count_25 : decode cX6_count 25 = .ok (.invokevirtual 55, 3) := by decide +kernel
theorem dX6_count_28 : decode cX6_count 28 = .ok (.ireturn, 1) := by decide +kernel
theorem dX6_falls_0 : decode cX6_falls 0 = .ok (.aload_n 0, 1) := by decide +kernel
theorem dX6_falls_1 : decode cX6_falls 1 = .ok (.iconst 0, 1) := by decide +kernel
theorem dX6_falls_2 : decode cX6_falls 2 = .ok (.putfield 37, 3) := by decide +kernel
theorem dX6_falls_5 : decode cX6_falls 5 = .ok (.aload_n 0, 1) := by decide +kernel
theorem dX6_falls_6 : decode cX6_falls 6 = .ok (.getfield 30, 3) := by decide +kernel
theorem dX6_falls_9 : decode cX6_falls 9 = .ok (.aload_n 0, 1) := by decide +kernel
theorem dX6_falls_10 : decode cX6_falls 10 = .ok (.getfield 30, 3) := by decide +kernel
theorem dX6_falls_13 : decode cX6_falls 13 = .ok (.getfield 90, 3) := by decide +kernel
theorem dX6_falls_16 : decode cX6_falls 16 = .ok (.invokevirtual 109, 3) := by decide +kernel
theorem dX6_falls_19 : decode cX6_falls 19 = .ok (.istore_n 1, 1) := by decide +kernel
theorem dX6_falls_20 : decode cX6_falls 20 = .ok (.aload_n 0, 1) := by decide +kernel
theorem dX6_falls_21 : decode cX6_falls 21 = .ok (.getfield 34, 3) := by decide +kernel
theorem dX6_falls_24 : decode cX6_falls 24 = .ok (.aload_n 0, 1) := by decide +kernel
theorem dX6_falls_25 : decode cX6_falls 25 = .ok (.getfield 30, 3) := by decide +kernel
theorem dX6_falls_28 : decode cX6_falls 28 = .ok (.invokevirtual 122, 3) := by decide +kernel
theorem dX6_falls_31 : decode cX6_falls 31 = .ok (.iconst 1, 1) := by decide +kernel
theorem dX6_falls_32 : decode cX6_falls 32 = .ok (.istore_n 2, 1) := by decide +kernel
theorem dX6_falls_33 : decode cX6_falls 33 = .ok (.iload_n 2, 1) := by decide +kernel
theorem dX6_falls_34 : decode cX6_falls 34 = .ok (.sipush 200, 3) := by decide +kernel
theorem dX6_falls_37 : decode cX6_falls 37 = .ok (.if_icmp .gt 36, 3) := by decide +kernel
theorem dX6_falls_40 : decode cX6_falls 40 = .ok (.aload_n 0, 1) := by decide +kernel
theorem dX6_falls_41 : decode cX6_falls 41 = .ok (.getfield 34, 3) := by decide +kernel
theorem dX6_falls_44 : decode cX6_falls 44 = .ok (.invokevirtual 113, 3) := by decide +kernel
theorem dX6_falls_47 : decode cX6_falls 47 = .ok (.aload_n 0, 1) := by decide +kernel
theorem dX6_falls_48 : decode cX6_falls 48 = .ok (.getfield 34, 3) := by decide +kernel
theorem dX6_falls_51 : decode cX6_falls 51 = .ok (.aload_n 0, 1) := by decide +kernel
theorem dX6_falls_52 : decode cX6_falls 52 = .ok (.getfield 34, 3) := by decide +kernel
theorem dX6_falls_55 : decode cX6_falls 55 = .ok (.getfield 90, 3) := by decide +kernel
theorem dX6_falls_58 : decode cX6_falls 58 = .ok (.invokevirtual 109, 3) := by decide +kernel
theorem dX6_falls_61 : decode cX6_falls 61 = .ok (.iload_n 1, 1) := by decide +kernel
theorem dX6_falls_62 : decode cX6_falls 62 = .ok (.if_icmp .le 5, 3) := by decide +kernel
theorem dX6_falls_65 : decode cX6_falls 65 = .ok (.iload_n 2, 1) := by decide +kernel
theorem dX6_falls_66 : decode cX6_falls 66 = .ok (.ireturn, 1) := by decide +kernel
theorem dX6_falls_67 : decode cX6_falls 67 = .ok (.iinc 2 1, 3) := by decide +kernel
theorem dX6_falls_70 : decode cX6_falls 70 = .ok (.goto (-37), 3) := by decide +kernel
theorem dX6_falls_73 : decode cX6_falls 73 = .ok (.iconst (-1), 1) := by decide +kernel
theorem dX6_falls_74 : decode cX6_falls 74 = .ok (.ireturn, 1) := by decide +kernel
theorem dX6_fallsIn_0 : decode cX6_fallsIn 0 = .ok (.aload_n 0, 1) := by decide +kernel
theorem dX6_fallsIn_1 : decode cX6_fallsIn 1 = .ok (.getfield 34, 3) := by decide +kernel
theorem dX6_fallsIn_4 : decode cX6_fallsIn 4 = .ok (.aload_n 0, 1) := by decide +kernel
theorem dX6_fallsIn_5 : decode cX6_fallsIn 5 = .ok (.getfield 30, 3) := by decide +kernel
theorem dX6_fallsIn_8 : decode cX6_fallsIn 8 = .ok (.invokevirtual 122, 3) := by decide +kernel
theorem dX6_fallsIn_11 : decode cX6_fallsIn 11 = .ok (.iconst 0, 1) := by decide +kernel
theorem dX6_fallsIn_12 : decode cX6_fallsIn 12 = .ok (.istore_n 2, 1) := by decide +kernel
theorem dX6_fallsIn_13 : decode cX6_fallsIn 13 = .ok (.iload_n 2, 1) := by decide +kernel
theorem dX6_fallsIn_14 : decode cX6_fallsIn 14 = .ok (.iload_n 1, 1) := by decide +kernel
theorem dX6_fallsIn_15 : decode cX6_fallsIn 15 = .ok (.if_icmp .ge 16, 3) := by decide +kernel
theorem dX6_fallsIn_18 : decode cX6_fallsIn 18 = .ok (.aload_n 0, 1) := by decide +kernel
theorem dX6_fallsIn_19 : decode cX6_fallsIn 19 = .ok (.getfield 34, 3) := by decide +kernel
theorem dX6_fallsIn_22 : decode cX6_fallsIn 22 = .ok (.invokevirtual 113, 3) := by decide +kernel
theorem dX6_fallsIn_25 : decode cX6_fallsIn 25 = .ok (.iinc 2 1, 3) := by decide +kernel
theorem dX6_fallsIn_28 : decode cX6_fallsIn 28 = .ok (.goto (-15), 3) := by decide +kernel
theorem dX6_fallsIn_31 : decode cX6_fallsIn 31 = .ok (.aload_n 0, 1) := by decide +kernel
theorem dX6_fallsIn_32 : decode cX6_fallsIn 32 = .ok (.getfield 34, 3) := by decide +kernel
theorem dX6_fallsIn_35 : decode cX6_fallsIn 35 = .ok (.aload_n 0, 1) := by decide +kernel
theorem dX6_fallsIn_36 : decode cX6_fallsIn 36 = .ok (.getfield 34, 3) := by decide +kernel
theorem dX6_fallsIn_39 : decode cX6_fallsIn 39 = .ok (.getfield 90, 3) := by decide +kernel
theorem dX6_fallsIn_42 : decode cX6_fallsIn 42 = .ok (.invokevirtual 109, 3) := by decide +kernel
theorem dX6_fallsIn_45 : decode cX6_fallsIn 45 = .ok (.aload_n 0, 1) := by decide +kernel
theorem dX6_fallsIn_46 : decode cX6_fallsIn 46 = .ok (.getfield 30, 3) := by decide +kernel
theorem dX6_fallsIn_49 : decode cX6_fallsIn 49 = .ok (.aload_n 0, 1) := by decide +kernel
theorem dX6_fallsIn_50 : decode cX6_fallsIn 50 = .ok (.getfield 30, 3) := by decide +kernel
theorem dX6_fallsIn_53 : decode cX6_fallsIn 53 = .ok (.getfield 90, 3) := by decide +kernel
theorem dX6_fallsIn_56 : decode cX6_fallsIn 56 = .ok (.invokevirtual 109, 3) := by decide +kernel
theorem dX6_fallsIn_59 : decode cX6_fallsIn 59 = .ok (.isub, 1) := by decide +kernel
theorem dX6_fallsIn_60 : decode cX6_fallsIn 60 = .ok (.ireturn, 1) := by decide +kernel
theorem dX6_foresee_0 : decode cX6_foresee 0 = .ok (.aload_n 0, 1) := by decide +kernel
theorem dX6_foresee_1 : decode cX6_foresee 1 = .ok (.iconst 0, 1) := by decide +kernel
theorem dX6_foresee_2 : decode cX6_foresee 2 = .ok (.putfield 37, 3) := by decide +kernel
theorem dX6_foresee_5 : decode cX6_foresee 5 = .ok (.iload_n 1, 1) := by decide +kernel
theorem dX6_foresee_6 : decode cX6_foresee 6 = .ok (.iconst 1, 1) := by decide +kernel
theorem dX6_foresee_7 : decode cX6_foresee 7 = .ok (.sipush 200, 3) := by decide +kernel
theorem dX6_foresee_10 : decode cX6_foresee 10 = .ok (.invokestatic 44, 3) := by decide +kernel
theorem dX6_foresee_13 : decode cX6_foresee 13 = .ok (.ifCond .ne 9, 3) := by decide +kernel
theorem dX6_foresee_16 : decode cX6_foresee 16 = .ok (.aload_n 0, 1) := by decide +kernel
theorem dX6_foresee_17 : decode cX6_foresee 17 = .ok (.iconst 1, 1) := by decide +kernel
theorem dX6_foresee_18 : decode cX6_foresee 18 = .ok (.invokevirtual 55, 3) := by decide +kernel
theorem dX6_foresee_21 : decode cX6_foresee 21 = .ok (.ireturn, 1) := by decide +kernel
theorem dX6_foresee_22 : decode cX6_foresee 22 = .ok (.iload_n 2, 1) := by decide +kernel
theorem dX6_foresee_23 : decode cX6_foresee 23 = .ok (.iconst 0, 1) := by decide +kernel
theorem dX6_foresee_24 : decode cX6_foresee 24 = .ok (.iconst 2, 1) := by decide +kernel
theorem dX6_foresee_25 : decode cX6_foresee 25 = .ok (.invokestatic 44, 3) := by decide +kernel
theorem dX6_foresee_28 : decode cX6_foresee 28 = .ok (.ifCond .ne 9, 3) := by decide +kernel
theorem dX6_foresee_31 : decode cX6_foresee 31 = .ok (.aload_n 0, 1) := by decide +kernel
theorem dX6_foresee_32 : decode cX6_foresee 32 = .ok (.iconst 2, 1) := by decide +kernel
theorem dX6_foresee_33 : decode cX6_foresee 33 = .ok (.invokevirtual 55, 3) := by decide +kernel
theorem dX6_foresee_36 : decode cX6_foresee 36 = .ok (.ireturn, 1) := by decide +kernel
theorem dX6_foresee_37 : decode cX6_foresee 37 = .ok (.aload_n 0, 1) := by decide +kernel
theorem dX6_foresee_38 : decode cX6_foresee 38 = .ok (.iload_n 1, 1) := by decide +kernel
theorem dX6_foresee_39 : decode cX6_foresee 39 = .ok (.invokevirtual 126, 3) := by decide +kernel
theorem dX6_foresee_42 : decode cX6_foresee 42 = .ok (.istore_n 3, 1) := by decide +kernel
theorem dX6_foresee_43 : decode cX6_foresee 43 = .ok (.iload_n 2, 1) := by decide +kernel
theorem dX6_foresee_44 : decode cX6_foresee 44 = .ok (.ifCond .ne 14, 3) := by decide +kernel
theorem dX6_foresee_47 : decode cX6_foresee 47 = .ok (.aload_n 0, 1) := by decide +kernel
theorem dX6_foresee_48 : decode cX6_foresee 48 = .ok (.getfield 34, 3) := by decide +kernel
theorem dX6_foresee_51 : decode cX6_foresee 51 = .ok (.iconst 2, 1) := by decide +kernel
theorem dX6_foresee_52 : decode cX6_foresee 52 = .ok (.invokevirtual 116, 3) := by decide +kernel
theorem dX6_foresee_55 : decode cX6_foresee 55 = .ok (.goto 26, 3) := by decide +kernel
theorem dX6_foresee_58 : decode cX6_foresee 58 = .ok (.iload_n 2, 1) := by decide +kernel
theorem dX6_foresee_59 : decode cX6_foresee 59 = .ok (.iconst 1, 1) := by decide +kernel
theorem dX6_foresee_60 : decode cX6_foresee 60 = .ok (.if_icmp .ne 7, 3) := by decide +kernel
theorem dX6_foresee_63 : decode cX6_foresee 63 = .ok (.iload_n 3, 1) := by decide +kernel
theorem dX6_foresee_64 : decode cX6_foresee 64 = .ok (.goto 17, 3) := by decide +kernel
theorem dX6_foresee_67 : decode cX6_foresee 67 = .ok (.aload_n 0, 1) := by decide +kernel
theorem dX6_foresee_68 : decode cX6_foresee 68 = .ok (.getfield 34, 3) := by decide +kernel
theorem dX6_foresee_71 : decode cX6_foresee 71 = .ok (.aload_n 0, 1) := by decide +kernel
theorem dX6_foresee_72 : decode cX6_foresee 72 = .ok (.getfield 34, 3) := by decide +kernel
theorem dX6_foresee_75 : decode cX6_foresee 75 = .ok (.getfield 97, 3) := by decide +kernel
theorem dX6_foresee_78 : decode cX6_foresee 78 = .ok (.invokevirtual 109, 3) := by decide +kernel
theorem dX6_foresee_81 : decode cX6_foresee 81 = .ok (.ireturn, 1) := by decide +kernel
theorem dX6_advise_0 : decode cX6_advise 0 = .ok (.aload_n 0, 1) := by decide +kernel
theorem dX6_advise_1 : decode cX6_advise 1 = .ok (.iconst 0, 1) := by decide +kernel
theorem dX6_advise_2 : decode cX6_advise 2 = .ok (.putfield 37, 3) := by decide +kernel
theorem dX6_advise_5 : decode cX6_advise 5 = .ok (.aload_n 0, 1) := by decide +kernel
theorem dX6_advise_6 : decode cX6_advise 6 = .ok (.iload_n 1, 1) := by decide +kernel
theorem dX6_advise_7 : decode cX6_advise 7 = .ok (.invokevirtual 51, 3) := by decide +kernel
theorem dX6_advise_10 : decode cX6_advise 10 = .ok (.ifCond .ne 9, 3) := by decide +kernel
theorem dX6_advise_13 : decode cX6_advise 13 = .ok (.aload_n 0, 1) := by decide +kernel
theorem dX6_advise_14 : decode cX6_advise 14 = .ok (.iconst 1, 1) := by decide +kernel
theorem dX6_advise_15 : decode cX6_advise 15 = .ok (.invokevirtual 55, 3) := by decide +kernel
theorem dX6_advise_18 : decode cX6_advise 18 = .ok (.ireturn, 1) := by decide +kernel
theorem dX6_advise_19 : decode cX6_advise 19 = .ok (.iload_n 2, 1) := by decide +kernel
theorem dX6_advise_20 : decode cX6_advise 20 = .ok (.iconst 1, 1) := by decide +kernel
theorem dX6_advise_21 : decode cX6_advise 21 = .ok (.bipush 60, 2) := by decide +kernel
theorem dX6_advise_23 : decode cX6_advise 23 = .ok (.invokestatic 44, 3) := by decide +kernel
theorem dX6_advise_26 : decode cX6_advise 26 = .ok (.ifCond .ne 9, 3) := by decide +kernel
theorem dX6_advise_29 : decode cX6_advise 29 = .ok (.aload_n 0, 1) := by decide +kernel
theorem dX6_advise_30 : decode cX6_advise 30 = .ok (.iconst 2, 1) := by decide +kernel
theorem dX6_advise_31 : decode cX6_advise 31 = .ok (.invokevirtual 55, 3) := by decide +kernel
theorem dX6_advise_34 : decode cX6_advise 34 = .ok (.ireturn, 1) := by decide +kernel
theorem dX6_advise_35 : decode cX6_advise 35 = .ok (.aload_n 0, 1) := by decide +kernel
theorem dX6_advise_36 : decode cX6_advise 36 = .ok (.iload_n 2, 1) := by decide +kernel
theorem dX6_advise_37 : decode cX6_advise 37 = .ok (.invokevirtual 126, 3) := by decide +kernel
theorem dX6_advise_40 : decode cX6_advise 40 = .ok (.istore_n 3, 1) := by decide +kernel
theorem dX6_advise_41 : decode cX6_advise 41 = .ok (.iconst (-1), 1) := by decide +kernel
theorem dX6_advise_42 : decode cX6_advise 42 = .ok (.istore 4, 2) := by decide +kernel
theorem dX6_advise_44 : decode cX6_advise 44 = .ok (.iconst 0, 1) := by decide +kernel
theorem dX6_advise_45 : decode cX6_advise 45 = .ok (.istore 5, 2) := by decide +kernel
theorem dX6_advise_47 : decode cX6_advise 47 = .ok (.iload 5, 2) := by decide +kernel
theorem dX6_advise_49 : decode cX6_advise 49 = .ok (.aload_n 0, 1) := by decide +kernel
theorem dX6_advise_50 : decode cX6_advise 50 = .ok (.getfield 13, 3) := by decide +kernel
theorem dX6_advise_53 : decode cX6_advise 53 = .ok (.iload_n 1, 1) := by decide +kernel
theorem dX6_advise_54 : decode cX6_advise 54 = .ok (.iaload, 1) := by decide +kernel
theorem dX6_advise_55 : decode cX6_advise 55 = .ok (.if_icmp .ge 90, 3) := by decide +kernel
theorem dX6_advise_58 : decode cX6_advise 58 = .ok (.bipush 8, 2) := by decide +kernel
theorem dX6_advise_60 : decode cX6_advise 60 = .ok (.iload_n 1, 1) := by decide +kernel
theorem dX6_advise_61 : decode cX6_advise 61 = .ok (.imul, 1) := by decide +kernel
theorem dX6_advise_62 : decode cX6_advise 62 = .ok (.iload 5, 2) := by decide +kernel
theorem dX6_advise_64 : decode cX6_advise 64 = .ok (.iadd, 1) := by decide +kernel
theorem dX6_advise_65 : decode cX6_advise 65 = .ok (.istore 6, 2) := by decide +kernel
theorem dX6_advise_67 : decode cX6_advise 67 = .ok (.aload_n 0, 1) := by decide +kernel
theorem dX6_advise_68 : decode cX6_advise 68 = .ok (.getfield 16, 3) := by decide +kernel
theorem dX6_advise_71 : decode cX6_advise 71 = .ok (.iload 6, 2) := by decide +kernel
theorem dX6_advise_73 : decode cX6_advise 73 = .ok (.iaload, 1) := by decide +kernel
theorem dX6_advise_74 : decode cX6_advise 74 = .ok (.istore 7, 2) := by decide +kernel
theorem dX6_advise_76 : decode cX6_advise 76 = .ok (.iconst 0, 1) := by decide +kernel
theorem dX6_advise_77 : decode cX6_advise 77 = .ok (.istore 8, 2) := by decide +kernel
theorem dX6_advise_79 : decode cX6_advise 79 = .ok (.iload 8, 2) := by decide +kernel
theorem dX6_advise_81 : decode cX6_advise 81 = .ok (.bipush 9, 2) := by decide +kernel
theorem dX6_advise_83 : decode cX6_advise 83 = .ok (.if_icmp .gt 47, 3) := by decide +kernel
theorem dX6_advise_86 : decode cX6_advise 86 = .ok (.aload_n 0, 1) := by decide +kernel
theorem dX6_advise_87 : decode cX6_advise 87 = .ok (.getfield 16, 3) := by decide +kernel
theorem dX6_advise_90 : decode cX6_advise 90 = .ok (.iload 6, 2) := by decide +kernel
theorem dX6_advise_92 : decode cX6_advise 92 = .ok (.iload 8, 2) := by decide +kernel
theorem dX6_advise_94 : decode cX6_advise 94 = .ok (.iastore, 1) := by decide +kernel
theorem dX6_advise_95 : decode cX6_advise 95 = .ok (.aload_n 0, 1) := by decide +kernel
theorem dX6_advise_96 : decode cX6_advise 96 = .ok (.iload_n 2, 1) := by decide +kernel
theorem dX6_advise_97 : decode cX6_advise 97 = .ok (.invokevirtual 126, 3) := by decide +kernel
theorem dX6_advise_100 : decode cX6_advise 100 = .ok (.istore 9, 2) := by decide +kernel
theorem dX6_advise_102 : decode cX6_advise 102 = .ok (.iload 9, 2) := by decide +kernel
theorem dX6_advise_104 : decode cX6_advise 104 = .ok (.iload_n 3, 1) := by decide +kernel
theorem dX6_advise_105 : decode cX6_advise 105 = .ok (.if_icmp .lt 6, 3) := by decide +kernel
theorem dX6_advise_108 : decode cX6_advise 108 = .ok (.goto 16, 3) := by decide +kernel
theorem dX6_advise_111 : decode cX6_advise 111 = .ok (.iload 9, 2) := by decide +kernel
theorem dX6_advise_113 : decode cX6_advise 113 = .ok (.istore_n 3, 1) := by decide +kernel
theorem dX6_advise_114 : decode cX6_advise 114 = .ok (.bipush 10, 2) := by decide +kernel
theorem dX6_advise_116 : decode cX6_advise 116 = .ok (.iload 5, 2) := by decide +kernel
theorem dX6_advise_118 : decode cX6_advise 118 = .ok (.imul, 1) := by decide +kernel
theorem dX6_advise_119 : decode cX6_advise 119 = .ok (.iload 8, 2) := by decide +kernel
theorem dX6_advise_121 : decode cX6_advise 121 = .ok (.iadd, 1) := by decide +kernel
theorem dX6_advise_122 : decode cX6_advise 122 = .ok (.istore 4, 2) := by decide +kernel
theorem dX6_advise_124 : decode cX6_advise 124 = .ok (.iinc 8 1, 3) := by decide +kernel
theorem dX6_advise_127 : decode cX6_advise 127 = .ok (.goto (-48), 3) := by decide +kernel
theorem dX6_advise_130 : decode cX6_advise 130 = .ok (.aload_n 0, 1) := by decide +kernel
theorem dX6_advise_131 : decode cX6_advise 131 = .ok (.getfield 16, 3) := by decide +kernel
theorem dX6_advise_134 : decode cX6_advise 134 = .ok (.iload 6, 2) := by decide +kernel
theorem dX6_advise_136 : decode cX6_advise 136 = .ok (.iload 7, 2) := by decide +kernel
theorem dX6_advise_138 : decode cX6_advise 138 = .ok (.iastore, 1) := by decide +kernel
theorem dX6_advise_139 : decode cX6_advise 139 = .ok (.iinc 5 1, 3) := by decide +kernel
theorem dX6_advise_142 : decode cX6_advise 142 = .ok (.goto (-95), 3) := by decide +kernel
theorem dX6_advise_145 : decode cX6_advise 145 = .ok (.iload 4, 2) := by decide +kernel
theorem dX6_advise_147 : decode cX6_advise 147 = .ok (.ireturn, 1) := by decide +kernel
theorem dX6_mean_0 : decode cX6_mean 0 = .ok (.aload_n 0, 1) := by decide +kernel
theorem dX6_mean_1 : decode cX6_mean 1 = .ok (.iconst 0, 1) := by decide +kernel
theorem dX6_mean_2 : decode cX6_mean 2 = .ok (.putfield 37, 3) := by decide +kernel
theorem dX6_mean_5 : decode cX6_mean 5 = .ok (.aload_n 0, 1) := by decide +kernel
theorem dX6_mean_6 : decode cX6_mean 6 = .ok (.getfield 30, 3) := by decide +kernel
theorem dX6_mean_9 : decode cX6_mean 9 = .ok (.getfield 84, 3) := by decide +kernel
theorem dX6_mean_12 : decode cX6_mean 12 = .ok (.ifCond .ne 7, 3) := by decide +kernel
theorem dX6_mean_15 : decode cX6_mean 15 = .ok (.dconst 0, 1) := by decide +kernel
theorem dX6_mean_16 : decode cX6_mean 16 = .ok (.goto 27, 3) := by decide +kernel
theorem dX6_mean_19 : decode cX6_mean 19 = .ok (.aload_n 0, 1) := by decide +kernel
theorem dX6_mean_20 : decode cX6_mean 20 = .ok (.getfield 30, 3) := by decide +kernel
theorem dX6_mean_23 : decode cX6_mean 23 = .ok (.aload_n 0, 1) := by decide +kernel
theorem dX6_mean_24 : decode cX6_mean 24 = .ok (.getfield 30, 3) := by decide +kernel
theorem dX6_mean_27 : decode cX6_mean 27 = .ok (.getfield 87, 3) := by decide +kernel
theorem dX6_mean_30 : decode cX6_mean 30 = .ok (.invokevirtual 109, 3) := by decide +kernel
theorem dX6_mean_33 : decode cX6_mean 33 = .ok (.i2d, 1) := by decide +kernel
theorem dX6_mean_34 : decode cX6_mean 34 = .ok (.aload_n 0, 1) := by decide +kernel
theorem dX6_mean_35 : decode cX6_mean 35 = .ok (.getfield 30, 3) := by decide +kernel
theorem dX6_mean_38 : decode cX6_mean 38 = .ok (.getfield 84, 3) := by decide +kernel
theorem dX6_mean_41 : decode cX6_mean 41 = .ok (.i2d, 1) := by decide +kernel
theorem dX6_mean_42 : decode cX6_mean 42 = .ok (.ddiv, 1) := by decide +kernel
theorem dX6_mean_43 : decode cX6_mean 43 = .ok (.dreturn, 1) := by decide +kernel
theorem dX6_digest_0 : decode cX6_digest 0 = .ok (.aload_n 0, 1) := by decide +kernel
theorem dX6_digest_1 : decode cX6_digest 1 = .ok (.iconst 0, 1) := by decide +kernel
theorem dX6_digest_2 : decode cX6_digest 2 = .ok (.putfield 37, 3) := by decide +kernel
theorem dX6_digest_5 : decode cX6_digest 5 = .ok (.ldc2_w 129, 3) := by decide +kernel
theorem dX6_digest_8 : decode cX6_digest 8 = .ok (.lstore_n 1, 1) := by decide +kernel
theorem dX6_digest_9 : decode cX6_digest 9 = .ok (.iconst 0, 1) := by decide +kernel
theorem dX6_digest_10 : decode cX6_digest 10 = .ok (.istore_n 3, 1) := by decide +kernel
theorem dX6_digest_11 : decode cX6_digest 11 = .ok (.iload_n 3, 1) := by decide +kernel
theorem dX6_digest_12 : decode cX6_digest 12 = .ok (.bipush 8, 2) := by decide +kernel
theorem dX6_digest_14 : decode cX6_digest 14 = .ok (.if_icmp .gt 22, 3) := by decide +kernel
theorem dX6_digest_17 : decode cX6_digest 17 = .ok (.lload_n 1, 1) := by decide +kernel
theorem dX6_digest_18 : decode cX6_digest 18 = .ok (.ldc2_w 131, 3) := by decide +kernel
theorem dX6_digest_21 : decode cX6_digest 21 = .ok (.lmul, 1) := by decide +kernel
theorem dX6_digest_22 : decode cX6_digest 22 = .ok (.aload_n 0, 1) := by decide +kernel
theorem dX6_digest_23 : decode cX6_digest 23 = .ok (.iload_n 3, 1) := by decide +kernel
theorem dX6_digest_24 : decode cX6_digest 24 = .ok (.invokevirtual 119, 3) := by decide +kernel
theorem dX6_digest_27 : decode cX6_digest 27 = .ok (.i2l, 1) := by decide +kernel
theorem dX6_digest_28 : decode cX6_digest 28 = .ok (.ladd, 1) := by decide +kernel
theorem dX6_digest_29 : decode cX6_digest 29 = .ok (.lstore_n 1, 1) := by decide +kernel
theorem dX6_digest_30 : decode cX6_digest 30 = .ok (.iinc 3 1, 3) := by decide +kernel
theorem dX6_digest_33 : decode cX6_digest 33 = .ok (.goto (-22), 3) := by decide +kernel
theorem dX6_digest_36 : decode cX6_digest 36 = .ok (.iconst 0, 1) := by decide +kernel
theorem dX6_digest_37 : decode cX6_digest 37 = .ok (.istore_n 3, 1) := by decide +kernel
theorem dX6_digest_38 : decode cX6_digest 38 = .ok (.iload_n 3, 1) := by decide +kernel
theorem dX6_digest_39 : decode cX6_digest 39 = .ok (.aload_n 0, 1) := by decide +kernel
theorem dX6_digest_40 : decode cX6_digest 40 = .ok (.getfield 41, 3) := by decide +kernel
theorem dX6_digest_43 : decode cX6_digest 43 = .ok (.if_icmp .ge 98, 3) := by decide +kernel
theorem dX6_digest_46 : decode cX6_digest 46 = .ok (.iconst 0, 1) := by decide +kernel
theorem dX6_digest_47 : decode cX6_digest 47 = .ok (.istore 4, 2) := by decide +kernel
theorem dX6_digest_49 : decode cX6_digest 49 = .ok (.iload 4, 2) := by decide +kernel
theorem dX6_digest_51 : decode cX6_digest 51 = .ok (.bipush 6, 2) := by decide +kernel
theorem dX6_digest_53 : decode cX6_digest 53 = .ok (.if_icmp .gt 24, 3) := by decide +kernel
theorem dX6_digest_56 : decode cX6_digest 56 = .ok (.lload_n 1, 1) := by decide +kernel
theorem dX6_digest_57 : decode cX6_digest 57 = .ok (.ldc2_w 131, 3) := by decide +kernel
theorem dX6_digest_60 : decode cX6_digest 60 = .ok (.lmul, 1) := by decide +kernel
theorem dX6_digest_61 : decode cX6_digest 61 = .ok (.aload_n 0, 1) := by decide +kernel
theorem dX6_digest_62 : decode cX6_digest 62 = .ok (.iload_n 3, 1) := by decide +kernel
theorem dX6_digest_63 : decode cX6_digest 63 = .ok (.iload 4, 2) := by decide +kernel
theorem dX6_digest_65 : decode cX6_digest 65 = .ok (.invokevirtual 103, 3) := by decide +kernel
theorem dX6_digest_68 : decode cX6_digest 68 = .ok (.i2l, 1) := by decide +kernel
theorem dX6_digest_69 : decode cX6_digest 69 = .ok (.ladd, 1) := by decide +kernel
theorem dX6_digest_70 : decode cX6_digest 70 = .ok (.lstore_n 1, 1) := by decide +kernel
theorem dX6_digest_71 : decode cX6_digest 71 = .ok (.iinc 4 1, 3) := by decide +kernel
theorem dX6_digest_74 : decode cX6_digest 74 = .ok (.goto (-25), 3) := by decide +kernel
theorem dX6_digest_77 : decode cX6_digest 77 = .ok (.iconst 0, 1) := by decide +kernel
theorem dX6_digest_78 : decode cX6_digest 78 = .ok (.istore 4, 2) := by decide +kernel
theorem dX6_digest_80 : decode cX6_digest 80 = .ok (.iload 4, 2) := by decide +kernel
theorem dX6_digest_82 : decode cX6_digest 82 = .ok (.aload_n 0, 1) := by decide +kernel
theorem dX6_digest_83 : decode cX6_digest 83 = .ok (.getfield 13, 3) := by decide +kernel
theorem dX6_digest_86 : decode cX6_digest 86 = .ok (.iload_n 3, 1) := by decide +kernel
theorem dX6_digest_87 : decode cX6_digest 87 = .ok (.iaload, 1) := by decide +kernel
theorem dX6_digest_88 : decode cX6_digest 88 = .ok (.if_icmp .ge 47, 3) := by decide +kernel
theorem dX6_digest_91 : decode cX6_digest 91 = .ok (.lload_n 1, 1) := by decide +kernel
theorem dX6_digest_92 : decode cX6_digest 92 = .ok (.ldc2_w 131, 3) := by decide +kernel
theorem dX6_digest_95 : decode cX6_digest 95 = .ok (.lmul, 1) := by decide +kernel
theorem dX6_digest_96 : decode cX6_digest 96 = .ok (.aload_n 0, 1) := by decide +kernel
theorem dX6_digest_97 : decode cX6_digest 97 = .ok (.getfield 16, 3) := by decide +kernel
theorem dX6_digest_100 : decode cX6_digest 100 = .ok (.bipush 8, 2) := by decide +kernel
theorem dX6_digest_102 : decode cX6_digest 102 = .ok (.iload_n 3, 1) := by decide +kernel
theorem dX6_digest_103 : decode cX6_digest 103 = .ok (.imul, 1) := by decide +kernel
theorem dX6_digest_104 : decode cX6_digest 104 = .ok (.iload 4, 2) := by decide +kernel
theorem dX6_digest_106 : decode cX6_digest 106 = .ok (.iadd, 1) := by decide +kernel
theorem dX6_digest_107 : decode cX6_digest 107 = .ok (.iaload, 1) := by decide +kernel
theorem dX6_digest_108 : decode cX6_digest 108 = .ok (.i2l, 1) := by decide +kernel
theorem dX6_digest_109 : decode cX6_digest 109 = .ok (.ladd, 1) := by decide +kernel
theorem dX6_digest_110 : decode cX6_digest 110 = .ok (.ldc2_w 131, 3) := by decide +kernel
theorem dX6_digest_113 : decode cX6_digest 113 = .ok (.lmul, 1) := by decide +kernel
theorem dX6_digest_114 : decode cX6_digest 114 = .ok (.aload_n 0, 1) := by decide +kernel
theorem dX6_digest_115 : decode cX6_digest 115 = .ok (.getfield 19, 3) := by decide +kernel
theorem dX6_digest_118 : decode cX6_digest 118 = .ok (.bipush 8, 2) := by decide +kernel
theorem dX6_digest_120 : decode cX6_digest 120 = .ok (.iload_n 3, 1) := by decide +kernel
theorem dX6_digest_121 : decode cX6_digest 121 = .ok (.imul, 1) := by decide +kernel
theorem dX6_digest_122 : decode cX6_digest 122 = .ok (.iload 4, 2) := by decide +kernel
theorem dX6_digest_124 : decode cX6_digest 124 = .ok (.iadd, 1) := by decide +kernel
theorem dX6_digest_125 : decode cX6_digest 125 = .ok (.iaload, 1) := by decide +kernel
theorem dX6_digest_126 : decode cX6_digest 126 = .ok (.i2l, 1) := by decide +kernel
theorem dX6_digest_127 : decode cX6_digest 127 = .ok (.ladd, 1) := by decide +kernel
theorem dX6_digest_128 : decode cX6_digest 128 = .ok (.lstore_n 1, 1) := by decide +kernel
theorem dX6_digest_129 : decode cX6_digest 129 = .ok (.iinc 4 1, 3) := by decide +kernel
theorem dX6_digest_132 : decode cX6_digest 132 = .ok (.goto (-52), 3) := by decide +kernel
theorem dX6_digest_135 : decode cX6_digest 135 = .ok (.iinc 3 1, 3) := by decide +kernel
theorem dX6_digest_138 : decode cX6_digest 138 = .ok (.goto (-100), 3) := by decide +kernel
theorem dX6_digest_141 : decode cX6_digest 141 = .ok (.iconst 0, 1) := by decide +kernel
theorem dX6_digest_142 : decode cX6_digest 142 = .ok (.istore_n 3, 1) := by decide +kernel
theorem dX6_digest_143 : decode cX6_digest 143 = .ok (.iload_n 3, 1) := by decide +kernel
theorem dX6_digest_144 : decode cX6_digest 144 = .ok (.aload_n 0, 1) := by decide +kernel
theorem dX6_digest_145 : decode cX6_digest 145 = .ok (.getfield 48, 3) := by decide +kernel
theorem dX6_digest_148 : decode cX6_digest 148 = .ok (.if_icmp .ge 40, 3) := by decide +kernel
theorem dX6_digest_151 : decode cX6_digest 151 = .ok (.iconst 0, 1) := by decide +kernel
theorem dX6_digest_152 : decode cX6_digest 152 = .ok (.istore 4, 2) := by decide +kernel
theorem dX6_digest_154 : decode cX6_digest 154 = .ok (.iload 4, 2) := by decide +kernel
theorem dX6_digest_156 : decode cX6_digest 156 = .ok (.bipush 6, 2) := by decide +kernel
theorem dX6_digest_158 : decode cX6_digest 158 = .ok (.if_icmp .gt 24, 3) := by decide +kernel
theorem dX6_digest_161 : decode cX6_digest 161 = .ok (.lload_n 1, 1) := by decide +kernel
theorem dX6_digest_162 : decode cX6_digest 162 = .ok (.ldc2_w 131, 3) := by decide +kernel
theorem dX6_digest_165 : decode cX6_digest 165 = .ok (.lmul, 1) := by decide +kernel
theorem dX6_digest_166 : decode cX6_digest 166 = .ok (.aload_n 0, 1) := by decide +kernel
theorem dX6_digest_167 : decode cX6_digest 167 = .ok (.iload_n 3, 1) := by decide +kernel
theorem dX6_digest_168 : decode cX6_digest 168 = .ok (.iload 4, 2) := by decide +kernel
theorem dX6_digest_170 : decode cX6_digest 170 = .ok (.invokevirtual 93, 3) := by decide +kernel
theorem dX6_digest_173 : decode cX6_digest 173 = .ok (.i2l, 1) := by decide +kernel
theorem dX6_digest_174 : decode cX6_digest 174 = .ok (.ladd, 1) := by decide +kernel
theorem dX6_digest_175 : decode cX6_digest 175 = .ok (.lstore_n 1, 1) := by decide +kernel
theorem dX6_digest_176 : decode cX6_digest 176 = .ok (.iinc 4 1, 3) := by decide +kernel
theorem dX6_digest_179 : decode cX6_digest 179 = .ok (.goto (-25), 3) := by decide +kernel
theorem dX6_digest_182 : decode cX6_digest 182 = .ok (.iinc 3 1, 3) := by decide +kernel
theorem dX6_digest_185 : decode cX6_digest 185 = .ok (.goto (-42), 3) := by decide +kernel
theorem dX6_digest_188 : decode cX6_digest 188 = .ok (.lload_n 1, 1) := by decide +kernel
theorem dX6_digest_189 : decode cX6_digest 189 = .ok (.lreturn, 1) := by decide +kernel
end
section
theorem dL_come_0 : decode cL_come 0 = .ok (.aload_n 2, 1) := by decide +kernel
theorem dL_come_1 : decode cL_come 1 = .ok (.iconst 0, 1) := by decide +kernel
theorem dL_come_2 : decode cL_come 2 = .ok (.aload_n 0, 1) := by decide +kernel
theorem dL_come_3 : decode cL_come 3 = .ok (.iload_n 1, 1) := by decide +kernel
theorem dL_come_4 : decode cL_come 4 = .ok (.invokevirtual 7, 3) := by decide +kernel
theorem dL_come_7 : decode cL_come 7 = .ok (.i2l, 1) := by decide +kernel
theorem dL_come_8 : decode cL_come 8 = .ok (.lastore, 1) := by decide +kernel
theorem dL_come_9 : decode cL_come 9 = .ok (.goto 9, 3) := by decide +kernel
theorem dL_come_12 : decode cL_come 12 = .ok (.astore_n 3, 1) := by decide +kernel
theorem dL_come_13 : decode cL_come 13 = .ok (.iconst 1, 1) := by decide +kernel
theorem dL_come_14 : decode cL_come 14 = .ok (.ireturn, 1) := by decide +kernel
theorem dL_come_15 : decode cL_come 15 = .ok (.astore_n 3, 1) := by decide +kernel
theorem dL_come_16 : decode cL_come 16 = .ok (.iconst 2, 1) := by decide +kernel
theorem dL_come_17 : decode cL_come 17 = .ok (.ireturn, 1) := by decide +kernel
theorem dL_come_18 : decode cL_come 18 = .ok (.iconst 0, 1) := by decide +kernel
theorem dL_come_19 : decode cL_come 19 = .ok (.ireturn, 1) := by decide +kernel
theorem dL_setPattern_0 : decode cL_setPattern 0 = .ok (.aload 4, 2) := by decide +kernel
theorem dL_setPattern_2 : decode cL_setPattern 2 = .ok (.iconst 0, 1) := by decide +kernel
theorem dL_setPattern_3 : decode cL_setPattern 3 = .ok (.aload_n 0, 1) := by decide +kernel
theorem dL_setPattern_4 : decode cL_setPattern 4 = .ok (.iload_n 1, 1) := by decide +kernel
theorem dL_setPattern_5 : decode cL_setPattern 5 = .ok (.iload_n 2, 1) := by decide +kernel
theorem dL_setPattern_6 : decode cL_setPattern 6 = .ok (.iload_n 3, 1) := by decide +kernel
theorem dL_setPattern_7 : decode cL_setPattern 7 = .ok (.invokevirtual 17, 3) := by decide +kernel
theorem dL_setPattern_10 : decode cL_setPattern 10 = .ok (.i2l, 1) := by decide +kernel
theorem dL_setPattern_11 : decode cL_setPattern 11 = .ok (.lastore, 1) := by decide +kernel
theorem dL_setPattern_12 : decode cL_setPattern 12 = .ok (.goto 11, 3) := by decide +kernel
theorem dL_setPattern_15 : decode cL_setPattern 15 = .ok (.astore 5, 2) := by decide +kernel
theorem dL_setPattern_17 : decode cL_setPattern 17 = .ok (.iconst 1, 1) := by decide +kernel
theorem dL_setPattern_18 : decode cL_setPattern 18 = .ok (.ireturn, 1) := by decide +kernel
theorem dL_setPattern_19 : decode cL_setPattern 19 = .ok (.astore 5, 2) := by decide +kernel
theorem dL_setPattern_21 : decode cL_setPattern 21 = .ok (.iconst 2, 1) := by decide +kernel
theorem dL_setPattern_22 : decode cL_setPattern 22 = .ok (.ireturn, 1) := by decide +kernel
theorem dL_setPattern_23 : decode cL_setPattern 23 = .ok (.iconst 0, 1) := by decide +kernel
theorem dL_setPattern_24 : decode cL_setPattern 24 = .ok (.ireturn, 1) := by decide +kernel
theorem dL_pass_0 : decode cL_pass 0 = .ok (.aload 4, 2) := by decide +kernel
theorem dL_pass_2 : decode cL_pass 2 = .ok (.iconst 0, 1) := by decide +kernel
theorem dL_pass_3 : decode cL_pass 3 = .ok (.aload_n 0, 1) := by decide +kernel
theorem dL_pass_4 : decode cL_pass 4 = .ok (.iload_n 1, 1) := by decide +kernel
theorem dL_pass_5 : decode cL_pass 5 = .ok (.iload_n 2, 1) := by decide +kernel
theorem dL_pass_6 : decode cL_pass 6 = .ok (.iload_n 3, 1) := by decide +kernel
theorem dL_pass_7 : decode cL_pass 7 = .ok (.invokevirtual 23, 3) := by decide +kernel
theorem dL_pass_10 : decode cL_pass 10 = .ok (.i2l, 1) := by decide +kernel
theorem dL_pass_11 : decode cL_pass 11 = .ok (.lastore, 1) := by decide +kernel
theorem dL_pass_12 : decode cL_pass 12 = .ok (.goto 7, 3) := by decide +kernel
theorem dL_pass_15 : decode cL_pass 15 = .ok (.astore 5, 2) := by decide +kernel
theorem dL_pass_17 : decode cL_pass 17 = .ok (.iconst 1, 1) := by decide +kernel
theorem dL_pass_18 : decode cL_pass 18 = .ok (.ireturn, 1) := by decide +kernel
theorem dL_pass_19 : decode cL_pass 19 = .ok (.iconst 0, 1) := by decide +kernel
theorem dL_pass_20 : decode cL_pass 20 = .ok (.ireturn, 1) := by decide +kernel
theorem dL_written_0 : decode cL_written 0 = .ok (.aload 4, 2) := by decide +kernel
theorem dL_written_2 : decode cL_written 2 = .ok (.iconst 0, 1) := by decide +kernel
theorem dL_written_3 : decode cL_written 3 = .ok (.aload_n 0, 1) := by decide +kernel
theorem dL_written_4 : decode cL_written 4 = .ok (.iload_n 1, 1) := by decide +kernel
theorem dL_written_5 : decode cL_written 5 = .ok (.iload_n 2, 1) := by decide +kernel
theorem dL_written_6 : decode cL_written 6 = .ok (.iload_n 3, 1) := by decide +kernel
theorem dL_written_7 : decode cL_written 7 = .ok (.invokevirtual 26, 3) := by decide +kernel
theorem dL_written_10 : decode cL_written 10 = .ok (.i2l, 1) := by decide +kernel
theorem dL_written_11 : decode cL_written 11 = .ok (.lastore, 1) := by decide +kernel
theorem dL_written_12 : decode cL_written 12 = .ok (.goto 7, 3) := by decide +kernel
theorem dL_written_15 : decode cL_written 15 = .ok (.astore 5, 2) := by decide +kernel
theorem dL_written_17 : decode cL_written 17 = .ok (.iconst 1, 1) := by decide +kernel
theorem dL_written_18 : decode cL_written 18 = .ok (.ireturn, 1) := by decide +kernel
theorem dL_written_19 : decode cL_written 19 = .ok (.iconst 0, 1) := by decide +kernel
theorem dL_written_20 : decode cL_written 20 = .ok (.ireturn, 1) := by decide +kernel
theorem dL_make_0 : decode cL_make 0 = .ok (.aload_n 2, 1) := by decide +kernel
theorem dL_make_1 : decode cL_make 1 = .ok (.iconst 0, 1) := by decide +kernel
theorem dL_make_2 : decode cL_make 2 = .ok (.aload_n 0, 1) := by decide +kernel
theorem dL_make_3 : decode cL_make 3 = .ok (.iload_n 1, 1) := by decide +kernel
theorem dL_make_4 : decode cL_make 4 = .ok (.invokevirtual 29, 3) := by decide +kernel
theorem dL_make_7 : decode cL_make 7 = .ok (.i2l, 1) := by decide +kernel
theorem dL_make_8 : decode cL_make 8 = .ok (.lastore, 1) := by decide +kernel
theorem dL_make_9 : decode cL_make 9 = .ok (.goto 9, 3) := by decide +kernel
theorem dL_make_12 : decode cL_make 12 = .ok (.astore_n 3, 1) := by decide +kernel
theorem dL_make_13 : decode cL_make 13 = .ok (.iconst 1, 1) := by decide +kernel
theorem dL_make_14 : decode cL_make 14 = .ok (.ireturn, 1) := by decide +kernel
theorem dL_make_15 : decode cL_make 15 = .ok (.astore_n 3, 1) := by decide +kernel
theorem dL_make_16 : decode cL_make 16 = .ok (.iconst 2, 1) := by decide +kernel
theorem dL_make_17 : decode cL_make 17 = .ok (.ireturn, 1) := by decide +kernel
theorem dL_make_18 : decode cL_make 18 = .ok (.iconst 0, 1) := by decide +kernel
theorem dL_make_19 : decode cL_make 19 = .ok (.ireturn, 1) := by decide +kernel
theorem dL_give_0 : decode cL_give 0 = .ok (.aload 4, 2) := by decide +kernel
theorem dL_give_2 : decode cL_give 2 = .ok (.iconst 0, 1) := by decide +kernel
theorem dL_give_3 : decode cL_give 3 = .ok (.aload_n 0, 1) := by decide +kernel
theorem dL_give_4 : decode cL_give 4 = .ok (.iload_n 1, 1) := by decide +kernel
theorem dL_give_5 : decode cL_give 5 = .ok (.iload_n 2, 1) := by decide +kernel
theorem dL_give_6 : decode cL_give 6 = .ok (.iload_n 3, 1) := by decide +kernel
theorem dL_give_7 : decode cL_give 7 = .ok (.invokevirtual 32, 3) := by decide +kernel
theorem dL_give_10 : decode cL_give 10 = .ok (.i2l, 1) := by decide +kernel
theorem dL_give_11 : decode cL_give 11 = .ok (.lastore, 1) := by decide +kernel
theorem dL_give_12 : decode cL_give 12 = .ok (.goto 11, 3) := by decide +kernel
theorem dL_give_15 : decode cL_give 15 = .ok (.astore 5, 2) := by decide +kernel
theorem dL_give_17 : decode cL_give 17 = .ok (.iconst 1, 1) := by decide +kernel
theorem dL_give_18 : decode cL_give 18 = .ok (.ireturn, 1) := by decide +kernel
theorem dL_give_19 : decode cL_give 19 = .ok (.astore 5, 2) := by decide +kernel
theorem dL_give_21 : decode cL_give 21 = .ok (.iconst 2, 1) := by decide +kernel
theorem dL_give_22 : decode cL_give 22 = .ok (.ireturn, 1) := by decide +kernel
theorem dL_give_23 : decode cL_give 23 = .ok (.iconst 0, 1) := by decide +kernel
theorem dL_give_24 : decode cL_give 24 = .ok (.ireturn, 1) := by decide +kernel
theorem dL_thing_0 : decode cL_thing 0 = .ok (.aload_n 3, 1) := by decide +kernel
theorem dL_thing_1 : decode cL_thing 1 = .ok (.iconst 0, 1) := by decide +kernel
theorem dL_thing_2 : decode cL_thing 2 = .ok (.aload_n 0, 1) := by decide +kernel
theorem dL_thing_3 : decode cL_thing 3 = .ok (.iload_n 1, 1) := by decide +kernel
theorem dL_thing_4 : decode cL_thing 4 = .ok (.iload_n 2, 1) := by decide +kernel
theorem dL_thing_5 : decode cL_thing 5 = .ok (.invokevirtual 35, 3) := by decide +kernel
theorem dL_thing_8 : decode cL_thing 8 = .ok (.i2l, 1) := by decide +kernel
theorem dL_thing_9 : decode cL_thing 9 = .ok (.lastore, 1) := by decide +kernel
theorem dL_thing_10 : decode cL_thing 10 = .ok (.goto 7, 3) := by decide +kernel
theorem dL_thing_13 : decode cL_thing 13 = .ok (.astore 4, 2) := by decide +kernel
theorem dL_thing_15 : decode cL_thing 15 = .ok (.iconst 1, 1) := by decide +kernel
theorem dL_thing_16 : decode cL_thing 16 = .ok (.ireturn, 1) := by decide +kernel
theorem dL_thing_17 : decode cL_thing 17 = .ok (.iconst 0, 1) := by decide +kernel
theorem dL_thing_18 : decode cL_thing 18 = .ok (.ireturn, 1) := by decide +kernel
theorem dL_juggler_0 : decode cL_juggler 0 = .ok (.aload_n 3, 1) := by decide +kernel
theorem dL_juggler_1 : decode cL_juggler 1 = .ok (.iconst 0, 1) := by decide +kernel
theorem dL_juggler_2 : decode cL_juggler 2 = .ok (.aload_n 0, 1) := by decide +kernel
theorem dL_juggler_3 : decode cL_juggler 3 = .ok (.iload_n 1, 1) := by decide +kernel
theorem dL_juggler_4 : decode cL_juggler 4 = .ok (.iload_n 2, 1) := by decide +kernel
theorem dL_juggler_5 : decode cL_juggler 5 = .ok (.invokevirtual 39, 3) := by decide +kernel
theorem dL_juggler_8 : decode cL_juggler 8 = .ok (.i2l, 1) := by decide +kernel
theorem dL_juggler_9 : decode cL_juggler 9 = .ok (.lastore, 1) := by decide +kernel
theorem dL_juggler_10 : decode cL_juggler 10 = .ok (.goto 7, 3) := by decide +kernel
theorem dL_juggler_13 : decode cL_juggler 13 = .ok (.astore 4, 2) := by decide +kernel
theorem dL_juggler_15 : decode cL_juggler 15 = .ok (.iconst 1, 1) := by decide +kernel
theorem dL_juggler_16 : decode cL_juggler 16 = .ok (.ireturn, 1) := by decide +kernel
theorem dL_juggler_17 : decode cL_juggler 17 = .ok (.iconst 0, 1) := by decide +kernel
theorem dL_juggler_18 : decode cL_juggler 18 = .ok (.ireturn, 1) := by decide +kernel
theorem dL_lasts_0 : decode cL_lasts 0 = .ok (.aload_n 2, 1) := by decide +kernel
theorem dL_lasts_1 : decode cL_lasts 1 = .ok (.iconst 0, 1) := by decide +kernel
theorem dL_lasts_2 : decode cL_lasts 2 = .ok (.aload_n 0, 1) := by decide +kernel
theorem dL_lasts_3 : decode cL_lasts 3 = .ok (.iload_n 1, 1) := by decide +kernel
theorem dL_lasts_4 : decode cL_lasts 4 = .ok (.invokevirtual 42, 3) := by decide +kernel
theorem dL_lasts_7 : decode cL_lasts 7 = .ok (.ifCond .eq 7, 3) := by decide +kernel
theorem dL_lasts_10 : decode cL_lasts 10 = .ok (.lconst 1, 1) := by decide +kernel
theorem dL_lasts_11 : decode cL_lasts 11 = .ok (.goto 4, 3) := by decide +kernel
theorem dL_lasts_14 : decode cL_lasts 14 = .ok (.lconst 0, 1) := by decide +kernel
theorem dL_lasts_15 : decode cL_lasts 15 = .ok (.lastore, 1) := by decide +kernel
theorem dL_lasts_16 : decode cL_lasts 16 = .ok (.goto 6, 3) := by decide +kernel
theorem dL_lasts_19 : decode cL_lasts 19 = .ok (.astore_n 3, 1) := by decide +kernel
theorem dL_lasts_20 : decode cL_lasts 20 = .ok (.iconst 1, 1) := by decide +kernel
theorem dL_lasts_21 : decode cL_lasts 21 = .ok (.ireturn, 1) := by decide +kernel
theorem dL_lasts_22 : decode cL_lasts 22 = .ok (.iconst 0, 1) := by decide +kernel
theorem dL_lasts_23 : decode cL_lasts 23 = .ok (.ireturn, 1) := by decide +kernel
theorem dL_asks_0 : decode cL_asks 0 = .ok (.aload_n 2, 1) := by decide +kernel
theorem dL_asks_1 : decode cL_asks 1 = .ok (.iconst 0, 1) := by decide +kernel
theorem dL_asks_2 : decode cL_asks 2 = .ok (.aload_n 0, 1) := by decide +kernel
theorem dL_asks_3 : decode cL_asks 3 = .ok (.iload_n 1, 1) := by decide +kernel
theorem dL_asks_4 : decode cL_asks 4 = .ok (.invokevirtual 46, 3) := by decide +kernel
theorem dL_asks_7 : decode cL_asks 7 = .ok (.i2l, 1) := by decide +kernel
theorem dL_asks_8 : decode cL_asks 8 = .ok (.lastore, 1) := by decide +kernel
theorem dL_asks_9 : decode cL_asks 9 = .ok (.goto 6, 3) := by decide +kernel
theorem dL_asks_12 : decode cL_asks 12 = .ok (.astore_n 3, 1) := by decide +kernel
theorem dL_asks_13 : decode cL_asks 13 = .ok (.iconst 1, 1) := by decide +kernel
theorem dL_asks_14 : decode cL_asks 14 = .ok (.ireturn, 1) := by decide +kernel
theorem dL_asks_15 : decode cL_asks 15 = .ok (.iconst 0, 1) := by decide +kernel
theorem dL_asks_16 : decode cL_asks 16 = .ok (.ireturn, 1) := by decide +kernel
theorem dL_shortest_0 : decode cL_shortest 0 = .ok (.aload_n 2, 1) := by decide +kernel
theorem dL_shortest_1 : decode cL_shortest 1 = .ok (.iconst 0, 1) := by decide +kernel
theorem dL_shortest_2 : decode cL_shortest 2 = .ok (.aload_n 0, 1) := by decide +kernel
theorem dL_shortest_3 : decode cL_shortest 3 = .ok (.iload_n 1, 1) := by decide +kernel
theorem dL_shortest_4 : decode cL_shortest 4 = .ok (.invokevirtual 49, 3) := by decide +kernel
theorem dL_shortest_7 : decode cL_shortest 7 = .ok (.i2l, 1) := by decide +kernel
theorem dL_shortest_8 : decode cL_shortest 8 = .ok (.lastore, 1) := by decide +kernel
theorem dL_shortest_9 : decode cL_shortest 9 = .ok (.goto 6, 3) := by decide +kernel
theorem dL_shortest_12 : decode cL_shortest 12 = .ok (.astore_n 3, 1) := by decide +kernel
theorem dL_shortest_13 : decode cL_shortest 13 = .ok (.iconst 1, 1) := by decide +kernel
theorem dL_shortest_14 : decode cL_shortest 14 = .ok (.ireturn, 1) := by decide +kernel
theorem dL_shortest_15 : decode cL_shortest 15 = .ok (.iconst 0, 1) := by decide +kernel
theorem dL_shortest_16 : decode cL_shortest 16 = .ok (.ireturn, 1) := by decide +kernel
theorem dL_go_0 : decode cL_go 0 = .ok (.aload_n 2, 1) := by decide +kernel
theorem dL_go_1 : decode cL_go 1 = .ok (.iconst 0, 1) := by decide +kernel
theorem dL_go_2 : decode cL_go 2 = .ok (.aload_n 0, 1) := by decide +kernel
theorem dL_go_3 : decode cL_go 3 = .ok (.iload_n 1, 1) := by decide +kernel
theorem dL_go_4 : decode cL_go 4 = .ok (.invokevirtual 52, 3) := by decide +kernel
theorem dL_go_7 : decode cL_go 7 = .ok (.i2l, 1) := by decide +kernel
theorem dL_go_8 : decode cL_go 8 = .ok (.lastore, 1) := by decide +kernel
theorem dL_go_9 : decode cL_go 9 = .ok (.goto 6, 3) := by decide +kernel
theorem dL_go_12 : decode cL_go 12 = .ok (.astore_n 3, 1) := by decide +kernel
theorem dL_go_13 : decode cL_go 13 = .ok (.iconst 1, 1) := by decide +kernel
theorem dL_go_14 : decode cL_go 14 = .ok (.ireturn, 1) := by decide +kernel
theorem dL_go_15 : decode cL_go 15 = .ok (.iconst 0, 1) := by decide +kernel
theorem dL_go_16 : decode cL_go 16 = .ok (.ireturn, 1) := by decide +kernel
theorem dL_count_0 : decode cL_count 0 = .ok (.aload_n 2, 1) := by decide +kernel
theorem dL_count_1 : decode cL_count 1 = .ok (.iconst 0, 1) := by decide +kernel
theorem dL_count_2 : decode cL_count 2 = .ok (.aload_n 0, 1) := by decide +kernel
theorem dL_count_3 : decode cL_count 3 = .ok (.iload_n 1, 1) := by decide +kernel
theorem dL_count_4 : decode cL_count 4 = .ok (.invokevirtual 55, 3) := by decide +kernel
theorem dL_count_7 : decode cL_count 7 = .ok (.i2l, 1) := by decide +kernel
theorem dL_count_8 : decode cL_count 8 = .ok (.lastore, 1) := by decide +kernel
theorem dL_count_9 : decode cL_count 9 = .ok (.goto 6, 3) := by decide +kernel
theorem dL_count_12 : decode cL_count 12 = .ok (.astore_n 3, 1) := by decide +kernel
theorem dL_count_13 : decode cL_count 13 = .ok (.iconst 1, 1) := by decide +kernel
theorem dL_count_14 : decode cL_count 14 = .ok (.ireturn, 1) := by decide +kernel
theorem dL_count_15 : decode cL_count 15 = .ok (.iconst 0, 1) := by decide +kernel
theorem dL_count_16 : decode cL_count 16 = .ok (.ireturn, 1) := by decide +kernel
theorem dL_foresee_0 : decode cL_foresee 0 = .ok (.aload_n 3, 1) := by decide +kernel
theorem dL_foresee_1 : decode cL_foresee 1 = .ok (.iconst 0, 1) := by decide +kernel
theorem dL_foresee_2 : decode cL_foresee 2 = .ok (.aload_n 0, 1) := by decide +kernel
theorem dL_foresee_3 : decode cL_foresee 3 = .ok (.iload_n 1, 1) := by decide +kernel
theorem dL_foresee_4 : decode cL_foresee 4 = .ok (.iload_n 2, 1) := by decide +kernel
theorem dL_foresee_5 : decode cL_foresee 5 = .ok (.invokevirtual 58, 3) := by decide +kernel
theorem dL_foresee_8 : decode cL_foresee 8 = .ok (.i2l, 1) := by decide +kernel
theorem dL_foresee_9 : decode cL_foresee 9 = .ok (.lastore, 1) := by decide +kernel
theorem dL_foresee_10 : decode cL_foresee 10 = .ok (.goto 11, 3) := by decide +kernel
theorem dL_foresee_13 : decode cL_foresee 13 = .ok (.astore 4, 2) := by decide +kernel
theorem dL_foresee_15 : decode cL_foresee 15 = .ok (.iconst 1, 1) := by decide +kernel
theorem dL_foresee_16 : decode cL_foresee 16 = .ok (.ireturn, 1) := by decide +kernel
theorem dL_foresee_17 : decode cL_foresee 17 = .ok (.astore 4, 2) := by decide +kernel
theorem dL_foresee_19 : decode cL_foresee 19 = .ok (.iconst 2, 1) := by decide +kernel
theorem dL_foresee_20 : decode cL_foresee 20 = .ok (.ireturn, 1) := by decide +kernel
theorem dL_foresee_21 : decode cL_foresee 21 = .ok (.iconst 0, 1) := by decide +kernel
theorem dL_foresee_22 : decode cL_foresee 22 = .ok (.ireturn, 1) := by decide +kernel
theorem dL_advise_0 : decode cL_advise 0 = .ok (.aload_n 3, 1) := by decide +kernel
theorem dL_advise_1 : decode cL_advise 1 = .ok (.iconst 0, 1) := by decide +kernel
theorem dL_advise_2 : decode cL_advise 2 = .ok (.aload_n 0, 1) := by decide +kernel
theorem dL_advise_3 : decode cL_advise 3 = .ok (.iload_n 1, 1) := by decide +kernel
theorem dL_advise_4 : decode cL_advise 4 = .ok (.iload_n 2, 1) := by decide +kernel
theorem dL_advise_5 : decode cL_advise 5 = .ok (.invokevirtual 61, 3) := by decide +kernel
theorem dL_advise_8 : decode cL_advise 8 = .ok (.i2l, 1) := by decide +kernel
theorem dL_advise_9 : decode cL_advise 9 = .ok (.lastore, 1) := by decide +kernel
theorem dL_advise_10 : decode cL_advise 10 = .ok (.goto 11, 3) := by decide +kernel
theorem dL_advise_13 : decode cL_advise 13 = .ok (.astore 4, 2) := by decide +kernel
theorem dL_advise_15 : decode cL_advise 15 = .ok (.iconst 1, 1) := by decide +kernel
theorem dL_advise_16 : decode cL_advise 16 = .ok (.ireturn, 1) := by decide +kernel
theorem dL_advise_17 : decode cL_advise 17 = .ok (.astore 4, 2) := by decide +kernel
theorem dL_advise_19 : decode cL_advise 19 = .ok (.iconst 2, 1) := by decide +kernel
theorem dL_advise_20 : decode cL_advise 20 = .ok (.ireturn, 1) := by decide +kernel
theorem dL_advise_21 : decode cL_advise 21 = .ok (.iconst 0, 1) := by decide +kernel
theorem dL_advise_22 : decode cL_advise 22 = .ok (.ireturn, 1) := by decide +kernel
end
section
theorem dL_law_0 : decode cL_law 0 = .ok (.new 8, 3) := by decide +kernel
theorem dL_law_3 : decode cL_law 3 = .ok (.dup, 1) := by decide +kernel
theorem dL_law_4 : decode cL_law 4 = .ok (.invokespecial 64, 3) := by decide +kernel
theorem dL_law_7 : decode cL_law 7 = .ok (.astore_n 1, 1) := by decide +kernel
theorem dL_law_8 : decode cL_law 8 = .ok (.new 65, 3) := by decide +kernel
theorem dL_law_11 : decode cL_law 11 = .ok (.dup, 1) := by decide +kernel
theorem dL_law_12 : decode cL_law 12 = .ok (.invokespecial 67, 3) := by decide +kernel
theorem dL_law_15 : decode cL_law 15 = .ok (.astore_n 2, 1) := by decide +kernel
theorem dL_law_16 : decode cL_law 16 = .ok (.iconst 1, 1) := by decide +kernel
theorem dL_law_17 : decode cL_law 17 = .ok (.newarray .long, 2) := by decide +kernel
theorem dL_law_19 : decode cL_law 19 = .ok (.astore_n 3, 1) := by decide +kernel
theorem dL_law_20 : decode cL_law 20 = .ok (.iconst 0, 1) := by decide +kernel
theorem dL_law_21 : decode cL_law 21 = .ok (.istore 4, 2) := by decide +kernel
theorem dL_law_23 : decode cL_law 23 = .ok (.iload 4, 2) := by decide +kernel
theorem dL_law_25 : decode cL_law 25 = .ok (.aload_n 0, 1) := by decide +kernel
theorem dL_law_26 : decode cL_law 26 = .ok (.arraylength, 1) := by decide +kernel
theorem dL_law_27 : decode cL_law 27 = .ok (.iconst 4, 1) := by decide +kernel
theorem dL_law_28 : decode cL_law 28 = .ok (.isub, 1) := by decide +kernel
theorem dL_law_29 : decode cL_law 29 = .ok (.if_icmp .gt 1160, 3) := by decide +kernel
theorem dL_law_32 : decode cL_law 32 = .ok (.aload_n 0, 1) := by decide +kernel
theorem dL_law_33 : decode cL_law 33 = .ok (.iload 4, 2) := by decide +kernel
theorem dL_law_35 : decode cL_law 35 = .ok (.iaload, 1) := by decide +kernel
theorem dL_law_36 : decode cL_law 36 = .ok (.bipush 31, 2) := by decide +kernel
theorem dL_law_38 : decode cL_law 38 = .ok (.iand, 1) := by decide +kernel
theorem dL_law_39 : decode cL_law 39 = .ok (.tableswitch 1144 0 17 #[85, 141, 221, 301, 381, 437, 517, 585, 653, 716, 772, 828, 884, 940, 953, 1021, 1089, 1130], 85) := by decide +kernel
theorem dL_law_124 : decode cL_law 124 = .ok (.aload_n 1, 1) := by decide +kernel
theorem dL_law_125 : decode cL_law 125 = .ok (.aload_n 0, 1) := by decide +kernel
theorem dL_law_126 : decode cL_law 126 = .ok (.iload 4, 2) := by decide +kernel
theorem dL_law_128 : decode cL_law 128 = .ok (.iconst 1, 1) := by decide +kernel
theorem dL_law_129 : decode cL_law 129 = .ok (.iadd, 1) := by decide +kernel
theorem dL_law_130 : decode cL_law 130 = .ok (.iaload, 1) := by decide +kernel
theorem dL_law_131 : decode cL_law 131 = .ok (.aload_n 3, 1) := by decide +kernel
theorem dL_law_132 : decode cL_law 132 = .ok (.invokestatic 68, 3) := by decide +kernel
theorem dL_law_135 : decode cL_law 135 = .ok (.istore 5, 2) := by decide +kernel
theorem dL_law_137 : decode cL_law 137 = .ok (.aload_n 2, 1) := by decide +kernel
theorem dL_law_138 : decode cL_law 138 = .ok (.aload_n 0, 1) := by decide +kernel
theorem dL_law_139 : decode cL_law 139 = .ok (.iload 4, 2) := by decide +kernel
theorem dL_law_141 : decode cL_law 141 = .ok (.iconst 1, 1) := by decide +kernel
theorem dL_law_142 : decode cL_law 142 = .ok (.iadd, 1) := by decide +kernel
theorem dL_law_143 : decode cL_law 143 = .ok (.iaload, 1) := by decide +kernel
theorem dL_law_144 : decode cL_law 144 = .ok (.invokevirtual 73, 3) := by decide +kernel
theorem dL_law_147 : decode cL_law 147 = .ok (.istore 6, 2) := by decide +kernel
theorem dL_law_149 : decode cL_law 149 = .ok (.aload_n 2, 1) := by decide +kernel
theorem dL_law_150 : decode cL_law 150 = .ok (.invokevirtual 74, 3) := by decide +kernel
theorem dL_law_153 : decode cL_law 153 = .ok (.iload 5, 2) := by decide +kernel
theorem dL_law_155 : decode cL_law 155 = .ok (.if_icmp .eq 5, 3) := by decide +kernel
theorem dL_law_158 : decode cL_law 158 = .ok (.iconst 0, 1) := by decide +kernel
theorem dL_law_159 : decode cL_law 159 = .ok (.ireturn, 1) := by decide +kernel
theorem dL_law_160 : decode cL_law 160 = .ok (.iload 5, 2) := by decide +kernel
theorem dL_law_162 : decode cL_law 162 = .ok (.ifCond .ne 15, 3) := by decide +kernel
theorem dL_law_165 : decode cL_law 165 = .ok (.aload_n 3, 1) := by decide +kernel
theorem dL_law_166 : decode cL_law 166 = .ok (.iconst 0, 1) := by decide +kernel
theorem dL_law_167 : decode cL_law 167 = .ok (.laload, 1) := by decide +kernel
theorem dL_law_168 : decode cL_law 168 = .ok (.iload 6, 2) := by decide +kernel
theorem dL_law_170 : decode cL_law 170 = .ok (.i2l, 1) := by decide +kernel
theorem dL_law_171 : decode cL_law 171 = .ok (.lcmp, 1) := by decide +kernel
theorem dL_law_172 : decode cL_law 172 = .ok (.ifCond .eq 5, 3) := by decide +kernel
theorem dL_law_175 : decode cL_law 175 = .ok (.iconst 0, 1) := by decide +kernel
theorem dL_law_176 : decode cL_law 176 = .ok (.ireturn, 1) := by decide +kernel
theorem dL_law_177 : decode cL_law 177 = .ok (.goto 1006, 3) := by decide +kernel
theorem dL_law_180 : decode cL_law 180 = .ok (.aload_n 1, 1) := by decide +kernel
theorem dL_law_181 : decode cL_law 181 = .ok (.aload_n 0, 1) := by decide +kernel
theorem dL_law_182 : decode cL_law 182 = .ok (.iload 4, 2) := by decide +kernel
theorem dL_law_184 : decode cL_law 184 = .ok (.iconst 1, 1) := by decide +kernel
theorem dL_law_185 : decode cL_law 185 = .ok (.iadd, 1) := by decide +kernel
theorem dL_law_186 : decode cL_law 186 = .ok (.iaload, 1) := by decide +kernel
theorem dL_law_187 : decode cL_law 187 = .ok (.aload_n 0, 1) := by decide +kernel
theorem dL_law_188 : decode cL_law 188 = .ok (.iload 4, 2) := by decide +kernel
theorem dL_law_190 : decode cL_law 190 = .ok (.iconst 2, 1) := by decide +kernel
theorem dL_law_191 : decode cL_law 191 = .ok (.iadd, 1) := by decide +kernel
theorem dL_law_192 : decode cL_law 192 = .ok (.iaload, 1) := by decide +kernel
theorem dL_law_193 : decode cL_law 193 = .ok (.aload_n 0, 1) := by decide +kernel
theorem dL_law_194 : decode cL_law 194 = .ok (.iload 4, 2) := by decide +kernel
theorem dL_law_196 : decode cL_law 196 = .ok (.iconst 3, 1) := by decide +kernel
theorem dL_law_197 : decode cL_law 197 = .ok (.iadd, 1) := by decide +kernel
theorem dL_law_198 : decode cL_law 198 = .ok (.iaload, 1) := by decide +kernel
theorem dL_law_199 : decode cL_law 199 = .ok (.aload_n 3, 1) := by decide +kernel
theorem dL_law_200 : decode cL_law 200 = .ok (.invokestatic 78, 3) := by decide +kernel
theorem dL_law_203 : decode cL_law 203 = .ok (.istore 5, 2) := by decide +kernel
theorem dL_law_205 : decode cL_law 205 = .ok (.aload_n 2, 1) := by decide +kernel
theorem dL_law_206 : decode cL_law 206 = .ok (.aload_n 0, 1) := by decide +kernel
theorem dL_law_207 : decode cL_law 207 = .ok (.iload 4, 2) := by decide +kernel
theorem dL_law_209 : decode cL_law 209 = .ok (.iconst 1, 1) := by decide +kernel
theorem dL_law_210 : decode cL_law 210 = .ok (.iadd, 1) := by decide +kernel
theorem dL_law_211 : decode cL_law 211 = .ok (.iaload, 1) := by decide +kernel
theorem dL_law_212 : decode cL_law 212 = .ok (.aload_n 0, 1) := by decide +kernel
theorem dL_law_213 : decode cL_law 213 = .ok (.iload 4, 2) := by decide +kernel
theorem dL_law_215 : decode cL_law 215 = .ok (.iconst 2, 1) := by decide +kernel
theorem dL_law_216 : decode cL_law 216 = .ok (.iadd, 1) := by decide +kernel
theorem dL_law_217 : decode cL_law 217 = .ok (.iaload, 1) := by decide +kernel
theorem dL_law_218 : decode cL_law 218 = .ok (.aload_n 0, 1) := by decide +kernel
theorem dL_law_219 : decode cL_law 219 = .ok (.iload 4, 2) := by decide +kernel
theorem dL_law_221 : decode cL_law 221 = .ok (.iconst 3, 1) := by decide +kernel
theorem dL_law_222 : decode cL_law 222 = .ok (.iadd, 1) := by decide +kernel
theorem dL_law_223 : decode cL_law 223 = .ok (.iaload, 1) := by decide +kernel
theorem dL_law_224 : decode cL_law 224 = .ok (.invokevirtual 81, 3) := by decide +kernel
theorem dL_law_227 : decode cL_law 227 = .ok (.istore 6, 2) := by decide +kernel
theorem dL_law_229 : decode cL_law 229 = .ok (.aload_n 2, 1) := by decide +kernel
theorem dL_law_230 : decode cL_law 230 = .ok (.invokevirtual 74, 3) := by decide +kernel
theorem dL_law_233 : decode cL_law 233 = .ok (.iload 5, 2) := by decide +kernel
theorem dL_law_235 : decode cL_law 235 = .ok (.if_icmp .eq 5, 3) := by decide +kernel
theorem dL_law_238 : decode cL_law 238 = .ok (.iconst 0, 1) := by decide +kernel
theorem dL_law_239 : decode cL_law 239 = .ok (.ireturn, 1) := by decide +kernel
theorem dL_law_240 : decode cL_law 240 = .ok (.iload 5, 2) := by decide +kernel
theorem dL_law_242 : decode cL_law 242 = .ok (.ifCond .ne 15, 3) := by decide +kernel
theorem dL_law_245 : decode cL_law 245 = .ok (.aload_n 3, 1) := by decide +kernel
theorem dL_law_246 : decode cL_law 246 = .ok (.iconst 0, 1) := by decide +kernel
theorem dL_law_247 : decode cL_law 247 = .ok (.laload, 1) := by decide +kernel
theorem dL_law_248 : decode cL_law 248 = .ok (.iload 6, 2) := by decide +kernel
theorem dL_law_250 : decode cL_law 250 = .ok (.i2l, 1) := by decide +kernel
theorem dL_law_251 : decode cL_law 251 = .ok (.lcmp, 1) := by decide +kernel
theorem dL_law_252 : decode cL_law 252 = .ok (.ifCond .eq 5, 3) := by decide +kernel
theorem dL_law_255 : decode cL_law 255 = .ok (.iconst 0, 1) := by decide +kernel
theorem dL_law_256 : decode cL_law 256 = .ok (.ireturn, 1) := by decide +kernel
theorem dL_law_257 : decode cL_law 257 = .ok (.goto 926, 3) := by decide +kernel
theorem dL_law_260 : decode cL_law 260 = .ok (.aload_n 1, 1) := by decide +kernel
theorem dL_law_261 : decode cL_law 261 = .ok (.aload_n 0, 1) := by decide +kernel
theorem dL_law_262 : decode cL_law 262 = .ok (.iload 4, 2) := by decide +kernel
theorem dL_law_264 : decode cL_law 264 = .ok (.iconst 1, 1) := by decide +kernel
theorem dL_law_265 : decode cL_law 265 = .ok (.iadd, 1) := by decide +kernel
theorem dL_law_266 : decode cL_law 266 = .ok (.iaload, 1) := by decide +kernel
theorem dL_law_267 : decode cL_law 267 = .ok (.aload_n 0, 1) := by decide +kernel
theorem dL_law_268 : decode cL_law 268 = .ok (.iload 4, 2) := by decide +kernel
theorem dL_law_270 : decode cL_law 270 = .ok (.iconst 2, 1) := by decide +kernel
theorem dL_law_271 : decode cL_law 271 = .ok (.iadd, 1) := by decide +kernel
theorem dL_law_272 : decode cL_law 272 = .ok (.iaload, 1) := by decide +kernel
theorem dL_law_273 : decode cL_law 273 = .ok (.aload_n 0, 1) := by decide +kernel
theorem dL_law_274 : decode cL_law 274 = .ok (.iload 4, 2) := by decide +kernel
theorem dL_law_276 : decode cL_law 276 = .ok (.iconst 3, 1) := by decide +kernel
theorem dL_law_277 : decode cL_law 277 = .ok (.iadd, 1) := by decide +kernel
theorem dL_law_278 : decode cL_law 278 = .ok (.iaload, 1) := by decide +kernel
theorem dL_law_279 : decode cL_law 279 = .ok (.aload_n 3, 1) := by decide +kernel
theorem dL_law_280 : decode cL_law 280 = .ok (.invokestatic 82, 3) := by decide +kernel
theorem dL_law_283 : decode cL_law 283 = .ok (.istore 5, 2) := by decide +kernel
theorem dL_law_285 : decode cL_law 285 = .ok (.aload_n 2, 1) := by decide +kernel
theorem dL_law_286 : decode cL_law 286 = .ok (.aload_n 0, 1) := by decide +kernel
theorem dL_law_287 : decode cL_law 287 = .ok (.iload 4, 2) := by decide +kernel
theorem dL_law_289 : decode cL_law 289 = .ok (.iconst 1, 1) := by decide +kernel
theorem dL_law_290 : decode cL_law 290 = .ok (.iadd, 1) := by decide +kernel
theorem dL_law_291 : decode cL_law 291 = .ok (.iaload, 1) := by decide +kernel
theorem dL_law_292 : decode cL_law 292 = .ok (.aload_n 0, 1) := by decide +kernel
theorem dL_law_293 : decode cL_law 293 = .ok (.iload 4, 2) := by decide +kernel
theorem dL_law_295 : decode cL_law 295 = .ok (.iconst 2, 1) := by decide +kernel
theorem dL_law_296 : decode cL_law 296 = .ok (.iadd, 1) := by decide +kernel
theorem dL_law_297 : decode cL_law 297 = .ok (.iaload, 1) := by decide +kernel
theorem dL_law_298 : decode cL_law 298 = .ok (.aload_n 0, 1) := by decide +kernel
theorem dL_law_299 : decode cL_law 299 = .ok (.iload 4, 2) := by decide +kernel
theorem dL_law_301 : decode cL_law 301 = .ok (.iconst 3, 1) := by decide +kernel
theorem dL_law_302 : decode cL_law 302 = .ok (.iadd, 1) := by decide +kernel
theorem dL_law_303 : decode cL_law 303 = .ok (.iaload, 1) := by decide +kernel
theorem dL_law_304 : decode cL_law 304 = .ok (.invokevirtual 84, 3) := by decide +kernel
theorem dL_law_307 : decode cL_law 307 = .ok (.istore 6, 2) := by decide +kernel
theorem dL_law_309 : decode cL_law 309 = .ok (.aload_n 2, 1) := by decide +kernel
theorem dL_law_310 : decode cL_law 310 = .ok (.invokevirtual 74, 3) := by decide +kernel
theorem dL_law_313 : decode cL_law 313 = .ok (.iload 5, 2) := by decide +kernel
theorem dL_law_315 : decode cL_law 315 = .ok (.if_icmp .eq 5, 3) := by decide +kernel
theorem dL_law_318 : decode cL_law 318 = .ok (.iconst 0, 1) := by decide +kernel
theorem dL_law_319 : decode cL_law 319 = .ok (.ireturn, 1) := by decide +kernel
theorem dL_law_320 : decode cL_law 320 = .ok (.iload 5, 2) := by decide +kernel
theorem dL_law_322 : decode cL_law 322 = .ok (.ifCond .ne 15, 3) := by decide +kernel
theorem dL_law_325 : decode cL_law 325 = .ok (.aload_n 3, 1) := by decide +kernel
theorem dL_law_326 : decode cL_law 326 = .ok (.iconst 0, 1) := by decide +kernel
theorem dL_law_327 : decode cL_law 327 = .ok (.laload, 1) := by decide +kernel
theorem dL_law_328 : decode cL_law 328 = .ok (.iload 6, 2) := by decide +kernel
theorem dL_law_330 : decode cL_law 330 = .ok (.i2l, 1) := by decide +kernel
theorem dL_law_331 : decode cL_law 331 = .ok (.lcmp, 1) := by decide +kernel
theorem dL_law_332 : decode cL_law 332 = .ok (.ifCond .eq 5, 3) := by decide +kernel
theorem dL_law_335 : decode cL_law 335 = .ok (.iconst 0, 1) := by decide +kernel
theorem dL_law_336 : decode cL_law 336 = .ok (.ireturn, 1) := by decide +kernel
theorem dL_law_337 : decode cL_law 337 = .ok (.goto 846, 3) := by decide +kernel
theorem dL_law_340 : decode cL_law 340 = .ok (.aload_n 1, 1) := by decide +kernel
theorem dL_law_341 : decode cL_law 341 = .ok (.aload_n 0, 1) := by decide +kernel
theorem dL_law_342 : decode cL_law 342 = .ok (.iload 4, 2) := by decide +kernel
theorem dL_law_344 : decode cL_law 344 = .ok (.iconst 1, 1) := by decide +kernel
theorem dL_law_345 : decode cL_law 345 = .ok (.iadd, 1) := by decide +kernel
theorem dL_law_346 : decode cL_law 346 = .ok (.iaload, 1) := by decide +kernel
theorem dL_law_347 : decode cL_law 347 = .ok (.aload_n 0, 1) := by decide +kernel
theorem dL_law_348 : decode cL_law 348 = .ok (.iload 4, 2) := by decide +kernel
theorem dL_law_350 : decode cL_law 350 = .ok (.iconst 2, 1) := by decide +kernel
theorem dL_law_351 : decode cL_law 351 = .ok (.iadd, 1) := by decide +kernel
theorem dL_law_352 : decode cL_law 352 = .ok (.iaload, 1) := by decide +kernel
theorem dL_law_353 : decode cL_law 353 = .ok (.aload_n 0, 1) := by decide +kernel
theorem dL_law_354 : decode cL_law 354 = .ok (.iload 4, 2) := by decide +kernel
theorem dL_law_356 : decode cL_law 356 = .ok (.iconst 3, 1) := by decide +kernel
theorem dL_law_357 : decode cL_law 357 = .ok (.iadd, 1) := by decide +kernel
theorem dL_law_358 : decode cL_law 358 = .ok (.iaload, 1) := by decide +kernel
theorem dL_law_359 : decode cL_law 359 = .ok (.aload_n 3, 1) := by decide +kernel
theorem dL_law_360 : decode cL_law 360 = .ok (.invokestatic 85, 3) := by decide +kernel
theorem dL_law_363 : decode cL_law 363 = .ok (.istore 5, 2) := by decide +kernel
theorem dL_law_365 : decode cL_law 365 = .ok (.aload_n 2, 1) := by decide +kernel
theorem dL_law_366 : decode cL_law 366 = .ok (.aload_n 0, 1) := by decide +kernel
theorem dL_law_367 : decode cL_law 367 = .ok (.iload 4, 2) := by decide +kernel
theorem dL_law_369 : decode cL_law 369 = .ok (.iconst 1, 1) := by decide +kernel
theorem dL_law_370 : decode cL_law 370 = .ok (.iadd, 1) := by decide +kernel
theorem dL_law_371 : decode cL_law 371 = .ok (.iaload, 1) := by decide +kernel
theorem dL_law_372 : decode cL_law 372 = .ok (.aload_n 0, 1) := by decide +kernel
theorem dL_law_373 : decode cL_law 373 = .ok (.iload 4, 2) := by decide +kernel
theorem dL_law_375 : decode cL_law 375 = .ok (.iconst 2, 1) := by decide +kernel
theorem dL_law_376 : decode cL_law 376 = .ok (.iadd, 1) := by decide +kernel
theorem dL_law_377 : decode cL_law 377 = .ok (.iaload, 1) := by decide +kernel
theorem dL_law_378 : decode cL_law 378 = .ok (.aload_n 0, 1) := by decide +kernel
theorem dL_law_379 : decode cL_law 379 = .ok (.iload 4, 2) := by decide +kernel
theorem dL_law_381 : decode cL_law 381 = .ok (.iconst 3, 1) := by decide +kernel
theorem dL_law_382 : decode cL_law 382 = .ok (.iadd, 1) := by decide +kernel
theorem dL_law_383 : decode cL_law 383 = .ok (.iaload, 1) := by decide +kernel
theorem dL_law_384 : decode cL_law 384 = .ok (.invokevirtual 87, 3) := by decide +kernel
theorem dL_law_387 : decode cL_law 387 = .ok (.istore 6, 2) := by decide +kernel
theorem dL_law_389 : decode cL_law 389 = .ok (.aload_n 2, 1) := by decide +kernel
theorem dL_law_390 : decode cL_law 390 = .ok (.invokevirtual 74, 3) := by decide +kernel
theorem dL_law_393 : decode cL_law 393 = .ok (.iload 5, 2) := by decide +kernel
theorem dL_law_395 : decode cL_law 395 = .ok (.if_icmp .eq 5, 3) := by decide +kernel
theorem dL_law_398 : decode cL_law 398 = .ok (.iconst 0, 1) := by decide +kernel
theorem dL_law_399 : decode cL_law 399 = .ok (.ireturn, 1) := by decide +kernel
theorem dL_law_400 : decode cL_law 400 = .ok (.iload 5, 2) := by decide +kernel
theorem dL_law_402 : decode cL_law 402 = .ok (.ifCond .ne 15, 3) := by decide +kernel
theorem dL_law_405 : decode cL_law 405 = .ok (.aload_n 3, 1) := by decide +kernel
theorem dL_law_406 : decode cL_law 406 = .ok (.iconst 0, 1) := by decide +kernel
theorem dL_law_407 : decode cL_law 407 = .ok (.laload, 1) := by decide +kernel
theorem dL_law_408 : decode cL_law 408 = .ok (.iload 6, 2) := by decide +kernel
theorem dL_law_410 : decode cL_law 410 = .ok (.i2l, 1) := by decide +kernel
theorem dL_law_411 : decode cL_law 411 = .ok (.lcmp, 1) := by decide +kernel
theorem dL_law_412 : decode cL_law 412 = .ok (.ifCond .eq 5, 3) := by decide +kernel
theorem dL_law_415 : decode cL_law 415 = .ok (.iconst 0, 1) := by decide +kernel
theorem dL_law_416 : decode cL_law 416 = .ok (.ireturn, 1) := by decide +kernel
theorem dL_law_417 : decode cL_law 417 = .ok (.goto 766, 3) := by decide +kernel
theorem dL_law_420 : decode cL_law 420 = .ok (.aload_n 1, 1) := by decide +kernel
theorem dL_law_421 : decode cL_law 421 = .ok (.aload_n 0, 1) := by decide +kernel
theorem dL_law_422 : decode cL_law 422 = .ok (.iload 4, 2) := by decide +kernel
theorem dL_law_424 : decode cL_law 424 = .ok (.iconst 1, 1) := by decide +kernel
theorem dL_law_425 : decode cL_law 425 = .ok (.iadd, 1) := by decide +kernel
theorem dL_law_426 : decode cL_law 426 = .ok (.iaload, 1) := by decide +kernel
theorem dL_law_427 : decode cL_law 427 = .ok (.aload_n 3, 1) := by decide +kernel
theorem dL_law_428 : decode cL_law 428 = .ok (.invokestatic 88, 3) := by decide +kernel
theorem dL_law_431 : decode cL_law 431 = .ok (.istore 5, 2) := by decide +kernel
theorem dL_law_433 : decode cL_law 433 = .ok (.aload_n 2, 1) := by decide +kernel
theorem dL_law_434 : decode cL_law 434 = .ok (.aload_n 0, 1) := by decide +kernel
theorem dL_law_435 : decode cL_law 435 = .ok (.iload 4, 2) := by decide +kernel
theorem dL_law_437 : decode cL_law 437 = .ok (.iconst 1, 1) := by decide +kernel
theorem dL_law_438 : decode cL_law 438 = .ok (.iadd, 1) := by decide +kernel
theorem dL_law_439 : decode cL_law 439 = .ok (.iaload, 1) := by decide +kernel
theorem dL_law_440 : decode cL_law 440 = .ok (.invokevirtual 90, 3) := by decide +kernel
theorem dL_law_443 : decode cL_law 443 = .ok (.istore 6, 2) := by decide +kernel
theorem dL_law_445 : decode cL_law 445 = .ok (.aload_n 2, 1) := by decide +kernel
theorem dL_law_446 : decode cL_law 446 = .ok (.invokevirtual 74, 3) := by decide +kernel
theorem dL_law_449 : decode cL_law 449 = .ok (.iload 5, 2) := by decide +kernel
theorem dL_law_451 : decode cL_law 451 = .ok (.if_icmp .eq 5, 3) := by decide +kernel
theorem dL_law_454 : decode cL_law 454 = .ok (.iconst 0, 1) := by decide +kernel
theorem dL_law_455 : decode cL_law 455 = .ok (.ireturn, 1) := by decide +kernel
theorem dL_law_456 : decode cL_law 456 = .ok (.iload 5, 2) := by decide +kernel
theorem dL_law_458 : decode cL_law 458 = .ok (.ifCond .ne 15, 3) := by decide +kernel
theorem dL_law_461 : decode cL_law 461 = .ok (.aload_n 3, 1) := by decide +kernel
theorem dL_law_462 : decode cL_law 462 = .ok (.iconst 0, 1) := by decide +kernel
theorem dL_law_463 : decode cL_law 463 = .ok (.laload, 1) := by decide +kernel
theorem dL_law_464 : decode cL_law 464 = .ok (.iload 6, 2) := by decide +kernel
theorem dL_law_466 : decode cL_law 466 = .ok (.i2l, 1) := by decide +kernel
theorem dL_law_467 : decode cL_law 467 = .ok (.lcmp, 1) := by decide +kernel
theorem dL_law_468 : decode cL_law 468 = .ok (.ifCond .eq 5, 3) := by decide +kernel
theorem dL_law_471 : decode cL_law 471 = .ok (.iconst 0, 1) := by decide +kernel
theorem dL_law_472 : decode cL_law 472 = .ok (.ireturn, 1) := by decide +kernel
theorem dL_law_473 : decode cL_law 473 = .ok (.goto 710, 3) := by decide +kernel
theorem dL_law_476 : decode cL_law 476 = .ok (.aload_n 1, 1) := by decide +kernel
theorem dL_law_477 : decode cL_law 477 = .ok (.aload_n 0, 1) := by decide +kernel
theorem dL_law_478 : decode cL_law 478 = .ok (.iload 4, 2) := by decide +kernel
theorem dL_law_480 : decode cL_law 480 = .ok (.iconst 1, 1) := by decide +kernel
theorem dL_law_481 : decode cL_law 481 = .ok (.iadd, 1) := by decide +kernel
theorem dL_law_482 : decode cL_law 482 = .ok (.iaload, 1) := by decide +kernel
theorem dL_law_483 : decode cL_law 483 = .ok (.aload_n 0, 1) := by decide +kernel
theorem dL_law_484 : decode cL_law 484 = .ok (.iload 4, 2) := by decide +kernel
theorem dL_law_486 : decode cL_law 486 = .ok (.iconst 2, 1) := by decide +kernel
theorem dL_law_487 : decode cL_law 487 = .ok (.iadd, 1) := by decide +kernel
theorem dL_law_488 : decode cL_law 488 = .ok (.iaload, 1) := by decide +kernel
theorem dL_law_489 : decode cL_law 489 = .ok (.aload_n 0, 1) := by decide +kernel
theorem dL_law_490 : decode cL_law 490 = .ok (.iload 4, 2) := by decide +kernel
theorem dL_law_492 : decode cL_law 492 = .ok (.iconst 3, 1) := by decide +kernel
theorem dL_law_493 : decode cL_law 493 = .ok (.iadd, 1) := by decide +kernel
theorem dL_law_494 : decode cL_law 494 = .ok (.iaload, 1) := by decide +kernel
theorem dL_law_495 : decode cL_law 495 = .ok (.aload_n 3, 1) := by decide +kernel
theorem dL_law_496 : decode cL_law 496 = .ok (.invokestatic 91, 3) := by decide +kernel
theorem dL_law_499 : decode cL_law 499 = .ok (.istore 5, 2) := by decide +kernel
theorem dL_law_501 : decode cL_law 501 = .ok (.aload_n 2, 1) := by decide +kernel
theorem dL_law_502 : decode cL_law 502 = .ok (.aload_n 0, 1) := by decide +kernel
theorem dL_law_503 : decode cL_law 503 = .ok (.iload 4, 2) := by decide +kernel
theorem dL_law_505 : decode cL_law 505 = .ok (.iconst 1, 1) := by decide +kernel
theorem dL_law_506 : decode cL_law 506 = .ok (.iadd, 1) := by decide +kernel
theorem dL_law_507 : decode cL_law 507 = .ok (.iaload, 1) := by decide +kernel
theorem dL_law_508 : decode cL_law 508 = .ok (.aload_n 0, 1) := by decide +kernel
theorem dL_law_509 : decode cL_law 509 = .ok (.iload 4, 2) := by decide +kernel
theorem dL_law_511 : decode cL_law 511 = .ok (.iconst 2, 1) := by decide +kernel
theorem dL_law_512 : decode cL_law 512 = .ok (.iadd, 1) := by decide +kernel
theorem dL_law_513 : decode cL_law 513 = .ok (.iaload, 1) := by decide +kernel
theorem dL_law_514 : decode cL_law 514 = .ok (.aload_n 0, 1) := by decide +kernel
theorem dL_law_515 : decode cL_law 515 = .ok (.iload 4, 2) := by decide +kernel
theorem dL_law_517 : decode cL_law 517 = .ok (.iconst 3, 1) := by decide +kernel
theorem dL_law_518 : decode cL_law 518 = .ok (.iadd, 1) := by decide +kernel
theorem dL_law_519 : decode cL_law 519 = .ok (.iaload, 1) := by decide +kernel
theorem dL_law_520 : decode cL_law 520 = .ok (.invokevirtual 93, 3) := by decide +kernel
theorem dL_law_523 : decode cL_law 523 = .ok (.istore 6, 2) := by decide +kernel
theorem dL_law_525 : decode cL_law 525 = .ok (.aload_n 2, 1) := by decide +kernel
theorem dL_law_526 : decode cL_law 526 = .ok (.invokevirtual 74, 3) := by decide +kernel
theorem dL_law_529 : decode cL_law 529 = .ok (.iload 5, 2) := by decide +kernel
theorem dL_law_531 : decode cL_law 531 = .ok (.if_icmp .eq 5, 3) := by decide +kernel
theorem dL_law_534 : decode cL_law 534 = .ok (.iconst 0, 1) := by decide +kernel
theorem dL_law_535 : decode cL_law 535 = .ok (.ireturn, 1) := by decide +kernel
theorem dL_law_536 : decode cL_law 536 = .ok (.iload 5, 2) := by decide +kernel
theorem dL_law_538 : decode cL_law 538 = .ok (.ifCond .ne 15, 3) := by decide +kernel
theorem dL_law_541 : decode cL_law 541 = .ok (.aload_n 3, 1) := by decide +kernel
theorem dL_law_542 : decode cL_law 542 = .ok (.iconst 0, 1) := by decide +kernel
theorem dL_law_543 : decode cL_law 543 = .ok (.laload, 1) := by decide +kernel
theorem dL_law_544 : decode cL_law 544 = .ok (.iload 6, 2) := by decide +kernel
theorem dL_law_546 : decode cL_law 546 = .ok (.i2l, 1) := by decide +kernel
theorem dL_law_547 : decode cL_law 547 = .ok (.lcmp, 1) := by decide +kernel
theorem dL_law_548 : decode cL_law 548 = .ok (.ifCond .eq 5, 3) := by decide +kernel
theorem dL_law_551 : decode cL_law 551 = .ok (.iconst 0, 1) := by decide +kernel
theorem dL_law_552 : decode cL_law 552 = .ok (.ireturn, 1) := by decide +kernel
theorem dL_law_553 : decode cL_law 553 = .ok (.goto 630, 3) := by decide +kernel
theorem dL_law_556 : decode cL_law 556 = .ok (.aload_n 1, 1) := by decide +kernel
theorem dL_law_557 : decode cL_law 557 = .ok (.aload_n 0, 1) := by decide +kernel
theorem dL_law_558 : decode cL_law 558 = .ok (.iload 4, 2) := by decide +kernel
theorem dL_law_560 : decode cL_law 560 = .ok (.iconst 1, 1) := by decide +kernel
theorem dL_law_561 : decode cL_law 561 = .ok (.iadd, 1) := by decide +kernel
theorem dL_law_562 : decode cL_law 562 = .ok (.iaload, 1) := by decide +kernel
theorem dL_law_563 : decode cL_law 563 = .ok (.aload_n 0, 1) := by decide +kernel
theorem dL_law_564 : decode cL_law 564 = .ok (.iload 4, 2) := by decide +kernel
theorem dL_law_566 : decode cL_law 566 = .ok (.iconst 2, 1) := by decide +kernel
theorem dL_law_567 : decode cL_law 567 = .ok (.iadd, 1) := by decide +kernel
theorem dL_law_568 : decode cL_law 568 = .ok (.iaload, 1) := by decide +kernel
theorem dL_law_569 : decode cL_law 569 = .ok (.aload_n 3, 1) := by decide +kernel
theorem dL_law_570 : decode cL_law 570 = .ok (.invokestatic 94, 3) := by decide +kernel
theorem dL_law_573 : decode cL_law 573 = .ok (.istore 5, 2) := by decide +kernel
theorem dL_law_575 : decode cL_law 575 = .ok (.aload_n 2, 1) := by decide +kernel
theorem dL_law_576 : decode cL_law 576 = .ok (.aload_n 0, 1) := by decide +kernel
theorem dL_law_577 : decode cL_law 577 = .ok (.iload 4, 2) := by decide +kernel
theorem dL_law_579 : decode cL_law 579 = .ok (.iconst 1, 1) := by decide +kernel
theorem dL_law_580 : decode cL_law 580 = .ok (.iadd, 1) := by decide +kernel
theorem dL_law_581 : decode cL_law 581 = .ok (.iaload, 1) := by decide +kernel
theorem dL_law_582 : decode cL_law 582 = .ok (.aload_n 0, 1) := by decide +kernel
theorem dL_law_583 : decode cL_law 583 = .ok (.iload 4, 2) := by decide +kernel
theorem dL_law_585 : decode cL_law 585 = .ok (.iconst 2, 1) := by decide +kernel
theorem dL_law_586 : decode cL_law 586 = .ok (.iadd, 1) := by decide +kernel
theorem dL_law_587 : decode cL_law 587 = .ok (.iaload, 1) := by decide +kernel
theorem dL_law_588 : decode cL_law 588 = .ok (.invokevirtual 97, 3) := by decide +kernel
theorem dL_law_591 : decode cL_law 591 = .ok (.istore 6, 2) := by decide +kernel
theorem dL_law_593 : decode cL_law 593 = .ok (.aload_n 2, 1) := by decide +kernel
theorem dL_law_594 : decode cL_law 594 = .ok (.invokevirtual 74, 3) := by decide +kernel
theorem dL_law_597 : decode cL_law 597 = .ok (.iload 5, 2) := by decide +kernel
theorem dL_law_599 : decode cL_law 599 = .ok (.if_icmp .eq 5, 3) := by decide +kernel
theorem dL_law_602 : decode cL_law 602 = .ok (.iconst 0, 1) := by decide +kernel
theorem dL_law_603 : decode cL_law 603 = .ok (.ireturn, 1) := by decide +kernel
theorem dL_law_604 : decode cL_law 604 = .ok (.iload 5, 2) := by decide +kernel
theorem dL_law_606 : decode cL_law 606 = .ok (.ifCond .ne 15, 3) := by decide +kernel
theorem dL_law_609 : decode cL_law 609 = .ok (.aload_n 3, 1) := by decide +kernel
theorem dL_law_610 : decode cL_law 610 = .ok (.iconst 0, 1) := by decide +kernel
theorem dL_law_611 : decode cL_law 611 = .ok (.laload, 1) := by decide +kernel
theorem dL_law_612 : decode cL_law 612 = .ok (.iload 6, 2) := by decide +kernel
theorem dL_law_614 : decode cL_law 614 = .ok (.i2l, 1) := by decide +kernel
theorem dL_law_615 : decode cL_law 615 = .ok (.lcmp, 1) := by decide +kernel
theorem dL_law_616 : decode cL_law 616 = .ok (.ifCond .eq 5, 3) := by decide +kernel
theorem dL_law_619 : decode cL_law 619 = .ok (.iconst 0, 1) := by decide +kernel
theorem dL_law_620 : decode cL_law 620 = .ok (.ireturn, 1) := by decide +kernel
theorem dL_law_621 : decode cL_law 621 = .ok (.goto 562, 3) := by decide +kernel
theorem dL_law_624 : decode cL_law 624 = .ok (.aload_n 1, 1) := by decide +kernel
theorem dL_law_625 : decode cL_law 625 = .ok (.aload_n 0, 1) := by decide +kernel
theorem dL_law_626 : decode cL_law 626 = .ok (.iload 4, 2) := by decide +kernel
theorem dL_law_628 : decode cL_law 628 = .ok (.iconst 1, 1) := by decide +kernel
theorem dL_law_629 : decode cL_law 629 = .ok (.iadd, 1) := by decide +kernel
theorem dL_law_630 : decode cL_law 630 = .ok (.iaload, 1) := by decide +kernel
theorem dL_law_631 : decode cL_law 631 = .ok (.aload_n 0, 1) := by decide +kernel
theorem dL_law_632 : decode cL_law 632 = .ok (.iload 4, 2) := by decide +kernel
theorem dL_law_634 : decode cL_law 634 = .ok (.iconst 2, 1) := by decide +kernel
theorem dL_law_635 : decode cL_law 635 = .ok (.iadd, 1) := by decide +kernel
theorem dL_law_636 : decode cL_law 636 = .ok (.iaload, 1) := by decide +kernel
theorem dL_law_637 : decode cL_law 637 = .ok (.aload_n 3, 1) := by decide +kernel
theorem dL_law_638 : decode cL_law 638 = .ok (.invokestatic 98, 3) := by decide +kernel
theorem dL_law_641 : decode cL_law 641 = .ok (.istore 5, 2) := by decide +kernel
theorem dL_law_643 : decode cL_law 643 = .ok (.aload_n 2, 1) := by decide +kernel
theorem dL_law_644 : decode cL_law 644 = .ok (.aload_n 0, 1) := by decide +kernel
theorem dL_law_645 : decode cL_law 645 = .ok (.iload 4, 2) := by decide +kernel
theorem dL_law_647 : decode cL_law 647 = .ok (.iconst 1, 1) := by decide +kernel
theorem dL_law_648 : decode cL_law 648 = .ok (.iadd, 1) := by decide +kernel
theorem dL_law_649 : decode cL_law 649 = .ok (.iaload, 1) := by decide +kernel
theorem dL_law_650 : decode cL_law 650 = .ok (.aload_n 0, 1) := by decide +kernel
theorem dL_law_651 : decode cL_law 651 = .ok (.iload 4, 2) := by decide +kernel
theorem dL_law_653 : decode cL_law 653 = .ok (.iconst 2, 1) := by decide +kernel
theorem dL_law_654 : decode cL_law 654 = .ok (.iadd, 1) := by decide +kernel
theorem dL_law_655 : decode cL_law 655 = .ok (.iaload, 1) := by decide +kernel
theorem dL_law_656 : decode cL_law 656 = .ok (.invokevirtual 100, 3) := by decide +kernel
theorem dL_law_659 : decode cL_law 659 = .ok (.istore 6, 2) := by decide +kernel
theorem dL_law_661 : decode cL_law 661 = .ok (.aload_n 2, 1) := by decide +kernel
theorem dL_law_662 : decode cL_law 662 = .ok (.invokevirtual 74, 3) := by decide +kernel
theorem dL_law_665 : decode cL_law 665 = .ok (.iload 5, 2) := by decide +kernel
theorem dL_law_667 : decode cL_law 667 = .ok (.if_icmp .eq 5, 3) := by decide +kernel
theorem dL_law_670 : decode cL_law 670 = .ok (.iconst 0, 1) := by decide +kernel
theorem dL_law_671 : decode cL_law 671 = .ok (.ireturn, 1) := by decide +kernel
theorem dL_law_672 : decode cL_law 672 = .ok (.iload 5, 2) := by decide +kernel
theorem dL_law_674 : decode cL_law 674 = .ok (.ifCond .ne 15, 3) := by decide +kernel
theorem dL_law_677 : decode cL_law 677 = .ok (.aload_n 3, 1) := by decide +kernel
theorem dL_law_678 : decode cL_law 678 = .ok (.iconst 0, 1) := by decide +kernel
theorem dL_law_679 : decode cL_law 679 = .ok (.laload, 1) := by decide +kernel
theorem dL_law_680 : decode cL_law 680 = .ok (.iload 6, 2) := by decide +kernel
theorem dL_law_682 : decode cL_law 682 = .ok (.i2l, 1) := by decide +kernel
theorem dL_law_683 : decode cL_law 683 = .ok (.lcmp, 1) := by decide +kernel
theorem dL_law_684 : decode cL_law 684 = .ok (.ifCond .eq 5, 3) := by decide +kernel
theorem dL_law_687 : decode cL_law 687 = .ok (.iconst 0, 1) := by decide +kernel
theorem dL_law_688 : decode cL_law 688 = .ok (.ireturn, 1) := by decide +kernel
theorem dL_law_689 : decode cL_law 689 = .ok (.goto 494, 3) := by decide +kernel
theorem dL_law_692 : decode cL_law 692 = .ok (.aload_n 1, 1) := by decide +kernel
theorem dL_law_693 : decode cL_law 693 = .ok (.aload_n 0, 1) := by decide +kernel
theorem dL_law_694 : decode cL_law 694 = .ok (.iload 4, 2) := by decide +kernel
theorem dL_law_696 : decode cL_law 696 = .ok (.iconst 1, 1) := by decide +kernel
theorem dL_law_697 : decode cL_law 697 = .ok (.iadd, 1) := by decide +kernel
theorem dL_law_698 : decode cL_law 698 = .ok (.iaload, 1) := by decide +kernel
theorem dL_law_699 : decode cL_law 699 = .ok (.aload_n 3, 1) := by decide +kernel
theorem dL_law_700 : decode cL_law 700 = .ok (.invokestatic 101, 3) := by decide +kernel
theorem dL_law_703 : decode cL_law 703 = .ok (.istore 5, 2) := by decide +kernel
theorem dL_law_705 : decode cL_law 705 = .ok (.aload_n 2, 1) := by decide +kernel
theorem dL_law_706 : decode cL_law 706 = .ok (.aload_n 0, 1) := by decide +kernel
theorem dL_law_707 : decode cL_law 707 = .ok (.iload 4, 2) := by decide +kernel
theorem dL_law_709 : decode cL_law 709 = .ok (.iconst 1, 1) := by decide +kernel
theorem dL_law_710 : decode cL_law 710 = .ok (.iadd, 1) := by decide +kernel
theorem dL_law_711 : decode cL_law 711 = .ok (.iaload, 1) := by decide +kernel
theorem dL_law_712 : decode cL_law 712 = .ok (.invokevirtual 103, 3) := by decide +kernel
theorem dL_law_715 : decode cL_law 715 = .ok (.istore 6, 2) := by decide +kernel
theorem dL_law_717 : decode cL_law 717 = .ok (.aload_n 2, 1) := by decide +kernel
theorem dL_law_718 : decode cL_law 718 = .ok (.invokevirtual 74, 3) := by decide +kernel
theorem dL_law_721 : decode cL_law 721 = .ok (.iload 5, 2) := by decide +kernel
theorem dL_law_723 : decode cL_law 723 = .ok (.if_icmp .eq 5, 3) := by decide +kernel
theorem dL_law_726 : decode cL_law 726 = .ok (.iconst 0, 1) := by decide +kernel
theorem dL_law_727 : decode cL_law 727 = .ok (.ireturn, 1) := by decide +kernel
theorem dL_law_728 : decode cL_law 728 = .ok (.iload 5, 2) := by decide +kernel
theorem dL_law_730 : decode cL_law 730 = .ok (.ifCond .ne 22, 3) := by decide +kernel
theorem dL_law_733 : decode cL_law 733 = .ok (.aload_n 3, 1) := by decide +kernel
theorem dL_law_734 : decode cL_law 734 = .ok (.iconst 0, 1) := by decide +kernel
theorem dL_law_735 : decode cL_law 735 = .ok (.laload, 1) := by decide +kernel
theorem dL_law_736 : decode cL_law 736 = .ok (.iload 6, 2) := by decide +kernel
theorem dL_law_738 : decode cL_law 738 = .ok (.ifCond .eq 7, 3) := by decide +kernel
theorem dL_law_741 : decode cL_law 741 = .ok (.lconst 1, 1) := by decide +kernel
theorem dL_law_742 : decode cL_law 742 = .ok (.goto 4, 3) := by decide +kernel
theorem dL_law_745 : decode cL_law 745 = .ok (.lconst 0, 1) := by decide +kernel
theorem dL_law_746 : decode cL_law 746 = .ok (.lcmp, 1) := by decide +kernel
theorem dL_law_747 : decode cL_law 747 = .ok (.ifCond .eq 5, 3) := by decide +kernel
theorem dL_law_750 : decode cL_law 750 = .ok (.iconst 0, 1) := by decide +kernel
theorem dL_law_751 : decode cL_law 751 = .ok (.ireturn, 1) := by decide +kernel
theorem dL_law_752 : decode cL_law 752 = .ok (.goto 431, 3) := by decide +kernel
theorem dL_law_755 : decode cL_law 755 = .ok (.aload_n 1, 1) := by decide +kernel
theorem dL_law_756 : decode cL_law 756 = .ok (.aload_n 0, 1) := by decide +kernel
theorem dL_law_757 : decode cL_law 757 = .ok (.iload 4, 2) := by decide +kernel
theorem dL_law_759 : decode cL_law 759 = .ok (.iconst 1, 1) := by decide +kernel
theorem dL_law_760 : decode cL_law 760 = .ok (.iadd, 1) := by decide +kernel
theorem dL_law_761 : decode cL_law 761 = .ok (.iaload, 1) := by decide +kernel
theorem dL_law_762 : decode cL_law 762 = .ok (.aload_n 3, 1) := by decide +kernel
theorem dL_law_763 : decode cL_law 763 = .ok (.invokestatic 104, 3) := by decide +kernel
theorem dL_law_766 : decode cL_law 766 = .ok (.istore 5, 2) := by decide +kernel
theorem dL_law_768 : decode cL_law 768 = .ok (.aload_n 2, 1) := by decide +kernel
theorem dL_law_769 : decode cL_law 769 = .ok (.aload_n 0, 1) := by decide +kernel
theorem dL_law_770 : decode cL_law 770 = .ok (.iload 4, 2) := by decide +kernel
theorem dL_law_772 : decode cL_law 772 = .ok (.iconst 1, 1) := by decide +kernel
theorem dL_law_773 : decode cL_law 773 = .ok (.iadd, 1) := by decide +kernel
theorem dL_law_774 : decode cL_law 774 = .ok (.iaload, 1) := by decide +kernel
theorem dL_law_775 : decode cL_law 775 = .ok (.invokevirtual 106, 3) := by decide +kernel
theorem dL_law_778 : decode cL_law 778 = .ok (.istore 6, 2) := by decide +kernel
theorem dL_law_780 : decode cL_law 780 = .ok (.aload_n 2, 1) := by decide +kernel
theorem dL_law_781 : decode cL_law 781 = .ok (.invokevirtual 74, 3) := by decide +kernel
theorem dL_law_784 : decode cL_law 784 = .ok (.iload 5, 2) := by decide +kernel
theorem dL_law_786 : decode cL_law 786 = .ok (.if_icmp .eq 5, 3) := by decide +kernel
theorem dL_law_789 : decode cL_law 789 = .ok (.iconst 0, 1) := by decide +kernel
theorem dL_law_790 : decode cL_law 790 = .ok (.ireturn, 1) := by decide +kernel
theorem dL_law_791 : decode cL_law 791 = .ok (.iload 5, 2) := by decide +kernel
theorem dL_law_793 : decode cL_law 793 = .ok (.ifCond .ne 15, 3) := by decide +kernel
theorem dL_law_796 : decode cL_law 796 = .ok (.aload_n 3, 1) := by decide +kernel
theorem dL_law_797 : decode cL_law 797 = .ok (.iconst 0, 1) := by decide +kernel
theorem dL_law_798 : decode cL_law 798 = .ok (.laload, 1) := by decide +kernel
theorem dL_law_799 : decode cL_law 799 = .ok (.iload 6, 2) := by decide +kernel
theorem dL_law_801 : decode cL_law 801 = .ok (.i2l, 1) := by decide +kernel
theorem dL_law_802 : decode cL_law 802 = .ok (.lcmp, 1) := by decide +kernel
theorem dL_law_803 : decode cL_law 803 = .ok (.ifCond .eq 5, 3) := by decide +kernel
theorem dL_law_806 : decode cL_law 806 = .ok (.iconst 0, 1) := by decide +kernel
theorem dL_law_807 : decode cL_law 807 = .ok (.ireturn, 1) := by decide +kernel
theorem dL_law_808 : decode cL_law 808 = .ok (.goto 375, 3) := by decide +kernel
theorem dL_law_811 : decode cL_law 811 = .ok (.aload_n 1, 1) := by decide +kernel
theorem dL_law_812 : decode cL_law 812 = .ok (.aload_n 0, 1) := by decide +kernel
theorem dL_law_813 : decode cL_law 813 = .ok (.iload 4, 2) := by decide +kernel
theorem dL_law_815 : decode cL_law 815 = .ok (.iconst 1, 1) := by decide +kernel
theorem dL_law_816 : decode cL_law 816 = .ok (.iadd, 1) := by decide +kernel
theorem dL_law_817 : decode cL_law 817 = .ok (.iaload, 1) := by decide +kernel
theorem dL_law_818 : decode cL_law 818 = .ok (.aload_n 3, 1) := by decide +kernel
theorem dL_law_819 : decode cL_law 819 = .ok (.invokestatic 107, 3) := by decide +kernel
theorem dL_law_822 : decode cL_law 822 = .ok (.istore 5, 2) := by decide +kernel
theorem dL_law_824 : decode cL_law 824 = .ok (.aload_n 2, 1) := by decide +kernel
theorem dL_law_825 : decode cL_law 825 = .ok (.aload_n 0, 1) := by decide +kernel
theorem dL_law_826 : decode cL_law 826 = .ok (.iload 4, 2) := by decide +kernel
theorem dL_law_828 : decode cL_law 828 = .ok (.iconst 1, 1) := by decide +kernel
theorem dL_law_829 : decode cL_law 829 = .ok (.iadd, 1) := by decide +kernel
theorem dL_law_830 : decode cL_law 830 = .ok (.iaload, 1) := by decide +kernel
theorem dL_law_831 : decode cL_law 831 = .ok (.invokevirtual 109, 3) := by decide +kernel
theorem dL_law_834 : decode cL_law 834 = .ok (.istore 6, 2) := by decide +kernel
theorem dL_law_836 : decode cL_law 836 = .ok (.aload_n 2, 1) := by decide +kernel
theorem dL_law_837 : decode cL_law 837 = .ok (.invokevirtual 74, 3) := by decide +kernel
theorem dL_law_840 : decode cL_law 840 = .ok (.iload 5, 2) := by decide +kernel
theorem dL_law_842 : decode cL_law 842 = .ok (.if_icmp .eq 5, 3) := by decide +kernel
theorem dL_law_845 : decode cL_law 845 = .ok (.iconst 0, 1) := by decide +kernel
theorem dL_law_846 : decode cL_law 846 = .ok (.ireturn, 1) := by decide +kernel
theorem dL_law_847 : decode cL_law 847 = .ok (.iload 5, 2) := by decide +kernel
theorem dL_law_849 : decode cL_law 849 = .ok (.ifCond .ne 15, 3) := by decide +kernel
theorem dL_law_852 : decode cL_law 852 = .ok (.aload_n 3, 1) := by decide +kernel
theorem dL_law_853 : decode cL_law 853 = .ok (.iconst 0, 1) := by decide +kernel
theorem dL_law_854 : decode cL_law 854 = .ok (.laload, 1) := by decide +kernel
theorem dL_law_855 : decode cL_law 855 = .ok (.iload 6, 2) := by decide +kernel
theorem dL_law_857 : decode cL_law 857 = .ok (.i2l, 1) := by decide +kernel
theorem dL_law_858 : decode cL_law 858 = .ok (.lcmp, 1) := by decide +kernel
theorem dL_law_859 : decode cL_law 859 = .ok (.ifCond .eq 5, 3) := by decide +kernel
theorem dL_law_862 : decode cL_law 862 = .ok (.iconst 0, 1) := by decide +kernel
theorem dL_law_863 : decode cL_law 863 = .ok (.ireturn, 1) := by decide +kernel
theorem dL_law_864 : decode cL_law 864 = .ok (.goto 319, 3) := by decide +kernel
theorem dL_law_867 : decode cL_law 867 = .ok (.aload_n 1, 1) := by decide +kernel
theorem dL_law_868 : decode cL_law 868 = .ok (.aload_n 0, 1) := by decide +kernel
theorem dL_law_869 : decode cL_law 869 = .ok (.iload 4, 2) := by decide +kernel
theorem dL_law_871 : decode cL_law 871 = .ok (.iconst 1, 1) := by decide +kernel
theorem dL_law_872 : decode cL_law 872 = .ok (.iadd, 1) := by decide +kernel
theorem dL_law_873 : decode cL_law 873 = .ok (.iaload, 1) := by decide +kernel
theorem dL_law_874 : decode cL_law 874 = .ok (.aload_n 3, 1) := by decide +kernel
theorem dL_law_875 : decode cL_law 875 = .ok (.invokestatic 110, 3) := by decide +kernel
theorem dL_law_878 : decode cL_law 878 = .ok (.istore 5, 2) := by decide +kernel
theorem dL_law_880 : decode cL_law 880 = .ok (.aload_n 2, 1) := by decide +kernel
theorem dL_law_881 : decode cL_law 881 = .ok (.aload_n 0, 1) := by decide +kernel
theorem dL_law_882 : decode cL_law 882 = .ok (.iload 4, 2) := by decide +kernel
theorem dL_law_884 : decode cL_law 884 = .ok (.iconst 1, 1) := by decide +kernel
theorem dL_law_885 : decode cL_law 885 = .ok (.iadd, 1) := by decide +kernel
theorem dL_law_886 : decode cL_law 886 = .ok (.iaload, 1) := by decide +kernel
theorem dL_law_887 : decode cL_law 887 = .ok (.invokevirtual 112, 3) := by decide +kernel
theorem dL_law_890 : decode cL_law 890 = .ok (.istore 6, 2) := by decide +kernel
theorem dL_law_892 : decode cL_law 892 = .ok (.aload_n 2, 1) := by decide +kernel
theorem dL_law_893 : decode cL_law 893 = .ok (.invokevirtual 74, 3) := by decide +kernel
theorem dL_law_896 : decode cL_law 896 = .ok (.iload 5, 2) := by decide +kernel
theorem dL_law_898 : decode cL_law 898 = .ok (.if_icmp .eq 5, 3) := by decide +kernel
theorem dL_law_901 : decode cL_law 901 = .ok (.iconst 0, 1) := by decide +kernel
theorem dL_law_902 : decode cL_law 902 = .ok (.ireturn, 1) := by decide +kernel
theorem dL_law_903 : decode cL_law 903 = .ok (.iload 5, 2) := by decide +kernel
theorem dL_law_905 : decode cL_law 905 = .ok (.ifCond .ne 15, 3) := by decide +kernel
theorem dL_law_908 : decode cL_law 908 = .ok (.aload_n 3, 1) := by decide +kernel
theorem dL_law_909 : decode cL_law 909 = .ok (.iconst 0, 1) := by decide +kernel
theorem dL_law_910 : decode cL_law 910 = .ok (.laload, 1) := by decide +kernel
theorem dL_law_911 : decode cL_law 911 = .ok (.iload 6, 2) := by decide +kernel
theorem dL_law_913 : decode cL_law 913 = .ok (.i2l, 1) := by decide +kernel
theorem dL_law_914 : decode cL_law 914 = .ok (.lcmp, 1) := by decide +kernel
theorem dL_law_915 : decode cL_law 915 = .ok (.ifCond .eq 5, 3) := by decide +kernel
theorem dL_law_918 : decode cL_law 918 = .ok (.iconst 0, 1) := by decide +kernel
theorem dL_law_919 : decode cL_law 919 = .ok (.ireturn, 1) := by decide +kernel
theorem dL_law_920 : decode cL_law 920 = .ok (.goto 263, 3) := by decide +kernel
theorem dL_law_923 : decode cL_law 923 = .ok (.aload_n 1, 1) := by decide +kernel
theorem dL_law_924 : decode cL_law 924 = .ok (.aload_n 0, 1) := by decide +kernel
theorem dL_law_925 : decode cL_law 925 = .ok (.iload 4, 2) := by decide +kernel
theorem dL_law_927 : decode cL_law 927 = .ok (.iconst 1, 1) := by decide +kernel
theorem dL_law_928 : decode cL_law 928 = .ok (.iadd, 1) := by decide +kernel
theorem dL_law_929 : decode cL_law 929 = .ok (.iaload, 1) := by decide +kernel
theorem dL_law_930 : decode cL_law 930 = .ok (.aload_n 3, 1) := by decide +kernel
theorem dL_law_931 : decode cL_law 931 = .ok (.invokestatic 113, 3) := by decide +kernel
theorem dL_law_934 : decode cL_law 934 = .ok (.istore 5, 2) := by decide +kernel
theorem dL_law_936 : decode cL_law 936 = .ok (.aload_n 2, 1) := by decide +kernel
theorem dL_law_937 : decode cL_law 937 = .ok (.aload_n 0, 1) := by decide +kernel
theorem dL_law_938 : decode cL_law 938 = .ok (.iload 4, 2) := by decide +kernel
theorem dL_law_940 : decode cL_law 940 = .ok (.iconst 1, 1) := by decide +kernel
theorem dL_law_941 : decode cL_law 941 = .ok (.iadd, 1) := by decide +kernel
theorem dL_law_942 : decode cL_law 942 = .ok (.iaload, 1) := by decide +kernel
theorem dL_law_943 : decode cL_law 943 = .ok (.invokevirtual 115, 3) := by decide +kernel
theorem dL_law_946 : decode cL_law 946 = .ok (.istore 6, 2) := by decide +kernel
theorem dL_law_948 : decode cL_law 948 = .ok (.aload_n 2, 1) := by decide +kernel
theorem dL_law_949 : decode cL_law 949 = .ok (.invokevirtual 74, 3) := by decide +kernel
theorem dL_law_952 : decode cL_law 952 = .ok (.iload 5, 2) := by decide +kernel
theorem dL_law_954 : decode cL_law 954 = .ok (.if_icmp .eq 5, 3) := by decide +kernel
theorem dL_law_957 : decode cL_law 957 = .ok (.iconst 0, 1) := by decide +kernel
theorem dL_law_958 : decode cL_law 958 = .ok (.ireturn, 1) := by decide +kernel
theorem dL_law_959 : decode cL_law 959 = .ok (.iload 5, 2) := by decide +kernel
theorem dL_law_961 : decode cL_law 961 = .ok (.ifCond .ne 15, 3) := by decide +kernel
theorem dL_law_964 : decode cL_law 964 = .ok (.aload_n 3, 1) := by decide +kernel
theorem dL_law_965 : decode cL_law 965 = .ok (.iconst 0, 1) := by decide +kernel
theorem dL_law_966 : decode cL_law 966 = .ok (.laload, 1) := by decide +kernel
theorem dL_law_967 : decode cL_law 967 = .ok (.iload 6, 2) := by decide +kernel
theorem dL_law_969 : decode cL_law 969 = .ok (.i2l, 1) := by decide +kernel
theorem dL_law_970 : decode cL_law 970 = .ok (.lcmp, 1) := by decide +kernel
theorem dL_law_971 : decode cL_law 971 = .ok (.ifCond .eq 5, 3) := by decide +kernel
theorem dL_law_974 : decode cL_law 974 = .ok (.iconst 0, 1) := by decide +kernel
theorem dL_law_975 : decode cL_law 975 = .ok (.ireturn, 1) := by decide +kernel
theorem dL_law_976 : decode cL_law 976 = .ok (.goto 207, 3) := by decide +kernel
theorem dL_law_979 : decode cL_law 979 = .ok (.aload_n 1, 1) := by decide +kernel
theorem dL_law_980 : decode cL_law 980 = .ok (.invokevirtual 116, 3) := by decide +kernel
theorem dL_law_983 : decode cL_law 983 = .ok (.aload_n 2, 1) := by decide +kernel
theorem dL_law_984 : decode cL_law 984 = .ok (.invokevirtual 119, 3) := by decide +kernel
theorem dL_law_987 : decode cL_law 987 = .ok (.if_icmp .eq 196, 3) := by decide +kernel
theorem dL_law_990 : decode cL_law 990 = .ok (.iconst 0, 1) := by decide +kernel
theorem dL_law_991 : decode cL_law 991 = .ok (.ireturn, 1) := by decide +kernel
theorem dL_law_992 : decode cL_law 992 = .ok (.aload_n 1, 1) := by decide +kernel
theorem dL_law_993 : decode cL_law 993 = .ok (.aload_n 0, 1) := by decide +kernel
theorem dL_law_994 : decode cL_law 994 = .ok (.iload 4, 2) := by decide +kernel
theorem dL_law_996 : decode cL_law 996 = .ok (.iconst 1, 1) := by decide +kernel
theorem dL_law_997 : decode cL_law 997 = .ok (.iadd, 1) := by decide +kernel
theorem dL_law_998 : decode cL_law 998 = .ok (.iaload, 1) := by decide +kernel
theorem dL_law_999 : decode cL_law 999 = .ok (.aload_n 0, 1) := by decide +kernel
theorem dL_law_1000 : decode cL_law 1000 = .ok (.iload 4, 2) := by decide +kernel
theorem dL_law_1002 : decode cL_law 1002 = .ok (.iconst 2, 1) := by decide +kernel
theorem dL_law_1003 : decode cL_law 1003 = .ok (.iadd, 1) := by decide +kernel
theorem dL_law_1004 : decode cL_law 1004 = .ok (.iaload, 1) := by decide +kernel
theorem dL_law_1005 : decode cL_law 1005 = .ok (.aload_n 3, 1) := by decide +kernel
theorem dL_law_1006 : decode cL_law 1006 = .ok (.invokestatic 120, 3) := by decide +kernel
theorem dL_law_1009 : decode cL_law 1009 = .ok (.istore 5, 2) := by decide +kernel
theorem dL_law_1011 : decode cL_law 1011 = .ok (.aload_n 2, 1) := by decide +kernel
theorem dL_law_1012 : decode cL_law 1012 = .ok (.aload_n 0, 1) := by decide +kernel
theorem dL_law_1013 : decode cL_law 1013 = .ok (.iload 4, 2) := by decide +kernel
theorem dL_law_1015 : decode cL_law 1015 = .ok (.iconst 1, 1) := by decide +kernel
theorem dL_law_1016 : decode cL_law 1016 = .ok (.iadd, 1) := by decide +kernel
theorem dL_law_1017 : decode cL_law 1017 = .ok (.iaload, 1) := by decide +kernel
theorem dL_law_1018 : decode cL_law 1018 = .ok (.aload_n 0, 1) := by decide +kernel
theorem dL_law_1019 : decode cL_law 1019 = .ok (.iload 4, 2) := by decide +kernel
theorem dL_law_1021 : decode cL_law 1021 = .ok (.iconst 2, 1) := by decide +kernel
theorem dL_law_1022 : decode cL_law 1022 = .ok (.iadd, 1) := by decide +kernel
theorem dL_law_1023 : decode cL_law 1023 = .ok (.iaload, 1) := by decide +kernel
theorem dL_law_1024 : decode cL_law 1024 = .ok (.invokevirtual 122, 3) := by decide +kernel
theorem dL_law_1027 : decode cL_law 1027 = .ok (.istore 6, 2) := by decide +kernel
theorem dL_law_1029 : decode cL_law 1029 = .ok (.aload_n 2, 1) := by decide +kernel
theorem dL_law_1030 : decode cL_law 1030 = .ok (.invokevirtual 74, 3) := by decide +kernel
theorem dL_law_1033 : decode cL_law 1033 = .ok (.iload 5, 2) := by decide +kernel
theorem dL_law_1035 : decode cL_law 1035 = .ok (.if_icmp .eq 5, 3) := by decide +kernel
theorem dL_law_1038 : decode cL_law 1038 = .ok (.iconst 0, 1) := by decide +kernel
theorem dL_law_1039 : decode cL_law 1039 = .ok (.ireturn, 1) := by decide +kernel
theorem dL_law_1040 : decode cL_law 1040 = .ok (.iload 5, 2) := by decide +kernel
theorem dL_law_1042 : decode cL_law 1042 = .ok (.ifCond .ne 15, 3) := by decide +kernel
theorem dL_law_1045 : decode cL_law 1045 = .ok (.aload_n 3, 1) := by decide +kernel
theorem dL_law_1046 : decode cL_law 1046 = .ok (.iconst 0, 1) := by decide +kernel
theorem dL_law_1047 : decode cL_law 1047 = .ok (.laload, 1) := by decide +kernel
theorem dL_law_1048 : decode cL_law 1048 = .ok (.iload 6, 2) := by decide +kernel
theorem dL_law_1050 : decode cL_law 1050 = .ok (.i2l, 1) := by decide +kernel
theorem dL_law_1051 : decode cL_law 1051 = .ok (.lcmp, 1) := by decide +kernel
theorem dL_law_1052 : decode cL_law 1052 = .ok (.ifCond .eq 5, 3) := by decide +kernel
theorem dL_law_1055 : decode cL_law 1055 = .ok (.iconst 0, 1) := by decide +kernel
theorem dL_law_1056 : decode cL_law 1056 = .ok (.ireturn, 1) := by decide +kernel
theorem dL_law_1057 : decode cL_law 1057 = .ok (.goto 126, 3) := by decide +kernel
theorem dL_law_1060 : decode cL_law 1060 = .ok (.aload_n 1, 1) := by decide +kernel
theorem dL_law_1061 : decode cL_law 1061 = .ok (.aload_n 0, 1) := by decide +kernel
theorem dL_law_1062 : decode cL_law 1062 = .ok (.iload 4, 2) := by decide +kernel
theorem dL_law_1064 : decode cL_law 1064 = .ok (.iconst 1, 1) := by decide +kernel
theorem dL_law_1065 : decode cL_law 1065 = .ok (.iadd, 1) := by decide +kernel
theorem dL_law_1066 : decode cL_law 1066 = .ok (.iaload, 1) := by decide +kernel
theorem dL_law_1067 : decode cL_law 1067 = .ok (.aload_n 0, 1) := by decide +kernel
theorem dL_law_1068 : decode cL_law 1068 = .ok (.iload 4, 2) := by decide +kernel
theorem dL_law_1070 : decode cL_law 1070 = .ok (.iconst 2, 1) := by decide +kernel
theorem dL_law_1071 : decode cL_law 1071 = .ok (.iadd, 1) := by decide +kernel
theorem dL_law_1072 : decode cL_law 1072 = .ok (.iaload, 1) := by decide +kernel
theorem dL_law_1073 : decode cL_law 1073 = .ok (.aload_n 3, 1) := by decide +kernel
theorem dL_law_1074 : decode cL_law 1074 = .ok (.invokestatic 123, 3) := by decide +kernel
theorem dL_law_1077 : decode cL_law 1077 = .ok (.istore 5, 2) := by decide +kernel
theorem dL_law_1079 : decode cL_law 1079 = .ok (.aload_n 2, 1) := by decide +kernel
theorem dL_law_1080 : decode cL_law 1080 = .ok (.aload_n 0, 1) := by decide +kernel
theorem dL_law_1081 : decode cL_law 1081 = .ok (.iload 4, 2) := by decide +kernel
theorem dL_law_1083 : decode cL_law 1083 = .ok (.iconst 1, 1) := by decide +kernel
theorem dL_law_1084 : decode cL_law 1084 = .ok (.iadd, 1) := by decide +kernel
theorem dL_law_1085 : decode cL_law 1085 = .ok (.iaload, 1) := by decide +kernel
theorem dL_law_1086 : decode cL_law 1086 = .ok (.aload_n 0, 1) := by decide +kernel
theorem dL_law_1087 : decode cL_law 1087 = .ok (.iload 4, 2) := by decide +kernel
theorem dL_law_1089 : decode cL_law 1089 = .ok (.iconst 2, 1) := by decide +kernel
theorem dL_law_1090 : decode cL_law 1090 = .ok (.iadd, 1) := by decide +kernel
theorem dL_law_1091 : decode cL_law 1091 = .ok (.iaload, 1) := by decide +kernel
theorem dL_law_1092 : decode cL_law 1092 = .ok (.invokevirtual 125, 3) := by decide +kernel
theorem dL_law_1095 : decode cL_law 1095 = .ok (.istore 6, 2) := by decide +kernel
theorem dL_law_1097 : decode cL_law 1097 = .ok (.aload_n 2, 1) := by decide +kernel
theorem dL_law_1098 : decode cL_law 1098 = .ok (.invokevirtual 74, 3) := by decide +kernel
theorem dL_law_1101 : decode cL_law 1101 = .ok (.iload 5, 2) := by decide +kernel
theorem dL_law_1103 : decode cL_law 1103 = .ok (.if_icmp .eq 5, 3) := by decide +kernel
theorem dL_law_1106 : decode cL_law 1106 = .ok (.iconst 0, 1) := by decide +kernel
theorem dL_law_1107 : decode cL_law 1107 = .ok (.ireturn, 1) := by decide +kernel
theorem dL_law_1108 : decode cL_law 1108 = .ok (.iload 5, 2) := by decide +kernel
theorem dL_law_1110 : decode cL_law 1110 = .ok (.ifCond .ne 15, 3) := by decide +kernel
theorem dL_law_1113 : decode cL_law 1113 = .ok (.aload_n 3, 1) := by decide +kernel
theorem dL_law_1114 : decode cL_law 1114 = .ok (.iconst 0, 1) := by decide +kernel
theorem dL_law_1115 : decode cL_law 1115 = .ok (.laload, 1) := by decide +kernel
theorem dL_law_1116 : decode cL_law 1116 = .ok (.iload 6, 2) := by decide +kernel
theorem dL_law_1118 : decode cL_law 1118 = .ok (.i2l, 1) := by decide +kernel
theorem dL_law_1119 : decode cL_law 1119 = .ok (.lcmp, 1) := by decide +kernel
theorem dL_law_1120 : decode cL_law 1120 = .ok (.ifCond .eq 5, 3) := by decide +kernel
theorem dL_law_1123 : decode cL_law 1123 = .ok (.iconst 0, 1) := by decide +kernel
theorem dL_law_1124 : decode cL_law 1124 = .ok (.ireturn, 1) := by decide +kernel
theorem dL_law_1125 : decode cL_law 1125 = .ok (.goto 58, 3) := by decide +kernel
theorem dL_law_1128 : decode cL_law 1128 = .ok (.aload_n 1, 1) := by decide +kernel
theorem dL_law_1129 : decode cL_law 1129 = .ok (.invokevirtual 126, 3) := by decide +kernel
theorem dL_law_1132 : decode cL_law 1132 = .ok (.dstore 5, 2) := by decide +kernel
theorem dL_law_1134 : decode cL_law 1134 = .ok (.aload_n 2, 1) := by decide +kernel
theorem dL_law_1135 : decode cL_law 1135 = .ok (.invokevirtual 130, 3) := by decide +kernel
theorem dL_law_1138 : decode cL_law 1138 = .ok (.dstore 7, 2) := by decide +kernel
theorem dL_law_1140 : decode cL_law 1140 = .ok (.dload 5, 2) := by decide +kernel
theorem dL_law_1142 : decode cL_law 1142 = .ok (.dload 7, 2) := by decide +kernel
theorem dL_law_1144 : decode cL_law 1144 = .ok (.dcmp .l, 1) := by decide +kernel
theorem dL_law_1145 : decode cL_law 1145 = .ok (.ifCond .eq 21, 3) := by decide +kernel
theorem dL_law_1148 : decode cL_law 1148 = .ok (.dload 5, 2) := by decide +kernel
theorem dL_law_1150 : decode cL_law 1150 = .ok (.dload 5, 2) := by decide +kernel
theorem dL_law_1152 : decode cL_law 1152 = .ok (.dcmp .l, 1) := by decide +kernel
theorem dL_law_1153 : decode cL_law 1153 = .ok (.ifCond .eq 11, 3) := by decide +kernel
theorem dL_law_1156 : decode cL_law 1156 = .ok (.dload 7, 2) := by decide +kernel
theorem dL_law_1158 : decode cL_law 1158 = .ok (.dload 7, 2) := by decide +kernel
theorem dL_law_1160 : decode cL_law 1160 = .ok (.dcmp .l, 1) := by decide +kernel
theorem dL_law_1161 : decode cL_law 1161 = .ok (.ifCond .ne 5, 3) := by decide +kernel
theorem dL_law_1164 : decode cL_law 1164 = .ok (.iconst 0, 1) := by decide +kernel
theorem dL_law_1165 : decode cL_law 1165 = .ok (.ireturn, 1) := by decide +kernel
theorem dL_law_1166 : decode cL_law 1166 = .ok (.goto 17, 3) := by decide +kernel
theorem dL_law_1169 : decode cL_law 1169 = .ok (.aload_n 1, 1) := by decide +kernel
theorem dL_law_1170 : decode cL_law 1170 = .ok (.invokevirtual 131, 3) := by decide +kernel
theorem dL_law_1173 : decode cL_law 1173 = .ok (.aload_n 2, 1) := by decide +kernel
theorem dL_law_1174 : decode cL_law 1174 = .ok (.invokevirtual 135, 3) := by decide +kernel
theorem dL_law_1177 : decode cL_law 1177 = .ok (.lcmp, 1) := by decide +kernel
theorem dL_law_1178 : decode cL_law 1178 = .ok (.ifCond .eq 5, 3) := by decide +kernel
theorem dL_law_1181 : decode cL_law 1181 = .ok (.iconst 0, 1) := by decide +kernel
theorem dL_law_1182 : decode cL_law 1182 = .ok (.ireturn, 1) := by decide +kernel
theorem dL_law_1183 : decode cL_law 1183 = .ok (.iinc 4 4, 3) := by decide +kernel
theorem dL_law_1186 : decode cL_law 1186 = .ok (.goto (-1163), 3) := by decide +kernel
theorem dL_law_1189 : decode cL_law 1189 = .ok (.iconst 1, 1) := by decide +kernel
theorem dL_law_1190 : decode cL_law 1190 = .ok (.ireturn, 1) := by decide +kernel
end
section
/-! ===== the world of this claim: rows of ints at fixed places ===== -/
/-- a memory: part, kind, number, place -/
abbrev Mem : Type := Nat → Nat → Nat → Nat → Int32
abbrev Sg : Type := Nat → Nat → Nat → Int32
abbrev Lf : Type := Nat → Int64
/-- how fields lie, where each cell is, the arrays' types, the base -/
abbrev Cx : Type := va_G × (Nat → Nat → Nat → Nat) × (Nat → ClassId) × Nat
def celR (a : Nat → Nat → Nat) (cc : Nat → ClassId) (k i : Nat) (f : Nat → Int32) : va_E := match k with
  | 0 => .inr (2, [.ref (a 1 0), .ref (a 7 0), .int (f 2), .int (f 3), .int (f 4)])
  | 1 => .inl (cc 1, 4, .inr (.inr (.inr (.inr (fun j => some (a 2 j))))))
  | 2 => .inr (0, [.ref (a 3 i), .ref (a 6 i), .int (f 2), .int (f 3), .int (f 4)])
  | 3 => .inr (1, [.ref (a 4 i), .ref (a 5 i), .int (f 2)])
  | 4 => .inl (cc 0, 8, .inl f)
  | 5 => .inl (cc 0, 8, .inl f)
  | 6 => .inl (cc 0, 2, .inl f)
  | 7 => .inl (cc 2, 12, .inr (.inr (.inr (.inr (fun j => some (a 8 j))))))
  | _ => .inr (3, [.int (f 0), .int (f 1), .int (f 2), .int (f 3), .int (f 4), .int (f 5), .int (f 6), .int (f 7)])
def celQ (a : Nat → Nat → Nat → Nat) (cc : Nat → ClassId) (k : Nat) (f : Nat → Int32) : va_E := match k with
  | 0 => .inr (6, [.int (f 0), .int (f 1), .int (f 2), .ref (a 2 1 0), .ref (a 2 2 0), .ref (a 2 3 0), .ref (a 2 4 0), .ref (a 2 5 0), .ref (a 3 0 0), .ref (a 4 0 0)])
  | 1 => .inl (cc 0, 4, .inl f)
  | 2 => .inl (cc 0, 4, .inl f)
  | 3 => .inl (cc 0, 32, .inl f)
  | 4 => .inl (cc 0, 32, .inl f)
  | _ => .inl (cc 0, 12, .inl f)
def celS (a : Nat → Nat) (o : Nat) (cc : Nat → ClassId) (k : Nat) (f : Nat → Int32) : va_E := match k with
  | 0 => .inr (5, [.int (f 0), .ref (a 1), .ref (a 2), .ref (a 3), .ref (a 4), .ref (a 5), .ref (a 6), .ref (a 7), .ref (a 8), .ref (a 9), .ref o])
  | 1 => .inl (cc 0, 4, .inl f)
  | 2 => .inl (cc 0, 4, .inl f)
  | 3 => .inl (cc 0, 8, .inl f)
  | _ => .inl (cc 0, 12, .inl f)
def celD (X : Cx) (lf : Lf) (r k i : Nat) (f : Nat → Int32) : va_E := match r with
  | 0 => celR (X.2.1 0) X.2.2.1 k i f
  | 1 => celR (X.2.1 1) X.2.2.1 k i f
  | 2 => celQ X.2.1 X.2.2.1 k f
  | 3 => celS (fun z => X.2.1 3 z 0) (X.2.1 2 0 0) X.2.2.1 k f
  | 4 => celS (fun z => X.2.1 4 z 0) (X.2.1 2 0 0) X.2.2.1 k f
  | 5 => .inr (4, [.ref (X.2.1 0 0 0), .ref (X.2.1 1 0 0)])
  | _ => .inl (X.2.2.1 3, 1, .inr (.inl lf))
theorem celD_R {X : Cx} {lf : Lf} {r k i : Nat} {f : Nat → Int32} (h : r < 2) : celD X lf r k i f = celR (X.2.1 r) X.2.2.1 k i f := by
  rcases (show r = 0 ∨ r = 1 by omega) with rfl | rfl <;> rfl
theorem celD_S {X : Cx} {lf : Lf} {r k i : Nat} {f : Nat → Int32} (h : r = 3 ∨ r = 4) : celD X lf r k i f = celS (fun z => X.2.1 r z 0) (X.2.1 2 0 0) X.2.2.1 k f := by
  rcases h with rfl | rfl <;> rfl
abbrev Id3 : Type := Nat × Nat × Nat
def idR (r : Nat) : List Id3 := [(r, 0, 0), (r, 1, 0), (r, 7, 0), (r, 2, 0), (r, 3, 0), (r, 4, 0), (r, 5, 0), (r, 6, 0), (r, 2, 1), (r, 3, 1), (r, 4, 1), (r, 5, 1), (r, 6, 1), (r, 2, 2), (r, 3, 2), (r, 4, 2), (r, 5, 2), (r, 6, 2), (r, 2, 3), (r, 3, 3), (r, 4, 3), (r, 5, 3), (r, 6, 3), (r, 8, 0), (r, 8, 1), (r, 8, 2), (r, 8, 3), (r, 8, 4), (r, 8, 5), (r, 8, 6), (r, 8, 7), (r, 8, 8), (r, 8, 9), (r, 8, 10), (r, 8, 11)]
def idQ : List Id3 := [(2, 0, 0), (2, 1, 0), (2, 2, 0), (2, 3, 0), (2, 4, 0), (2, 5, 0)]
def idS (r : Nat) : List Id3 := [(r, 0, 0), (r, 1, 0), (r, 2, 0), (r, 3, 0), (r, 4, 0), (r, 5, 0), (r, 6, 0), (r, 7, 0), (r, 8, 0), (r, 9, 0)]
def ids : List Id3 := idR 0 ++ (idR 1 ++ (idQ ++ (idS 3 ++ (idS 4 ++ [(5, 0, 0), (6, 0, 0)]))))
/-- how many cells of a kind a ring has -/
def nk (k : Nat) : Nat := match k with
  | 0 => 1
  | 1 => 1
  | 7 => 1
  | 8 => 12
  | _ => 4
theorem ids_nd : ids.Nodup := by decide +kernel
theorem id_R0 : ((List.range 2).all fun r => (List.range 9).all fun k => (List.range (nk k)).all fun i => decide ((r, k, i) ∈ ids)) = true := by decide +kernel
theorem id_R {r : Nat} (hr : r < 2) {k : Nat} (hk : k < 9) {i : Nat} (hi : i < nk k) : (r, k, i) ∈ ids := of_decide_eq_true (List.all_eq_true.mp (List.all_eq_true.mp (List.all_eq_true.mp id_R0 r (List.mem_range.mpr hr)) k (List.mem_range.mpr hk)) i (List.mem_range.mpr hi))
theorem id_Q : ∀ k, k < 6 → (2, k, 0) ∈ ids := by decide +kernel
theorem id_S3 : ∀ k, k < 10 → (3, k, 0) ∈ ids := by decide +kernel
theorem id_S4 : ∀ k, k < 10 → (4, k, 0) ∈ ids := by decide +kernel
theorem id_S {r : Nat} (h : r = 3 ∨ r = 4) {k : Nat} (hk : k < 10) : (r, k, 0) ∈ ids := by
  rcases h with rfl | rfl
  · exact id_S3 k hk
  · exact id_S4 k hk
theorem id_5 : (5, 0, 0) ∈ ids := by decide +kernel
theorem id_6 : (6, 0, 0) ∈ ids := by decide +kernel
/-- an address of a place -/
def xad (X : Cx) (q : Id3) : Nat := X.2.1 q.1 q.2.1 q.2.2
def wl (X : Cx) (M : Mem) (lf : Lf) : va_W := ids.map (fun q => (xad X q, celD X lf q.1 q.2.1 q.2.2 (M q.1 q.2.1 q.2.2)))
/-- what a context keeps to -/
def Cxok (X : Cx) : Prop := (∀ p, p ∈ ids → ∀ q, q ∈ ids → xad X p = xad X q → p = q) ∧ ∀ p, p ∈ ids → X.2.2.2 ≤ xad X p
/-- which cells a method may change: the world's, and new ones -/
def xA (X : Cx) (sz : Nat) : Nat → Prop := fun q => (∃ p, p ∈ ids ∧ q = xad X p) ∨ sz ≤ q
def xB (X : Cx) : Nat → Prop := fun q => X.2.2.2 ≤ q
theorem xA_mono {X : Cx} {a b : Nat} (h : a ≤ b) (q : Nat) (hq : xA X b q) : xA X a q := by
  rcases hq with hq | hq
  · exact Or.inl hq
  · exact Or.inr (Nat.le_trans h hq)
theorem xA_in {X : Cx} {sz r k i : Nat} (h : (r, k, i) ∈ ids) : xA X sz (X.2.1 r k i) := Or.inl ⟨_, h, rfl⟩
theorem xA_sz {X : Cx} {sz q : Nat} (h : sz ≤ q) : xA X sz q := Or.inr h
theorem xA_B {X : Cx} (hX : Cxok X) {sz : Nat} (hb : X.2.2.2 ≤ sz) (q : Nat) (h : xA X sz q) : xB X q := by
  rcases h with ⟨p, hp, rfl⟩ | h
  · exact hX.2 p hp
  · exact Nat.le_trans hb h
-- memories
def uS (σ : Sg) (k i : Nat) (f : Nat → Int32) : Sg := fun a b => if a = k ∧ b = i then f else σ a b
def uC (M : Mem) (r : Nat) (σ : Sg) : Mem := fun a => if a = r then σ else M a
def u3 (σ : Sg) (k i j : Nat) (v : Int32) : Sg := uS σ k i (upd (σ k i) j v)
theorem uC_self (M : Mem) (r : Nat) : uC M r (M r) = M := by
  funext a
  unfold uC
  by_cases h : a = r
  · rw [if_pos h, h]
  · rw [if_neg h]
theorem uC_at (M : Mem) (r : Nat) (σ : Sg) : uC M r σ r = σ := if_pos rfl
theorem uC_ne {M : Mem} {r a : Nat} {σ : Sg} (h : a ≠ r) : uC M r σ a = M a := if_neg h
theorem uC_uC (M : Mem) (r : Nat) (σ τ : Sg) : uC (uC M r σ) r τ = uC M r τ := by
  funext a
  unfold uC
  by_cases h : a = r
  · rw [if_pos h, if_pos h]
  · rw [if_neg h, if_neg h, if_neg h]
theorem uC_comm (M : Mem) {r t : Nat} (h : r ≠ t) (σ τ : Sg) : uC (uC M r σ) t τ = uC (uC M t τ) r σ := by
  funext a
  unfold uC
  by_cases h1 : a = t
  · subst h1
    rw [if_pos rfl, if_neg (Ne.symm h), if_pos rfl]
  · rw [if_neg h1, if_neg h1]
theorem uS_at (σ : Sg) (k i : Nat) (f : Nat → Int32) : uS σ k i f k i = f := if_pos ⟨rfl, rfl⟩
theorem uS_ne {σ : Sg} {k i a b : Nat} {f : Nat → Int32} (h : ¬ (a = k ∧ b = i)) : uS σ k i f a b = σ a b := if_neg h
theorem u3_eq (σ : Sg) (k i j : Nat) (v : Int32) (a b c : Nat) : u3 σ k i j v a b c = if a = k ∧ b = i ∧ c = j then v else σ a b c := by
  unfold u3 uS upd
  by_cases h : a = k ∧ b = i
  · rw [if_pos h]
    obtain ⟨h1, h2⟩ := h
    subst h1; subst h2
    by_cases h3 : c = j
    · rw [if_pos h3, if_pos ⟨rfl, rfl, h3⟩]
    · rw [if_neg h3, if_neg (fun z => h3 z.2.2)]
  · rw [if_neg h, if_neg (fun z => h ⟨z.1, z.2.1⟩)]
theorem u3_at (σ : Sg) (k i j : Nat) (v : Int32) : u3 σ k i j v k i j = v := by rw [u3_eq, if_pos ⟨rfl, rfl, rfl⟩]
theorem u3_ne {σ : Sg} {k i j a b c : Nat} {v : Int32} (h : ¬ (a = k ∧ b = i ∧ c = j)) : u3 σ k i j v a b c = σ a b c := by rw [u3_eq, if_neg h]
theorem u3_uC (M : Mem) (r : Nat) (σ : Sg) (k i : Nat) (f : Nat → Int32) : uC (uC M r σ) r (uS ((uC M r σ) r) k i f) = uC M r (uS σ k i f) := by rw [uC_uC, uC_at]
theorem wl_get {X : Cx} {M : Mem} {lf : Lf} {ex : va_W} {r k i : Nat} (h : (r, k, i) ∈ ids) : ∃ q0 : Nat, ids[q0]? = some (r, k, i) ∧ (wl X M lf ++ ex)[q0]? = some (X.2.1 r k i, celD X lf r k i (M r k i)) := by
  obtain ⟨q0, h0⟩ := List.getElem?_of_mem h
  refine ⟨q0, h0, ?_⟩
  have hl : q0 < (wl X M lf).length := by
    unfold wl
    rw [List.length_map]
    exact (List.getElem?_eq_some_iff.mp h0).1
  rw [List.getElem?_append_left hl]
  unfold wl
  rw [List.getElem?_map, h0]
  rfl
theorem wl_set {X : Cx} {M : Mem} {lf : Lf} {ex : va_W} {r k i q0 : Nat} (h0 : ids[q0]? = some (r, k, i)) (f : Nat → Int32) :
    (wl X M lf ++ ex).set q0 (X.2.1 r k i, celD X lf r k i f) = wl X (uC M r (uS (M r) k i f)) lf ++ ex := by
  have hl0 : q0 < ids.length := (List.getElem?_eq_some_iff.mp h0).1
  have hl : q0 < (wl X M lf).length := by
    unfold wl
    rw [List.length_map]
    exact hl0
  rw [List.set_append_left _ _ hl]
  congr 1
  apply List.ext_getElem?
  intro j
  unfold wl
  by_cases hj : j = q0
  · subst hj
    rw [List.getElem?_set_self (by rw [List.length_map]; exact hl0), List.getElem?_map, h0]
    show some _ = some (xad X (r, k, i), celD X lf r k i (uC M r (uS (M r) k i f) r k i))
    rw [uC_at, uS_at]
    rfl
  · rw [List.getElem?_set_ne (Ne.symm hj), List.getElem?_map, List.getElem?_map]
    cases hq : ids[j]? with
    | none => rfl
    | some q =>
      obtain ⟨a, b, c⟩ := q
      have hne : ¬ (a = r ∧ b = k ∧ c = i) := by
        rintro ⟨rfl, rfl, rfl⟩
        exact hj ((List.getElem?_inj (List.getElem?_eq_some_iff.mp hq).1 ids_nd).mp (hq.trans h0.symm))
      show some (xad X (a, b, c), celD X lf a b c (M a b c)) = some (xad X (a, b, c), celD X lf a b c (uC M r (uS (M r) k i f) a b c))
      have e : uC M r (uS (M r) k i f) a b c = M a b c := by
        by_cases ha : a = r
        · subst ha
          rw [uC_at]
          exact uS_ne (fun z => hne ⟨rfl, z.1, z.2⟩)
        · rw [uC_ne ha]
      rw [e]
theorem wl_addr {X : Cx} {M : Mem} {lf : Lf} {j : Nat} {q : Nat × va_E} (h : (wl X M lf)[j]? = some q) : ∃ p, ids[j]? = some p ∧ q.1 = xad X p := by
  unfold wl at h
  rw [List.getElem?_map] at h
  cases hp : ids[j]? with
  | none => rw [hp] at h; cases h
  | some p => rw [hp] at h; cases h; exact ⟨p, rfl, rfl⟩
/-- the world's addresses are apart -/
theorem wl_D {X : Cx} (hX : Cxok X) (M : Mem) (lf : Lf) (sz : Nat) : va_D (xA X sz) (wl X M lf) := by
  refine ⟨fun i j p q hi hj hpq => ?_, fun k q hk => ?_⟩
  · obtain ⟨a, ha, e1⟩ := wl_addr hi
    obtain ⟨b, hb, e2⟩ := wl_addr hj
    have hab : a = b := hX.1 a (List.mem_of_getElem? ha) b (List.mem_of_getElem? hb) (by rw [← e1, ← e2]; exact hpq)
    subst hab
    exact (List.getElem?_inj (List.getElem?_eq_some_iff.mp ha).1 ids_nd).mp (ha.trans hb.symm)
  · obtain ⟨p, hp, e⟩ := wl_addr hk
    exact Or.inl ⟨p, List.mem_of_getElem? hp, e⟩
/-- with further cells beside it -/
def exOk (X : Cx) (sz : Nat) (ex : va_W) : Prop := va_D (fun q => sz ≤ q) ex ∧ ∀ (k : Nat) (q : Nat × va_E), ex[k]? = some q → ∀ p, p ∈ ids → q.1 ≠ xad X p
theorem exOk_nil {X : Cx} {sz : Nat} : exOk X sz [] := ⟨⟨fun i j p q h => by simp at h, fun k q h => by simp at h⟩, fun k q h => by simp at h⟩
theorem wl_DE {X : Cx} (hX : Cxok X) (M : Mem) (lf : Lf) {sz : Nat} {ex : va_W} (he : exOk X sz ex) : va_D (xA X sz) (wl X M lf ++ ex) := by
  refine va_D.app (wl_D hX M lf sz) (he.1.weaken (fun _ _ _ h => Or.inr h)) (fun i j p q hi hj => ?_)
  obtain ⟨a, ha, e1⟩ := wl_addr hi
  rw [e1]
  exact fun z => he.2 j q hj a (List.mem_of_getElem? ha) z.symm
end
section
/-! ===== what stays through all calls: the tables' words, nest links, texts, two statics ===== -/
def wAll : List Cond := lw_tbl.filter goodWord
theorem wAll_in {w : Cond} {i : Nat} (h : lw_tbl[i]? = some w) (hg : goodWord w = true) : w ∈ wAll := List.mem_filter.mpr ⟨List.mem_of_getElem? h, hg⟩
theorem wAll_tbl {w : Cond} (h : w ∈ wAll) : w ∈ lw_tbl := (List.mem_filter.mp h).1
theorem wAll_good {w : Cond} (h : w ∈ wAll) : goodWord w = true := (List.mem_filter.mp h).2
abbrev wsc (y : MethodName) (cc : ByteArray) (n : Nat) (ret : Option FieldType) : List Cond := .code y cc n ret :: wAll
theorem good_c {c0 : Cond} (h : c0 ∈ wAll) : GoodIn wAll (c0 :: wAll) := fun w hw => by
  rcases List.mem_cons.mp hw with rfl | hw
  · exact ⟨h, good_of_word (wAll_good h)⟩
  · exact ⟨hw, good_of_word (wAll_good hw)⟩
theorem good_V {own C : String} {idx : Nat} {y : MethodName} {ws : List Cond} (h1 : Cond.methodLink own idx y ∈ wAll) (h2 : Cond.instanceMethod y ∈ wAll) (h3 : Cond.selects C y y ∈ wAll) (h4 : Cond.initialized C ∈ wAll) (hG : GoodIn wAll ws) : GoodIn wAll (wsV own idx C y ws) := by
  intro w hw
  unfold wsV at hw
  rcases List.mem_append.mp hw with hw | hw
  · have : w ∈ wAll := by
      rcases List.mem_cons.mp hw with rfl | hw
      · exact h1
      · rcases List.mem_cons.mp hw with rfl | hw
        · exact h2
        · rcases List.mem_cons.mp hw with rfl | hw
          · exact h3
          · rcases List.mem_cons.mp hw with rfl | hw
            · exact h4
            · cases hw
    exact ⟨this, good_of_word (wAll_good this)⟩
  · exact hG w hw
theorem good_S {own : String} {idx : Nat} {y : MethodName} {ws : List Cond} (h1 : Cond.methodLink own idx y ∈ wAll) (h2 : Cond.static y ∈ wAll) (h4 : Cond.initialized own ∈ wAll) (hG : GoodIn wAll ws) : GoodIn wAll (wsS own idx y ws) := by
  intro w hw
  unfold wsS at hw
  rcases List.mem_append.mp hw with hw | hw
  · have : w ∈ wAll := by
      rcases List.mem_cons.mp hw with rfl | hw
      · exact h1
      · rcases List.mem_cons.mp hw with rfl | hw
        · exact h2
        · rcases List.mem_cons.mp hw with rfl | hw
          · exact h4
          · cases hw
    exact ⟨this, good_of_word (wAll_good this)⟩
  · exact hG w hw
def isNest : Cond → Bool
  | .fieldLinkNest .. => true
  | .methodLinkNest .. => true
  | _ => false
def nestW : List Cond := tables_1.filter isNest
theorem nest_in {w : Cond} {i : Nat} (h : tables_1[i]? = some w) (hg : isNest w = true) : w ∈ nestW := List.mem_filter.mpr ⟨List.mem_of_getElem? h, hg⟩
theorem nest_warm {w : Cond} (hg : isNest w = true) {s U : State} (hW : s.WarmedH U.vm) (h : va_Nw w s) : va_Nw w U := by
  cases w <;> first | exact va_Nw.warmF hW h | exact va_Nw.warmM hW h | cases hg
theorem nest_tab {w : Cond} (hg : isNest w = true) : w.onTables = true := by
  cases w <;> first | rfl | cases hg
/-- the texts that the class throws: their places in its pool -/
def strW : List (Nat × String) := [(21, "skill is not 1 to 9"), (32, "there are 4 jugglers"), (43, "length is not 1 to 8"), (48, "heights has not at most length digits"), (83, "kind is not 0 to 2"), (88, "there are 12 things"), (98, "hand is not 0 or 1"), (110, "the thing is not on the floor"), (115, "the hand has a thing"), (185, "there is no such juggler"), (187, "there is no such place"), (192, "there is no such thing"), (194, "what is none of the answers"), (196, "beats is too few or too many")]
def exN : List String := ["java/lang/RuntimeException", "java/lang/Exception"]
def exL : List Cond := vx_atS RX4 23 "java/lang/IllegalArgumentException" exN ++ (vx_atS RX4 34 "java/lang/IllegalStateException" exN ++ vx_atS RX4 100 "java/lang/IndexOutOfBoundsException" exN)
def isBad : Cond → Bool
  | .castable .. => true
  | .declares .. => true
  | _ => false
def badW : List Cond := tables_1.filter isBad
theorem bad_in {w : Cond} {i : Nat} (h : tables_1[i]? = some w) (hg : isBad w = true) : w ∈ badW := List.mem_filter.mpr ⟨List.mem_of_getElem? h, hg⟩
theorem bad_warm0 {w : Cond} (hg : isBad w = true) {s U : State} (hW : s.WarmedH U.vm) (h : va_Nw w s) : va_Nw w U := by
  cases w <;> first | exact va_Nw.warmC hW h | exact va_Nw.warmD hW h | cases hg
theorem bad_tab0 {w : Cond} (hg : isBad w = true) : w.onTables = true := by
  cases w <;> first | rfl | cases hg
theorem bad_warm (w : Cond) (hw : w ∈ badW) {s U : State} (hW : s.WarmedH U.vm) (h : va_Nw w s) : va_Nw w U := bad_warm0 (List.mem_filter.mp hw).2 hW h
theorem bad_tab (w : Cond) (hw : w ∈ badW) : w.onTables = true := bad_tab0 (List.mem_filter.mp hw).2
theorem exL_kind : exL.all (fun w => goodWord w || isBad w) = true := by decide +kernel
theorem exL_tbl : exL.all (fun w => decide (w ∈ lw_tbl)) = true := by decide +kernel
theorem exL_bad : (exL.filter isBad).all (fun w => decide (w ∈ tables_1)) = true := by decide +kernel
theorem exL_hat {args : Array Value} {s : State} (h1 : ∀ w, w ∈ wAll → w.before args s = true) (h2 : ∀ w, w ∈ badW → va_Nw w s) : ∀ w, w ∈ exL → w.before args s = true := by
  intro w hw
  have hk := List.all_eq_true.mp exL_kind w hw
  simp only [Bool.or_eq_true] at hk
  rcases hk with hk | hk
  · exact h1 w (List.mem_filter.mpr ⟨of_decide_eq_true (List.all_eq_true.mp exL_tbl w hw), hk⟩)
  · exact va_Nw.use (bad_tab0 hk) (h2 w (List.mem_filter.mpr ⟨of_decide_eq_true (List.all_eq_true.mp exL_bad w (List.mem_filter.mpr ⟨hw, hk⟩)), hk⟩))
theorem exL_ot : exL.all vx_ot = true := by decide +kernel
end
section
/-! ===== the judgement over memories: V, and a row for each instruction ===== -/
def tysX (X : Cx) : List (ClassId × FieldType) := [(X.2.2.1 0, .int), (X.2.2.1 1, .object "HammerEggs$Juggler"), (X.2.2.1 2, .object "HammerEggs$Thing"), (X.2.2.1 3, .long)]
/-- which exceptions are not which -/
def ncW : List (String × String) := [("java/lang/IllegalStateException", "java/lang/IllegalArgumentException"), ("java/lang/IllegalArgumentException", "java/lang/IndexOutOfBoundsException"), ("java/lang/IllegalStateException", "java/lang/IndexOutOfBoundsException"), ("java/lang/IndexOutOfBoundsException", "java/lang/IllegalArgumentException")]
/-- what stays -/
def Kz (X : Cx) (U : State) : Prop := X.2.2.2 ≤ U.heap.size ∧ va_K X.1 vwCl (tysX X) U ∧ (∀ w, w ∈ nestW → va_Nw w U) ∧ (∀ q, q ∈ strW → ∃ sa, vk_R RX4 q.1 q.2 sa U) ∧ (∀ w, w ∈ badW → va_Nw w U) ∧ (∀ q, q ∈ ncW → va_Nc q.1 q.2 U) ∧ vx_Zq Bundle.tN "UNASSIGNED_STACK" Bundle.steD (xB X) U U.heap ∧ vx_Zq Bundle.tN "SUPPRESSED_SENTINEL" Bundle.listD (xB X) U U.heap
theorem Kz_same {X : Cx} {u U : State} (hv : U.vm = u.vm) (hh : U.heap = u.heap) (h : Kz X u) : Kz X U := by
  obtain ⟨h1, h2, h3, h4, h5, h8, h6, h7⟩ := h
  have ha : u.vm.Alike U.vm := by rw [hv]; exact Vm.Alike.refl _
  refine ⟨by rw [hh]; exact h1, va_K.moved ha h2, fun w hw => va_Nw.same (nest_tab (List.mem_filter.mp hw).2) hv.symm (h3 w hw), fun q hq => ?_, fun w hw => va_Nw.same (bad_tab w hw) hv.symm (h5 w hw), fun q hq => va_Nc.moved ha (h8 q hq), ?_, ?_⟩
  · obtain ⟨sa, hs⟩ := h4 q hq
    exact ⟨sa, vk_R.same hv hs⟩
  · rw [hh]; exact vx_Zq.moved ha h6
  · rw [hh]; exact vx_Zq.moved ha h7
theorem Kz_pass {X : Cx} (hX : Cxok X) {s U : State} {locs : List Loc} (hW : s.WarmedH U.vm) (hS : va_S (xA X s.heap.size) s.heap U.heap locs) (h : Kz X s) : Kz X U := by
  obtain ⟨h1, h2, h3, h4, h5, h8, h6, h7⟩ := h
  have hk : ∀ a : Nat, a < s.heap.size → ¬ xB X a → U.heap[a]? = s.heap[a]? := fun a ha hn => hS.2.1 a ha (fun z => hn (xA_B hX h1 a z))
  refine ⟨Nat.le_trans h1 hS.1, va_K.moved hW.alike h2, fun w hw => nest_warm (List.mem_filter.mp hw).2 hW (h3 w hw), fun q hq => ?_, fun w hw => bad_warm w hw hW (h5 w hw), fun q hq => va_Nc.moved hW.alike (h8 q hq), ?_, ?_⟩
  · obtain ⟨sa, hs⟩ := h4 q hq
    exact ⟨sa, vk_R.warm hW hs⟩
  · exact vx_Zq.kept (vx_Zq.moved hW.alike h6) hk
  · exact vx_Zq.kept (vx_Zq.moved hW.alike h7) hk
/-- what a body knows of its machine -/
abbrev Fx (p : Program) (l : Launch) (s : State) (m : MethodId) (args : Array Value) (meth : Method) (c : Code) (cc : ByteArray) (nL : Nat) (own : String) (X : Cx) : Prop :=
  CallFix p m c cc nL s args wAll own ∧ Kz X s ∧ Cxok X ∧ meth.locks = false ∧ l.stackTraces = false
def V (p : Program) (l : Launch) (e : Env) (R : Room) (s : State) (m : MethodId) (args : Array Value) (below : List Frame) (meth : Method) (c : Code) (Q : State → Prop) (X : Cx) (nL : Nat) (ex : va_W) (M : Mem) (lf : Lf) (cells slots pc : Nat) (lv : List (Nat × Value)) (st : List Value) : Prop :=
  ∀ (H : Heap) (locs : List Loc) (ls : Array Slot), va_P X.1 vwCl (wl X M lf ++ ex) H → exOk X s.heap.size ex → va_S (xA X s.heap.size) s.heap H locs → lv_has ls nL lv → W p l e R s m args below meth c H locs cells slots Q (F0 m pc ls st)
section VR
variable {p : Program} {l : Launch} {e : Env} {R : Room} {s : State} {m : MethodId} {args : Array Value} {below : List Frame} {meth : Method} {c : Code} {Q : State → Prop} {X : Cx} {nL : Nat} {ex : va_W} {M : Mem} {lf : Lf} {cells slots pc : Nat} {lv : List (Nat × Value)} {st : List Value} {cc : ByteArray} {own : String}
theorem v_of {pc' : Nat} {st' : List Value} (h : ∀ (H : Heap) (locs : List Loc) (ls : Array Slot), lv_has ls nL lv → W p l e R s m args below meth c H locs cells slots Q (F0 m pc' ls st') → W p l e R s m args below meth c H locs cells slots Q (F0 m pc ls st)) (K : V p l e R s m args below meth c Q X nL ex M lf cells slots pc' lv st') : V p l e R s m args below meth c Q X nL ex M lf cells slots pc lv st := fun H locs ls hP hE hS hl => h H locs ls hl (K H locs ls hP hE hS hl)
theorem v_eq {M' : Mem} {st' : List Value} {lv' : List (Nat × Value)} (h1 : M = M') (h2 : lv = lv') (h3 : st = st') (K : V p l e R s m args below meth c Q X nL ex M' lf cells slots pc lv' st') : V p l e R s m args below meth c Q X nL ex M lf cells slots pc lv st := by
  subst h1; subst h2; subst h3; exact K
theorem v_mem {M' : Mem} (h1 : M' = M) (K : V p l e R s m args below meth c Q X nL ex M' lf cells slots pc lv st) : V p l e R s m args below meth c Q X nL ex M lf cells slots pc lv st := h1 ▸ K
theorem v_widen {k n : Nat} (h1 : cells ≤ k) (h2 : slots ≤ n) (K : V p l e R s m args below meth c Q X nL ex M lf k n pc lv st) : V p l e R s m args below meth c Q X nL ex M lf cells slots pc lv st := fun H locs ls hP hE hS hl => W.widen h1 h2 (K H locs ls hP hE hS hl)
theorem v_topi {x : Int32} (K : ∀ y : Int32, y = x → V p l e R s m args below meth c Q X nL ex M lf cells slots pc lv (.int y :: st)) : V p l e R s m args below meth c Q X nL ex M lf cells slots pc lv (.int x :: st) := K x rfl
theorem v_topr {x : Int32} (y : Int32) (h : x = y) (K : V p l e R s m args below meth c Q X nL ex M lf cells slots pc lv (.int y :: st)) : V p l e R s m args below meth c Q X nL ex M lf cells slots pc lv (.int x :: st) := h ▸ K
theorem v_toprl {x : Int64} (y : Int64) (h : x = y) (K : V p l e R s m args below meth c Q X nL ex M lf cells slots pc lv (.long y :: st)) : V p l e R s m args below meth c Q X nL ex M lf cells slots pc lv (.long x :: st) := h ▸ K
theorem v_locs {lv' : List (Nat × Value)} (ks : List Nat) (hl : lv_pick lv ks = lv') (K : V p l e R s m args below meth c Q X nL ex M lf cells slots pc lv' st) : V p l e R s m args below meth c Q X nL ex M lf cells slots pc lv st := fun H locs ls hP hE hS h => K H locs ls hP hE hS (lv_sub h ks hl)
theorem v_iconst (F : Fx p l s m args meth c cc nL own X) {n : Int} {v : Int32} (hdg : decode cc pc = .ok (.iconst n, 1)) (hv : Int32.ofInt n = v) (K : V p l e R s m args below meth c Q X nL ex M lf cells slots (pc + 1) lv (.int v :: st)) : V p l e R s m args below meth c Q X nL ex M lf cells slots pc lv (st) := v_of (fun H locs ls hl k => lv_iconst F.1.1 F.1.2.1 hdg hv k) K
theorem v_bipush (F : Fx p l s m args meth c cc nL own X) {n : Int} {v : Int32} (hdg : decode cc pc = .ok (.bipush n, 2)) (hv : (Int8.ofInt n).toInt32 = v) (K : V p l e R s m args below meth c Q X nL ex M lf cells slots (pc + 2) lv (.int v :: st)) : V p l e R s m args below meth c Q X nL ex M lf cells slots pc lv (st) := v_of (fun H locs ls hl k => lv_bipush F.1.1 F.1.2.1 hdg hv k) K
theorem v_sipush (F : Fx p l s m args meth c cc nL own X) {n : Int} {v : Int32} (hdg : decode cc pc = .ok (.sipush n, 3)) (hv : (Int16.ofInt n).toInt32 = v) (K : V p l e R s m args below meth c Q X nL ex M lf cells slots (pc + 3) lv (.int v :: st)) : V p l e R s m args below meth c Q X nL ex M lf cells slots pc lv (st) := v_of (fun H locs ls hl k => lv_sipush F.1.1 F.1.2.1 hdg hv k) K
theorem v_lconst (F : Fx p l s m args meth c cc nL own X) {n : Fin 2} {v : Int64} (hdg : decode cc pc = .ok (.lconst n, 1)) (hv : Int64.ofNat (n : Nat) = v) (K : V p l e R s m args below meth c Q X nL ex M lf cells slots (pc + 1) lv (.long v :: st)) : V p l e R s m args below meth c Q X nL ex M lf cells slots pc lv (st) := v_of (fun H locs ls hl k => lv_lconst F.1.1 F.1.2.1 hdg hv k) K
theorem v_dconst0 (F : Fx p l s m args meth c cc nL own X)  (hdg : decode cc pc = .ok (.dconst 0, 1))  (K : V p l e R s m args below meth c Q X nL ex M lf cells slots (pc + 1) lv (.double FP.dconst0 :: st)) : V p l e R s m args below meth c Q X nL ex M lf cells slots pc lv (st) := v_of (fun H locs ls hl k => lv_dconst0 F.1.1 F.1.2.1 hdg  k) K
theorem v_iload_n (F : Fx p l s m args meth c cc nL own X) {k : Fin 4} {i : Nat} {x : Int32} (hdg : decode cc pc = .ok (.iload_n k, 1)) (hi : (k : Nat) = i) (j : Nat) (hj : lv[j]? = some (i, .int x)) (K : V p l e R s m args below meth c Q X nL ex M lf cells slots (pc + 1) lv (.int x :: st)) : V p l e R s m args below meth c Q X nL ex M lf cells slots pc lv (st) := v_of (fun H locs ls hl k => lv_iload_n F.1.1 F.1.2.1 hdg hi (lv_at hl j hj) k) K
theorem v_iload (F : Fx p l s m args meth c cc nL own X) {i : Nat} {x : Int32} (hdg : decode cc pc = .ok (.iload i, 2)) (j : Nat) (hj : lv[j]? = some (i, .int x)) (K : V p l e R s m args below meth c Q X nL ex M lf cells slots (pc + 2) lv (.int x :: st)) : V p l e R s m args below meth c Q X nL ex M lf cells slots pc lv (st) := v_of (fun H locs ls hl k => lv_iload F.1.1 F.1.2.1 hdg (lv_at hl j hj) k) K
theorem v_aload_n (F : Fx p l s m args meth c cc nL own X) {k : Fin 4} {i : Nat} {x : Nat} (hdg : decode cc pc = .ok (.aload_n k, 1)) (hi : (k : Nat) = i) (j : Nat) (hj : lv[j]? = some (i, .ref x)) (K : V p l e R s m args below meth c Q X nL ex M lf cells slots (pc + 1) lv (.ref x :: st)) : V p l e R s m args below meth c Q X nL ex M lf cells slots pc lv (st) := v_of (fun H locs ls hl k => lv_aload_n F.1.1 F.1.2.1 hdg hi (lv_at hl j hj) k) K
theorem v_aload (F : Fx p l s m args meth c cc nL own X) {i : Nat} {x : Nat} (hdg : decode cc pc = .ok (.aload i, 2)) (j : Nat) (hj : lv[j]? = some (i, .ref x)) (K : V p l e R s m args below meth c Q X nL ex M lf cells slots (pc + 2) lv (.ref x :: st)) : V p l e R s m args below meth c Q X nL ex M lf cells slots pc lv (st) := v_of (fun H locs ls hl k => lv_aload F.1.1 F.1.2.1 hdg (lv_at hl j hj) k) K
theorem v_lload_n (F : Fx p l s m args meth c cc nL own X) {k : Fin 4} {i : Nat} {x : Int64} (hdg : decode cc pc = .ok (.lload_n k, 1)) (hi : (k : Nat) = i) (j : Nat) (hj : lv[j]? = some (i, .long x)) (K : V p l e R s m args below meth c Q X nL ex M lf cells slots (pc + 1) lv (.long x :: st)) : V p l e R s m args below meth c Q X nL ex M lf cells slots pc lv (st) := v_of (fun H locs ls hl k => lv_lload_n F.1.1 F.1.2.1 hdg hi (lv_at hl j hj) k) K
theorem v_lload (F : Fx p l s m args meth c cc nL own X) {i : Nat} {x : Int64} (hdg : decode cc pc = .ok (.lload i, 2)) (j : Nat) (hj : lv[j]? = some (i, .long x)) (K : V p l e R s m args below meth c Q X nL ex M lf cells slots (pc + 2) lv (.long x :: st)) : V p l e R s m args below meth c Q X nL ex M lf cells slots pc lv (st) := v_of (fun H locs ls hl k => lv_lload F.1.1 F.1.2.1 hdg (lv_at hl j hj) k) K
theorem v_dload_n (F : Fx p l s m args meth c cc nL own X) {k : Fin 4} {i : Nat} {x : UInt64} (hdg : decode cc pc = .ok (.dload_n k, 1)) (hi : (k : Nat) = i) (j : Nat) (hj : lv[j]? = some (i, .double x)) (K : V p l e R s m args below meth c Q X nL ex M lf cells slots (pc + 1) lv (.double x :: st)) : V p l e R s m args below meth c Q X nL ex M lf cells slots pc lv (st) := v_of (fun H locs ls hl k => lv_dload_n F.1.1 F.1.2.1 hdg hi (lv_at hl j hj) k) K
theorem v_dload (F : Fx p l s m args meth c cc nL own X) {i : Nat} {x : UInt64} (hdg : decode cc pc = .ok (.dload i, 2)) (j : Nat) (hj : lv[j]? = some (i, .double x)) (K : V p l e R s m args below meth c Q X nL ex M lf cells slots (pc + 2) lv (.double x :: st)) : V p l e R s m args below meth c Q X nL ex M lf cells slots pc lv (st) := v_of (fun H locs ls hl k => lv_dload F.1.1 F.1.2.1 hdg (lv_at hl j hj) k) K
theorem v_istore_n (F : Fx p l s m args meth c cc nL own X) {k : Fin 4} {i : Nat} {x : Int32} {lv' : List (Nat × Value)} (hdg : decode cc pc = .ok (.istore_n k, 1)) (hi : (k : Nat) = i) (hn : i < nL) (hl : (i, Value.int x) :: lv.filter (fun q => !(q.1 == i) && !(q.1 + 1 == i && q.2.category == 2)) = lv') (K : V p l e R s m args below meth c Q X nL ex M lf cells slots (pc + 1) lv' st) : V p l e R s m args below meth c Q X nL ex M lf cells slots pc lv (.int x :: st) := fun H locs ls hP hE hS h => lv_istore_n F.1.1 F.1.2.1 hdg hi h hn hl (fun ls' h' => K H locs ls' hP hE hS h')
theorem v_istore (F : Fx p l s m args meth c cc nL own X) {i : Nat} {x : Int32} {lv' : List (Nat × Value)} (hdg : decode cc pc = .ok (.istore i, 2)) (hn : i < nL) (hl : (i, Value.int x) :: lv.filter (fun q => !(q.1 == i) && !(q.1 + 1 == i && q.2.category == 2)) = lv') (K : V p l e R s m args below meth c Q X nL ex M lf cells slots (pc + 2) lv' st) : V p l e R s m args below meth c Q X nL ex M lf cells slots pc lv (.int x :: st) := fun H locs ls hP hE hS h => lv_istore F.1.1 F.1.2.1 hdg h hn hl (fun ls' h' => K H locs ls' hP hE hS h')
theorem v_astore_n (F : Fx p l s m args meth c cc nL own X) {k : Fin 4} {i : Nat} {x : Nat} {lv' : List (Nat × Value)} (hdg : decode cc pc = .ok (.astore_n k, 1)) (hi : (k : Nat) = i) (hn : i < nL) (hl : (i, Value.ref x) :: lv.filter (fun q => !(q.1 == i) && !(q.1 + 1 == i && q.2.category == 2)) = lv') (K : V p l e R s m args below meth c Q X nL ex M lf cells slots (pc + 1) lv' st) : V p l e R s m args below meth c Q X nL ex M lf cells slots pc lv (.ref x :: st) := fun H locs ls hP hE hS h => lv_astore_n F.1.1 F.1.2.1 hdg hi h hn hl (fun ls' h' => K H locs ls' hP hE hS h')
theorem v_astore (F : Fx p l s m args meth c cc nL own X) {i : Nat} {x : Nat} {lv' : List (Nat × Value)} (hdg : decode cc pc = .ok (.astore i, 2)) (hn : i < nL) (hl : (i, Value.ref x) :: lv.filter (fun q => !(q.1 == i) && !(q.1 + 1 == i && q.2.category == 2)) = lv') (K : V p l e R s m args below meth c Q X nL ex M lf cells slots (pc + 2) lv' st) : V p l e R s m args below meth c Q X nL ex M lf cells slots pc lv (.ref x :: st) := fun H locs ls hP hE hS h => lv_astore F.1.1 F.1.2.1 hdg h hn hl (fun ls' h' => K H locs ls' hP hE hS h')
theorem v_lstore_n (F : Fx p l s m args meth c cc nL own X) {k : Fin 4} {i : Nat} {x : Int64} {lv' : List (Nat × Value)} (hdg : decode cc pc = .ok (.lstore_n k, 1)) (hi : (k : Nat) = i) (hn : i + 1 < nL) (hl : (i, Value.long x) :: lv.filter (fun q => !(q.1 == i) && (!(q.1 == i + 1) && !(q.1 + 1 == i && q.2.category == 2))) = lv') (K : V p l e R s m args below meth c Q X nL ex M lf cells slots (pc + 1) lv' st) : V p l e R s m args below meth c Q X nL ex M lf cells slots pc lv (.long x :: st) := fun H locs ls hP hE hS h => lv_lstore_n F.1.1 F.1.2.1 hdg hi h hn hl (fun ls' h' => K H locs ls' hP hE hS h')
theorem v_lstore (F : Fx p l s m args meth c cc nL own X) {i : Nat} {x : Int64} {lv' : List (Nat × Value)} (hdg : decode cc pc = .ok (.lstore i, 2)) (hn : i + 1 < nL) (hl : (i, Value.long x) :: lv.filter (fun q => !(q.1 == i) && (!(q.1 == i + 1) && !(q.1 + 1 == i && q.2.category == 2))) = lv') (K : V p l e R s m args below meth c Q X nL ex M lf cells slots (pc + 2) lv' st) : V p l e R s m args below meth c Q X nL ex M lf cells slots pc lv (.long x :: st) := fun H locs ls hP hE hS h => lv_lstore F.1.1 F.1.2.1 hdg h hn hl (fun ls' h' => K H locs ls' hP hE hS h')
theorem v_dstore_n (F : Fx p l s m args meth c cc nL own X) {k : Fin 4} {i : Nat} {x : UInt64} {lv' : List (Nat × Value)} (hdg : decode cc pc = .ok (.dstore_n k, 1)) (hi : (k : Nat) = i) (hn : i + 1 < nL) (hl : (i, Value.double x) :: lv.filter (fun q => !(q.1 == i) && (!(q.1 == i + 1) && !(q.1 + 1 == i && q.2.category == 2))) = lv') (K : V p l e R s m args below meth c Q X nL ex M lf cells slots (pc + 1) lv' st) : V p l e R s m args below meth c Q X nL ex M lf cells slots pc lv (.double x :: st) := fun H locs ls hP hE hS h => lv_dstore_n F.1.1 F.1.2.1 hdg hi h hn hl (fun ls' h' => K H locs ls' hP hE hS h')
theorem v_dstore (F : Fx p l s m args meth c cc nL own X) {i : Nat} {x : UInt64} {lv' : List (Nat × Value)} (hdg : decode cc pc = .ok (.dstore i, 2)) (hn : i + 1 < nL) (hl : (i, Value.double x) :: lv.filter (fun q => !(q.1 == i) && (!(q.1 == i + 1) && !(q.1 + 1 == i && q.2.category == 2))) = lv') (K : V p l e R s m args below meth c Q X nL ex M lf cells slots (pc + 2) lv' st) : V p l e R s m args below meth c Q X nL ex M lf cells slots pc lv (.double x :: st) := fun H locs ls hP hE hS h => lv_dstore F.1.1 F.1.2.1 hdg h hn hl (fun ls' h' => K H locs ls' hP hE hS h')
theorem v_iinc (F : Fx p l s m args meth c cc nL own X) {i k : Nat} {n : Int} {x : Int32} (v : Int32) {lv' : List (Nat × Value)} (hdg : decode cc pc = .ok (.iinc i n, 3)) (hk : lv[k]? = some (i, .int x)) (hv : x + Int32.ofInt n = v) (hn : i < nL) (hl : (i, Value.int v) :: lv.filter (fun q => !(q.1 == i) && !(q.1 + 1 == i && q.2.category == 2)) = lv') (K : V p l e R s m args below meth c Q X nL ex M lf cells slots (pc + 3) lv' st) : V p l e R s m args below meth c Q X nL ex M lf cells slots pc lv st := fun H locs ls hP hE hS h => lv_iinc F.1.1 F.1.2.1 hdg h hk hv hn hl (fun ls' h' => K H locs ls' hP hE hS h')
theorem v_iadd (F : Fx p l s m args meth c cc nL own X) {x y : Int32} (hdg : decode cc pc = .ok (.iadd, 1))  (K : V p l e R s m args below meth c Q X nL ex M lf cells slots (pc + 1) lv (.int (x + y) :: st)) : V p l e R s m args below meth c Q X nL ex M lf cells slots pc lv (.int y :: .int x :: st) := v_of (fun H locs ls hl k => lv_iadd F.1.1 F.1.2.1 hdg  k) K
theorem v_isub (F : Fx p l s m args meth c cc nL own X) {x y : Int32} (hdg : decode cc pc = .ok (.isub, 1))  (K : V p l e R s m args below meth c Q X nL ex M lf cells slots (pc + 1) lv (.int (x - y) :: st)) : V p l e R s m args below meth c Q X nL ex M lf cells slots pc lv (.int y :: .int x :: st) := v_of (fun H locs ls hl k => lv_isub F.1.1 F.1.2.1 hdg  k) K
theorem v_imul (F : Fx p l s m args meth c cc nL own X) {x y : Int32} (hdg : decode cc pc = .ok (.imul, 1))  (K : V p l e R s m args below meth c Q X nL ex M lf cells slots (pc + 1) lv (.int (x * y) :: st)) : V p l e R s m args below meth c Q X nL ex M lf cells slots pc lv (.int y :: .int x :: st) := v_of (fun H locs ls hl k => lv_imul F.1.1 F.1.2.1 hdg  k) K
theorem v_iand (F : Fx p l s m args meth c cc nL own X) {x y : Int32} (hdg : decode cc pc = .ok (.iand, 1))  (K : V p l e R s m args below meth c Q X nL ex M lf cells slots (pc + 1) lv (.int (x &&& y) :: st)) : V p l e R s m args below meth c Q X nL ex M lf cells slots pc lv (.int y :: .int x :: st) := v_of (fun H locs ls hl k => lv_iand F.1.1 F.1.2.1 hdg  k) K
theorem v_ior (F : Fx p l s m args meth c cc nL own X) {x y : Int32} (hdg : decode cc pc = .ok (.ior, 1))  (K : V p l e R s m args below meth c Q X nL ex M lf cells slots (pc + 1) lv (.int (x ||| y) :: st)) : V p l e R s m args below meth c Q X nL ex M lf cells slots pc lv (.int y :: .int x :: st) := v_of (fun H locs ls hl k => lv_ior F.1.1 F.1.2.1 hdg  k) K
theorem v_ixor (F : Fx p l s m args meth c cc nL own X) {x y : Int32} (hdg : decode cc pc = .ok (.ixor, 1))  (K : V p l e R s m args below meth c Q X nL ex M lf cells slots (pc + 1) lv (.int (x ^^^ y) :: st)) : V p l e R s m args below meth c Q X nL ex M lf cells slots pc lv (.int y :: .int x :: st) := v_of (fun H locs ls hl k => lv_ixor F.1.1 F.1.2.1 hdg  k) K
theorem v_ishl (F : Fx p l s m args meth c cc nL own X) {x y : Int32} (hdg : decode cc pc = .ok (.ishl, 1))  (K : V p l e R s m args below meth c Q X nL ex M lf cells slots (pc + 1) lv (.int (x <<< (y &&& 31)) :: st)) : V p l e R s m args below meth c Q X nL ex M lf cells slots pc lv (.int y :: .int x :: st) := v_of (fun H locs ls hl k => lv_ishl F.1.1 F.1.2.1 hdg  k) K
theorem v_idiv (F : Fx p l s m args meth c cc nL own X) {x y : Int32} (hdg : decode cc pc = .ok (.idiv, 1)) (hne : ¬ y = 0) (K : V p l e R s m args below meth c Q X nL ex M lf cells slots (pc + 1) lv (.int (x / y) :: st)) : V p l e R s m args below meth c Q X nL ex M lf cells slots pc lv (.int y :: .int x :: st) := v_of (fun H locs ls hl k => lv_idiv F.1.1 F.1.2.1 hdg hne k) K
theorem v_irem (F : Fx p l s m args meth c cc nL own X) {x y : Int32} (hdg : decode cc pc = .ok (.irem, 1)) (hne : ¬ y = 0) (K : V p l e R s m args below meth c Q X nL ex M lf cells slots (pc + 1) lv (.int (x - x / y * y) :: st)) : V p l e R s m args below meth c Q X nL ex M lf cells slots pc lv (.int y :: .int x :: st) := v_of (fun H locs ls hl k => lv_irem F.1.1 F.1.2.1 hdg hne k) K
theorem v_ladd (F : Fx p l s m args meth c cc nL own X) {x y : Int64} (hdg : decode cc pc = .ok (.ladd, 1))  (K : V p l e R s m args below meth c Q X nL ex M lf cells slots (pc + 1) lv (.long (x + y) :: st)) : V p l e R s m args below meth c Q X nL ex M lf cells slots pc lv (.long y :: .long x :: st) := v_of (fun H locs ls hl k => lv_ladd F.1.1 F.1.2.1 hdg  k) K
theorem v_lmul (F : Fx p l s m args meth c cc nL own X) {x y : Int64} (hdg : decode cc pc = .ok (.lmul, 1))  (K : V p l e R s m args below meth c Q X nL ex M lf cells slots (pc + 1) lv (.long (x * y) :: st)) : V p l e R s m args below meth c Q X nL ex M lf cells slots pc lv (.long y :: .long x :: st) := v_of (fun H locs ls hl k => lv_lmul F.1.1 F.1.2.1 hdg  k) K
theorem v_i2l (F : Fx p l s m args meth c cc nL own X) {x : Int32} (hdg : decode cc pc = .ok (.i2l, 1))  (K : V p l e R s m args below meth c Q X nL ex M lf cells slots (pc + 1) lv (.long x.toInt64 :: st)) : V p l e R s m args below meth c Q X nL ex M lf cells slots pc lv (.int x :: st) := v_of (fun H locs ls hl k => lv_i2l F.1.1 F.1.2.1 hdg rfl k) K
theorem v_i2d (F : Fx p l s m args meth c cc nL own X) {x : Int32} (hdg : decode cc pc = .ok (.i2d, 1))  (K : V p l e R s m args below meth c Q X nL ex M lf cells slots (pc + 1) lv (.double (FP.i2d x) :: st)) : V p l e R s m args below meth c Q X nL ex M lf cells slots pc lv (.int x :: st) := v_of (fun H locs ls hl k => lv_i2d F.1.1 F.1.2.1 hdg  k) K
theorem v_ddiv (F : Fx p l s m args meth c cc nL own X) {x y : UInt64} (hdg : decode cc pc = .ok (.ddiv, 1)) (hne : vf_n64 (FP.ddiv x y)) (K : V p l e R s m args below meth c Q X nL ex M lf cells slots (pc + 1) lv (.double (FP.ddiv x y) :: st)) : V p l e R s m args below meth c Q X nL ex M lf cells slots pc lv (.double y :: .double x :: st) := v_of (fun H locs ls hl k => lv_ddiv F.1.1 F.1.2.1 hdg hne k) K
theorem v_lcmp (F : Fx p l s m args meth c cc nL own X) {x y : Int64} (hdg : decode cc pc = .ok (.lcmp, 1))  (K : V p l e R s m args below meth c Q X nL ex M lf cells slots (pc + 1) lv (.int (lg_cmp x y) :: st)) : V p l e R s m args below meth c Q X nL ex M lf cells slots pc lv (.long y :: .long x :: st) := v_of (fun H locs ls hl k => W.lcmp F.1.1 F.1.2.1 hdg  k) K
theorem v_dcmp (F : Fx p l s m args meth c cc nL own X) {x y : UInt64} {op : CmpOp} (hdg : decode cc pc = .ok (.dcmp op, 1))  (K : V p l e R s m args below meth c Q X nL ex M lf cells slots (pc + 1) lv (.int (Op.cmpValue (FP.dcmp x y) op) :: st)) : V p l e R s m args below meth c Q X nL ex M lf cells slots pc lv (.double y :: .double x :: st) := v_of (fun H locs ls hl k => lv_dcmp F.1.1 F.1.2.1 hdg  k) K
theorem v_dup (F : Fx p l s m args meth c cc nL own X) {va : Value} (hdg : decode cc pc = .ok (.dup, 1)) (hva : va.category = 1) (K : V p l e R s m args below meth c Q X nL ex M lf cells slots (pc + 1) lv (va :: va :: st)) : V p l e R s m args below meth c Q X nL ex M lf cells slots pc lv (va :: st) := v_of (fun H locs ls hl k => lv_dup F.1.1 F.1.2.1 hdg hva k) K
theorem v_pop (F : Fx p l s m args meth c cc nL own X) {va : Value} (hdg : decode cc pc = .ok (.pop, 1)) (hva : va.category = 1) (K : V p l e R s m args below meth c Q X nL ex M lf cells slots (pc + 1) lv (st)) : V p l e R s m args below meth c Q X nL ex M lf cells slots pc lv (va :: st) := v_of (fun H locs ls hl k => lv_pop F.1.1 F.1.2.1 hdg hva k) K
theorem v_dup2_11 (F : Fx p l s m args meth c cc nL own X) {va vb : Value} (hdg : decode cc pc = .ok (.dup2, 1)) (hva : va.category = 1) (hvb : vb.category = 1) (K : V p l e R s m args below meth c Q X nL ex M lf cells slots (pc + 1) lv (va :: vb :: va :: vb :: st)) : V p l e R s m args below meth c Q X nL ex M lf cells slots pc lv (va :: vb :: st) := v_of (fun H locs ls hl k => lv_dup2_11 F.1.1 F.1.2.1 hdg hva hvb k) K
theorem v_if_eq (F : Fx p l s m args meth c cc nL own X) {x : Int32} {off : Int} {tgt : Nat} (hdg : decode cc pc = .ok (.ifCond .eq off, 3)) (ht : (pc : Int) + off = (tgt : Int)) (Kt : x = 0 → V p l e R s m args below meth c Q X nL ex M lf cells slots tgt lv st) (Kf : ¬ x = 0 → V p l e R s m args below meth c Q X nL ex M lf cells slots (pc + 3) lv st) : V p l e R s m args below meth c Q X nL ex M lf cells slots pc lv (.int x :: st) := fun H locs ls hP hE hS hl => lv_if_eq F.1.1 F.1.2.1 hdg ht (fun h => Kt h H locs ls hP hE hS hl) (fun h => Kf h H locs ls hP hE hS hl)
theorem v_icmp_eq (F : Fx p l s m args meth c cc nL own X) {x y : Int32} {off : Int} {tgt : Nat} (hdg : decode cc pc = .ok (.if_icmp .eq off, 3)) (ht : (pc : Int) + off = (tgt : Int)) (Kt : x = y → V p l e R s m args below meth c Q X nL ex M lf cells slots tgt lv st) (Kf : ¬ x = y → V p l e R s m args below meth c Q X nL ex M lf cells slots (pc + 3) lv st) : V p l e R s m args below meth c Q X nL ex M lf cells slots pc lv (.int y :: .int x :: st) := fun H locs ls hP hE hS hl => lv_icmp_eq F.1.1 F.1.2.1 hdg ht (fun h => Kt h H locs ls hP hE hS hl) (fun h => Kf h H locs ls hP hE hS hl)
theorem v_if_ne (F : Fx p l s m args meth c cc nL own X) {x : Int32} {off : Int} {tgt : Nat} (hdg : decode cc pc = .ok (.ifCond .ne off, 3)) (ht : (pc : Int) + off = (tgt : Int)) (Kt : ¬ x = 0 → V p l e R s m args below meth c Q X nL ex M lf cells slots tgt lv st) (Kf : x = 0 → V p l e R s m args below meth c Q X nL ex M lf cells slots (pc + 3) lv st) : V p l e R s m args below meth c Q X nL ex M lf cells slots pc lv (.int x :: st) := fun H locs ls hP hE hS hl => lv_if_ne F.1.1 F.1.2.1 hdg ht (fun h => Kt h H locs ls hP hE hS hl) (fun h => Kf h H locs ls hP hE hS hl)
theorem v_icmp_ne (F : Fx p l s m args meth c cc nL own X) {x y : Int32} {off : Int} {tgt : Nat} (hdg : decode cc pc = .ok (.if_icmp .ne off, 3)) (ht : (pc : Int) + off = (tgt : Int)) (Kt : ¬ x = y → V p l e R s m args below meth c Q X nL ex M lf cells slots tgt lv st) (Kf : x = y → V p l e R s m args below meth c Q X nL ex M lf cells slots (pc + 3) lv st) : V p l e R s m args below meth c Q X nL ex M lf cells slots pc lv (.int y :: .int x :: st) := fun H locs ls hP hE hS hl => lv_icmp_ne F.1.1 F.1.2.1 hdg ht (fun h => Kt h H locs ls hP hE hS hl) (fun h => Kf h H locs ls hP hE hS hl)
theorem v_if_lt (F : Fx p l s m args meth c cc nL own X) {x : Int32} {off : Int} {tgt : Nat} (hdg : decode cc pc = .ok (.ifCond .lt off, 3)) (ht : (pc : Int) + off = (tgt : Int)) (Kt : x < 0 → V p l e R s m args below meth c Q X nL ex M lf cells slots tgt lv st) (Kf : ¬ x < 0 → V p l e R s m args below meth c Q X nL ex M lf cells slots (pc + 3) lv st) : V p l e R s m args below meth c Q X nL ex M lf cells slots pc lv (.int x :: st) := fun H locs ls hP hE hS hl => lv_if_lt F.1.1 F.1.2.1 hdg ht (fun h => Kt h H locs ls hP hE hS hl) (fun h => Kf h H locs ls hP hE hS hl)
theorem v_icmp_lt (F : Fx p l s m args meth c cc nL own X) {x y : Int32} {off : Int} {tgt : Nat} (hdg : decode cc pc = .ok (.if_icmp .lt off, 3)) (ht : (pc : Int) + off = (tgt : Int)) (Kt : x < y → V p l e R s m args below meth c Q X nL ex M lf cells slots tgt lv st) (Kf : ¬ x < y → V p l e R s m args below meth c Q X nL ex M lf cells slots (pc + 3) lv st) : V p l e R s m args below meth c Q X nL ex M lf cells slots pc lv (.int y :: .int x :: st) := fun H locs ls hP hE hS hl => lv_icmp_lt F.1.1 F.1.2.1 hdg ht (fun h => Kt h H locs ls hP hE hS hl) (fun h => Kf h H locs ls hP hE hS hl)
theorem v_if_ge (F : Fx p l s m args meth c cc nL own X) {x : Int32} {off : Int} {tgt : Nat} (hdg : decode cc pc = .ok (.ifCond .ge off, 3)) (ht : (pc : Int) + off = (tgt : Int)) (Kt : 0 ≤ x → V p l e R s m args below meth c Q X nL ex M lf cells slots tgt lv st) (Kf : ¬ 0 ≤ x → V p l e R s m args below meth c Q X nL ex M lf cells slots (pc + 3) lv st) : V p l e R s m args below meth c Q X nL ex M lf cells slots pc lv (.int x :: st) := fun H locs ls hP hE hS hl => lv_if_ge F.1.1 F.1.2.1 hdg ht (fun h => Kt h H locs ls hP hE hS hl) (fun h => Kf h H locs ls hP hE hS hl)
theorem v_icmp_ge (F : Fx p l s m args meth c cc nL own X) {x y : Int32} {off : Int} {tgt : Nat} (hdg : decode cc pc = .ok (.if_icmp .ge off, 3)) (ht : (pc : Int) + off = (tgt : Int)) (Kt : y ≤ x → V p l e R s m args below meth c Q X nL ex M lf cells slots tgt lv st) (Kf : ¬ y ≤ x → V p l e R s m args below meth c Q X nL ex M lf cells slots (pc + 3) lv st) : V p l e R s m args below meth c Q X nL ex M lf cells slots pc lv (.int y :: .int x :: st) := fun H locs ls hP hE hS hl => lv_icmp_ge F.1.1 F.1.2.1 hdg ht (fun h => Kt h H locs ls hP hE hS hl) (fun h => Kf h H locs ls hP hE hS hl)
theorem v_if_gt (F : Fx p l s m args meth c cc nL own X) {x : Int32} {off : Int} {tgt : Nat} (hdg : decode cc pc = .ok (.ifCond .gt off, 3)) (ht : (pc : Int) + off = (tgt : Int)) (Kt : 0 < x → V p l e R s m args below meth c Q X nL ex M lf cells slots tgt lv st) (Kf : ¬ 0 < x → V p l e R s m args below meth c Q X nL ex M lf cells slots (pc + 3) lv st) : V p l e R s m args below meth c Q X nL ex M lf cells slots pc lv (.int x :: st) := fun H locs ls hP hE hS hl => lv_if_gt F.1.1 F.1.2.1 hdg ht (fun h => Kt h H locs ls hP hE hS hl) (fun h => Kf h H locs ls hP hE hS hl)
theorem v_icmp_gt (F : Fx p l s m args meth c cc nL own X) {x y : Int32} {off : Int} {tgt : Nat} (hdg : decode cc pc = .ok (.if_icmp .gt off, 3)) (ht : (pc : Int) + off = (tgt : Int)) (Kt : y < x → V p l e R s m args below meth c Q X nL ex M lf cells slots tgt lv st) (Kf : ¬ y < x → V p l e R s m args below meth c Q X nL ex M lf cells slots (pc + 3) lv st) : V p l e R s m args below meth c Q X nL ex M lf cells slots pc lv (.int y :: .int x :: st) := fun H locs ls hP hE hS hl => lv_icmp_gt F.1.1 F.1.2.1 hdg ht (fun h => Kt h H locs ls hP hE hS hl) (fun h => Kf h H locs ls hP hE hS hl)
theorem v_if_le (F : Fx p l s m args meth c cc nL own X) {x : Int32} {off : Int} {tgt : Nat} (hdg : decode cc pc = .ok (.ifCond .le off, 3)) (ht : (pc : Int) + off = (tgt : Int)) (Kt : x ≤ 0 → V p l e R s m args below meth c Q X nL ex M lf cells slots tgt lv st) (Kf : ¬ x ≤ 0 → V p l e R s m args below meth c Q X nL ex M lf cells slots (pc + 3) lv st) : V p l e R s m args below meth c Q X nL ex M lf cells slots pc lv (.int x :: st) := fun H locs ls hP hE hS hl => lv_if_le F.1.1 F.1.2.1 hdg ht (fun h => Kt h H locs ls hP hE hS hl) (fun h => Kf h H locs ls hP hE hS hl)
theorem v_icmp_le (F : Fx p l s m args meth c cc nL own X) {x y : Int32} {off : Int} {tgt : Nat} (hdg : decode cc pc = .ok (.if_icmp .le off, 3)) (ht : (pc : Int) + off = (tgt : Int)) (Kt : x ≤ y → V p l e R s m args below meth c Q X nL ex M lf cells slots tgt lv st) (Kf : ¬ x ≤ y → V p l e R s m args below meth c Q X nL ex M lf cells slots (pc + 3) lv st) : V p l e R s m args below meth c Q X nL ex M lf cells slots pc lv (.int y :: .int x :: st) := fun H locs ls hP hE hS hl => lv_icmp_le F.1.1 F.1.2.1 hdg ht (fun h => Kt h H locs ls hP hE hS hl) (fun h => Kf h H locs ls hP hE hS hl)
theorem v_goto (F : Fx p l s m args meth c cc nL own X) {off : Int} {tgt : Nat} (hdg : decode cc pc = .ok (.goto off, 3)) (ht : (pc : Int) + off = (tgt : Int)) (K : V p l e R s m args below meth c Q X nL ex M lf cells slots tgt lv st) : V p l e R s m args below meth c Q X nL ex M lf cells slots pc lv st := v_of (fun H locs ls hl k => lv_goto F.1.1 F.1.2.1 hdg ht k) K
theorem v_tableOut (F : Fx p l s m args meth c cc nL own X) {dflt lo hi : Int} {offs : Array Int} {len : Nat} {x : Int32} {tgt : Nat} (hdg : decode cc pc = .ok (.tableswitch dflt lo hi offs, len)) (h : x.toInt < lo ∨ hi < x.toInt) (ht : (pc : Int) + dflt = (tgt : Int)) (K : V p l e R s m args below meth c Q X nL ex M lf cells slots tgt lv st) : V p l e R s m args below meth c Q X nL ex M lf cells slots pc lv (.int x :: st) := v_of (fun H locs ls hl k => lv_tableOut F.1.1 F.1.2.1 hdg h ht k) K
theorem v_tableIn (F : Fx p l s m args meth c cc nL own X) {dflt lo hi : Int} {offs : Array Int} {len : Nat} {x : Int32} {off : Int} {tgt : Nat} (hdg : decode cc pc = .ok (.tableswitch dflt lo hi offs, len)) (h1 : ¬ x.toInt < lo) (h2 : ¬ hi < x.toInt) (ho : offs[(x.toInt - lo).toNat]? = some off) (ht : (pc : Int) + off = (tgt : Int)) (K : V p l e R s m args below meth c Q X nL ex M lf cells slots tgt lv st) : V p l e R s m args below meth c Q X nL ex M lf cells slots pc lv (.int x :: st) := v_of (fun H locs ls hl k => lv_tableIn F.1.1 F.1.2.1 hdg h1 h2 ho ht k) K
theorem v_lookup (F : Fx p l s m args meth c cc nL own X) {dflt : Int} {ps : Array (Int × Int)} {len : Nat} {x : Int32} {off : Int} {tgt : Nat} (hdg : decode cc pc = .ok (.lookupswitch dflt ps, len)) (hp : (ps.toList.zip (ps.toList.drop 1)).all (fun (a, next) => a.1 < next.1) = true) (ho : Op.lookupswitch.offset ps.toList dflt x.toInt = off) (ht : (pc : Int) + off = (tgt : Int)) (K : V p l e R s m args below meth c Q X nL ex M lf cells slots tgt lv st) : V p l e R s m args below meth c Q X nL ex M lf cells slots pc lv (.int x :: st) := v_of (fun H locs ls hl k => lv_lookup F.1.1 F.1.2.1 hdg hp ho ht k) K
theorem v_ldc2 (F : Fx p l s m args meth c cc nL own X) {index : Nat} {v : Int64} (hc : Cond.constantLong own index v ∈ wAll) (hdg : decode cc pc = .ok (.ldc2_w index, 3)) (K : V p l e R s m args below meth c Q X nL ex M lf cells slots (pc + 3) lv (.long v :: st)) : V p l e R s m args below meth c Q X nL ex M lf cells slots pc lv st := v_of (fun H locs ls hl k => lv_ldc2 F.1.1 F.1.2.1 F.1.2.2.2.1 (F.1.2.2.2.2 _ hc) hdg k) K
theorem v_get (F : Fx p l s m args meth c cc nL own X) {r k i ci : Nat} {fs : List Value} {C : String} {T : u_T} {N : Nat} (hid : (r, k, i) ∈ ids) (he : celD X lf r k i (M r k i) = .inr (ci, fs)) (hc : vwCl[ci]? = some (C, T, N)) (hin : ∀ w, w ∈ u_ws C T N → w ∈ wAll) (j : Nat) (hj : j < N) (hT : (T j).1 = C) {v : Value} (hv : fs[j]? = some v) {index : Nat} (hlink : Cond.fieldLink own index C (T j).2.1 (T j).2.2.1 ∈ wAll) (hdg : decode cc pc = .ok (.getfield index, 3)) (K : V p l e R s m args below meth c Q X nL ex M lf cells slots (pc + 3) lv (v :: st)) : V p l e R s m args below meth c Q X nL ex M lf cells slots pc lv (.ref (X.2.1 r k i) :: st) := by
  intro H locs ls hP hE hS hl
  obtain ⟨q0, h0, hq⟩ := wl_get (X := X) (M := M) (lf := lf) (ex := ex) hid
  rw [he] at hq
  exact va_get F.1.1 F.1.2.1 F.1.2.2.2.2 hin F.1.2.2.2.1 F.2.1.2.1 hP q0 hq hc j hj (F.1.2.2.2.2 _ hlink) (by rw [hT]; exact fun x h => h) hv hdg (K H locs ls hP hE hS hl)
theorem v_getN (F : Fx p l s m args meth c cc nL own X) {r k i ci : Nat} {fs : List Value} {C host : String} {T : u_T} {N : Nat} (hid : (r, k, i) ∈ ids) (he : celD X lf r k i (M r k i) = .inr (ci, fs)) (hc : vwCl[ci]? = some (C, T, N)) (hin : ∀ w, w ∈ u_ws C T N → w ∈ wAll) (j : Nat) (hj : j < N) (hT : (T j).1 = C) {v : Value} (hv : fs[j]? = some v) {index : Nat} (hlink : Cond.fieldLinkNest own index C (T j).2.1 (T j).2.2.1 host ∈ nestW) (hdg : decode cc pc = .ok (.getfield index, 3)) (K : V p l e R s m args below meth c Q X nL ex M lf cells slots (pc + 3) lv (v :: st)) : V p l e R s m args below meth c Q X nL ex M lf cells slots pc lv (.ref (X.2.1 r k i) :: st) := by
  intro H locs ls hP hE hS hl
  obtain ⟨q0, h0, hq⟩ := wl_get (X := X) (M := M) (lf := lf) (ex := ex) hid
  rw [he] at hq
  exact va_getN F.1.1 F.1.2.1 F.1.2.2.2.2 hin F.1.2.2.2.1 F.2.1.2.1 hP q0 hq hc j hj (va_Nw.use rfl (F.2.1.2.2.1 _ hlink)) (by rw [hT]; exact fun x h => h) hv hdg (K H locs ls hP hE hS hl)
theorem v_put (F : Fx p l s m args meth c cc nL own X) {r k i ci : Nat} {fs : List Value} {C : String} {T : u_T} {N : Nat} (ty0 : Nat → FieldType) (hty : ∀ k, k < N → parseFieldDescriptor (T k).2.2.1 = some (ty0 k)) (hnm : ∀ a, a < N → ∀ b, b < N → a ≠ b → (T a).2.1 ≠ (T b).2.1) (hid : (r, k, i) ∈ ids) (he : celD X lf r k i (M r k i) = .inr (ci, fs)) (hc : vwCl[ci]? = some (C, T, N)) (hin : ∀ w, w ∈ u_ws C T N → w ∈ wAll) (j : Nat) (hj : j < N) (hT : (T j).1 = C) (hF : (T j).2.2.2 = false) (hd : parseFieldDescriptor (T j).2.2.1 = some .int) {v : Int32} (he2 : celD X lf r k i (upd (M r k i) j v) = .inr (ci, fs.set j (.int v))) (hl0 : j < fs.length) {index : Nat} (hlink : Cond.fieldLink own index C (T j).2.1 (T j).2.2.1 ∈ wAll) (hdg : decode cc pc = .ok (.putfield index, 3)) (K : V p l e R s m args below meth c Q X nL ex (uC M r (u3 (M r) k i j v)) lf cells slots (pc + 3) lv st) : V p l e R s m args below meth c Q X nL ex M lf cells slots pc lv (.int v :: .ref (X.2.1 r k i) :: st) := by
  intro H locs ls hP hE hS hl
  obtain ⟨q0, h0, hq⟩ := wl_get (X := X) (M := M) (lf := lf) (ex := ex) hid
  rw [he] at hq
  refine va_put F.1.1 F.1.2.1 F.1.2.2.2.2 hin ty0 hty hnm F.1.2.2.2.1 F.2.1.2.1 hP (wl_DE F.2.2.1 M lf hE) hS q0 hq hc j hj (F.1.2.2.2.2 _ hlink) (by rw [hT]; exact fun x h => h) hF hd rfl rfl hl0 hdg (fun H1 locs1 hP1 hD1 hS1 => ?_)
  rw [← he2, wl_set h0] at hP1
  exact K H1 locs1 ls hP1 hE hS1 hl
theorem v_putN (F : Fx p l s m args meth c cc nL own X) {r k i ci : Nat} {fs : List Value} {C host : String} {T : u_T} {N : Nat} (ty0 : Nat → FieldType) (hty : ∀ k, k < N → parseFieldDescriptor (T k).2.2.1 = some (ty0 k)) (hnm : ∀ a, a < N → ∀ b, b < N → a ≠ b → (T a).2.1 ≠ (T b).2.1) (hid : (r, k, i) ∈ ids) (he : celD X lf r k i (M r k i) = .inr (ci, fs)) (hc : vwCl[ci]? = some (C, T, N)) (hin : ∀ w, w ∈ u_ws C T N → w ∈ wAll) (j : Nat) (hj : j < N) (hT : (T j).1 = C) (hF : (T j).2.2.2 = false) (hd : parseFieldDescriptor (T j).2.2.1 = some .int) {v : Int32} (he2 : celD X lf r k i (upd (M r k i) j v) = .inr (ci, fs.set j (.int v))) (hl0 : j < fs.length) {index : Nat} (hlink : Cond.fieldLinkNest own index C (T j).2.1 (T j).2.2.1 host ∈ nestW) (hdg : decode cc pc = .ok (.putfield index, 3)) (K : V p l e R s m args below meth c Q X nL ex (uC M r (u3 (M r) k i j v)) lf cells slots (pc + 3) lv st) : V p l e R s m args below meth c Q X nL ex M lf cells slots pc lv (.int v :: .ref (X.2.1 r k i) :: st) := by
  intro H locs ls hP hE hS hl
  obtain ⟨q0, h0, hq⟩ := wl_get (X := X) (M := M) (lf := lf) (ex := ex) hid
  rw [he] at hq
  refine va_putN F.1.1 F.1.2.1 F.1.2.2.2.2 hin ty0 hty hnm F.1.2.2.2.1 F.2.1.2.1 hP (wl_DE F.2.2.1 M lf hE) hS q0 hq hc j hj (va_Nw.use rfl (F.2.1.2.2.1 _ hlink)) (by rw [hT]; exact fun x h => h) hF hd rfl rfl hl0 hdg (fun H1 locs1 hP1 hD1 hS1 => ?_)
  rw [← he2, wl_set h0] at hP1
  exact K H1 locs1 ls hP1 hE hS1 hl
/-- an index, as a number -/
def Ix (x : Int32) (j n : Nat) : Prop := ¬ x < 0 ∧ x.toNatClampNeg = j ∧ j < n
theorem Ix_in {x : Int32} {j n : Nat} (h : Ix x j n) : vp_in x n := fun z => z.elim h.1 (fun z => by rw [h.2.1] at z; exact absurd h.2.2 (Nat.not_lt.mpr z))
theorem Ix_nI {j n : Nat} (h : j < n) (hn : n < 2 ^ 31 := by decide) : Ix (nI j) j n := ⟨nI_pos (Nat.lt_trans h hn), nI_clamp (Nat.lt_trans h hn), h⟩
theorem v_iald (F : Fx p l s m args meth c cc nL own X) {r k i n : Nat} {cA : ClassId} {f : Nat → Int32} (hid : (r, k, i) ∈ ids) (he : celD X lf r k i (M r k i) = .inl (cA, n, .inl f)) (hcA : cA = X.2.2.1 0) {x : Int32} (j : Nat) (hx : Ix x j n) (hdg : decode cc pc = .ok (.iaload, 1)) (K : V p l e R s m args below meth c Q X nL ex M lf cells slots (pc + 1) lv (.int (f j) :: st)) : V p l e R s m args below meth c Q X nL ex M lf cells slots pc lv (.int x :: .ref (X.2.1 r k i) :: st) := by
  intro H locs ls hP hE hS hl
  subst hcA
  obtain ⟨q0, h0, hq⟩ := wl_get (X := X) (M := M) (lf := lf) (ex := ex) hid
  rw [he] at hq
  have hK := K H locs ls hP hE hS hl
  rw [← hx.2.1] at hK
  exact va_iald F.1.1 F.1.2.1 F.2.1.2.1 hP q0 0 hq rfl (Ix_in hx) hdg hK
theorem v_iast (F : Fx p l s m args meth c cc nL own X) {r k i n : Nat} {cA : ClassId} {f : Nat → Int32} (hid : (r, k, i) ∈ ids) (he : celD X lf r k i (M r k i) = .inl (cA, n, .inl f)) (hcA : cA = X.2.2.1 0) {x v : Int32} (j : Nat) (hx : Ix x j n) (he2 : celD X lf r k i (upd (M r k i) j v) = .inl (cA, n, .inl (upd f j v))) (hdg : decode cc pc = .ok (.iastore, 1)) (K : V p l e R s m args below meth c Q X nL ex (uC M r (u3 (M r) k i j v)) lf cells slots (pc + 1) lv st) : V p l e R s m args below meth c Q X nL ex M lf cells slots pc lv (.int v :: .int x :: .ref (X.2.1 r k i) :: st) := by
  intro H locs ls hP hE hS hl
  subst hcA
  obtain ⟨q0, h0, hq⟩ := wl_get (X := X) (M := M) (lf := lf) (ex := ex) hid
  rw [he] at hq
  refine va_iast F.1.1 F.1.2.1 F.2.1.2.1 hP (wl_DE F.2.2.1 M lf hE) hS q0 0 hq rfl (Ix_in hx) hdg (fun H1 locs1 hP1 hD1 hS1 => ?_)
  rw [hx.2.1, ← he2, wl_set h0] at hP1
  exact K H1 locs1 ls hP1 hE hS1 hl
theorem v_aald (F : Fx p l s m args meth c cc nL own X) {r k i n t0 : Nat} {cA : ClassId} {C : String} {f : Nat → Option Nat} (hid : (r, k, i) ∈ ids) (he : celD X lf r k i (M r k i) = .inl (cA, n, .inr (.inr (.inr (.inr f))))) (ht : (tysX X)[t0]? = some (cA, .object C)) {x : Int32} (j : Nat) (hx : Ix x j n) {a : Nat} (hf : f j = some a) (hdg : decode cc pc = .ok (.aaload, 1)) (K : V p l e R s m args below meth c Q X nL ex M lf cells slots (pc + 1) lv (.ref a :: st)) : V p l e R s m args below meth c Q X nL ex M lf cells slots pc lv (.int x :: .ref (X.2.1 r k i) :: st) := by
  intro H locs ls hP hE hS hl
  obtain ⟨q0, h0, hq⟩ := wl_get (X := X) (M := M) (lf := lf) (ex := ex) hid
  rw [he] at hq
  have hK := K H locs ls hP hE hS hl
  refine va_aldq F.1.1 F.1.2.1 F.2.1.2.1 hP q0 t0 hq ht (Ix_in hx) hdg ?_
  rw [hx.2.1, hf]
  exact hK
theorem v_alen (F : Fx p l s m args meth c cc nL own X) {r k i n t0 : Nat} {cA : ClassId} {ty : FieldType} {f : (Nat → Int32) ⊕ (Nat → Int64) ⊕ (Nat → UInt32) ⊕ (Nat → UInt64) ⊕ (Nat → Option Nat)} (hid : (r, k, i) ∈ ids) (he : celD X lf r k i (M r k i) = .inl (cA, n, f)) (ht : (tysX X)[t0]? = some (cA, ty)) {v : Int32} (hv : Int32.ofNat n = v) (hdg : decode cc pc = .ok (.arraylength, 1)) (K : V p l e R s m args below meth c Q X nL ex M lf cells slots (pc + 1) lv (.int v :: st)) : V p l e R s m args below meth c Q X nL ex M lf cells slots pc lv (.ref (X.2.1 r k i) :: st) := by
  intro H locs ls hP hE hS hl
  obtain ⟨q0, h0, hq⟩ := wl_get (X := X) (M := M) (lf := lf) (ex := ex) hid
  rw [he] at hq
  exact va_alen F.1.1 F.1.2.1 F.2.1.2.1 hP q0 t0 hq ht hv hdg (K H locs ls hP hE hS hl)
theorem v_lald (F : Fx p l s m args meth c cc nL own X) {x : Int32} (hx : Ix x 0 1) (hdg : decode cc pc = .ok (.laload, 1)) (K : V p l e R s m args below meth c Q X nL ex M lf cells slots (pc + 1) lv (.long (lf 0) :: st)) : V p l e R s m args below meth c Q X nL ex M lf cells slots pc lv (.int x :: .ref (X.2.1 6 0 0) :: st) := by
  intro H locs ls hP hE hS hl
  obtain ⟨q0, h0, hq⟩ := wl_get (X := X) (M := M) (lf := lf) (ex := ex) id_6
  have hK := K H locs ls hP hE hS hl
  rw [← hx.2.1] at hK
  exact va_lald F.1.1 F.1.2.1 F.2.1.2.1 hP q0 3 (f := lf) (n := 1) hq rfl (Ix_in hx) hdg hK
theorem wl_lset {M : Mem} {lf lf' : Lf} {ex : va_W} {q0 : Nat} (h0 : ids[q0]? = some (6, 0, 0)) : (wl X M lf ++ ex).set q0 (X.2.1 6 0 0, .inl (X.2.2.1 3, 1, .inr (.inl lf'))) = wl X M lf' ++ ex := by
  have hl0 : q0 < ids.length := (List.getElem?_eq_some_iff.mp h0).1
  rw [List.set_append_left _ _ (by unfold wl; rw [List.length_map]; exact hl0)]
  congr 1
  apply List.ext_getElem?
  intro j
  unfold wl
  by_cases hj : j = q0
  · subst hj
    rw [List.getElem?_set_self (by rw [List.length_map]; exact hl0), List.getElem?_map, h0]
    rfl
  · rw [List.getElem?_set_ne (Ne.symm hj), List.getElem?_map, List.getElem?_map]
    cases hq : ids[j]? with
    | none => rfl
    | some q =>
      have hm : q ∈ ids := List.mem_of_getElem? hq
      have hne : q ≠ (6, 0, 0) := fun z => hj ((List.getElem?_inj (List.getElem?_eq_some_iff.mp hq).1 ids_nd).mp (hq.trans (z ▸ h0.symm)))
      have key : ∀ q, q ∈ ids → q ≠ (6, 0, 0) → q.1 < 6 := by decide +kernel
      obtain ⟨a, b, c⟩ := q
      have ha : a < 6 := key _ hm hne
      show some (xad X (a, b, c), celD X lf a b c (M a b c)) = some (xad X (a, b, c), celD X lf' a b c (M a b c))
      rcases (show a = 0 ∨ a = 1 ∨ a = 2 ∨ a = 3 ∨ a = 4 ∨ a = 5 by omega) with rfl | rfl | rfl | rfl | rfl | rfl <;> rfl
theorem v_last (F : Fx p l s m args meth c cc nL own X) {x : Int32} {v : Int64} (hx : Ix x 0 1) (hdg : decode cc pc = .ok (.lastore, 1)) (K : V p l e R s m args below meth c Q X nL ex M (vp_updL lf 0 v) cells slots (pc + 1) lv st) : V p l e R s m args below meth c Q X nL ex M lf cells slots pc lv (.long v :: .int x :: .ref (X.2.1 6 0 0) :: st) := by
  intro H locs ls hP hE hS hl
  obtain ⟨q0, h0, hq⟩ := wl_get (X := X) (M := M) (lf := lf) (ex := ex) id_6
  refine va_last F.1.1 F.1.2.1 F.2.1.2.1 hP (wl_DE F.2.2.1 M lf hE) hS q0 3 (f := lf) (n := 1) hq rfl (Ix_in hx) hdg (fun H1 locs1 hP1 hD1 hS1 => ?_)
  rw [hx.2.1, wl_lset h0] at hP1
  exact K H1 locs1 ls hP1 hE hS1 hl
end VR
end
section
/-! ===== contracts over memories, and calls ===== -/
abbrev Gx (X : Cx) (l : Launch) : Prop := Cxok X ∧ l.stackTraces = false
def PreW (X : Cx) (M : Mem) (lf : Lf) (sz : Nat) : State → Prop := fun U => U.heap.size = sz ∧ Kz X U ∧ va_P X.1 vwCl (wl X M lf) U.heap
def EndW (X : Cx) (M : Mem) (lf : Lf) : Unit → State → Prop := fun _ t => va_P X.1 vwCl (wl X M lf) t.heap
/-- a method that answers an int r, and leaves the memory M' -/
def CI (X : Cx) (l : Launch) (y : MethodName) (ws : List Cond) (rm : Room) (av : List Value) (M : Mem) (lf : Lf) (r : Int32) (M' : Mem) (lf' : Lf) (mc ms : Nat) : Prop := ∀ sz : Nat, Met l y ws rm (va_Pc av (PreW X M lf sz)) (va_Qi (fun (x : Int32) (_ : Unit) => x = r) (EndW X M' lf') (xA X sz)) mc ms (xA X sz)
def CL (X : Cx) (l : Launch) (y : MethodName) (ws : List Cond) (rm : Room) (av : List Value) (M : Mem) (lf : Lf) (r : Int64) (M' : Mem) (lf' : Lf) (mc ms : Nat) : Prop := ∀ sz : Nat, Met l y ws rm (va_Pc av (PreW X M lf sz)) (va_Ql (fun (x : Int64) (_ : Unit) => x = r) (EndW X M' lf') (xA X sz)) mc ms (xA X sz)
def CD (X : Cx) (l : Launch) (y : MethodName) (ws : List Cond) (rm : Room) (av : List Value) (M : Mem) (lf : Lf) (r : UInt64) (M' : Mem) (lf' : Lf) (mc ms : Nat) : Prop := ∀ sz : Nat, Met l y ws rm (va_Pc av (PreW X M lf sz)) (va_Qd (fun (x : UInt64) (_ : Unit) => x = r) (EndW X M' lf') (xA X sz)) mc ms (xA X sz)
def CV (X : Cx) (l : Launch) (y : MethodName) (ws : List Cond) (rm : Room) (av : List Value) (M : Mem) (lf : Lf) (M' : Mem) (lf' : Lf) (mc ms : Nat) : Prop := ∀ sz : Nat, Met l y ws rm (va_Pc av (PreW X M lf sz)) (va_Qv (fun (_ : Unit) => True) (EndW X M' lf') (xA X sz)) mc ms (xA X sz)
def XCw (X : Cx) (M : Mem) (lf : Lf) (E : String) (sz : Nat) : String → State → State → Prop := vx_X (fun (_ : Unit) => True) (fun E' _ t => E' = E ∧ va_P X.1 vwCl (wl X M lf) t.heap) (xA X sz)
/-- a method that throws an E, and leaves the memory as it was -/
def CXi (X : Cx) (l : Launch) (y : MethodName) (ws : List Cond) (rm : Room) (av : List Value) (M : Mem) (lf : Lf) (E : String) (mc ms : Nat) : Prop := ∀ sz : Nat, vx_Met l y ws rm (va_Pc av (PreW X M lf sz)) (va_Qi (fun (_ : Int32) (_ : Unit) => False) (EndW X M lf) (xA X sz)) (XCw X M lf E sz) mc ms (xA X sz)
def CXv (X : Cx) (l : Launch) (y : MethodName) (ws : List Cond) (rm : Room) (av : List Value) (M : Mem) (lf : Lf) (E : String) (mc ms : Nat) : Prop := ∀ sz : Nat, vx_Met l y ws rm (va_Pc av (PreW X M lf sz)) (va_Qv (fun (_ : Unit) => False) (EndW X M lf) (xA X sz)) (XCw X M lf E sz) mc ms (xA X sz)
abbrev QI (X : Cx) (below : List Frame) (args : Array Value) (s : State) (r : Int32) (M' : Mem) (lf' : Lf) (mc ms : Nat) : State → Prop := MQ below (va_Qi (fun (x : Int32) (_ : Unit) => x = r) (EndW X M' lf') (xA X s.heap.size)) args s mc ms (xA X s.heap.size)
abbrev QL (X : Cx) (below : List Frame) (args : Array Value) (s : State) (r : Int64) (M' : Mem) (lf' : Lf) (mc ms : Nat) : State → Prop := MQ below (va_Ql (fun (x : Int64) (_ : Unit) => x = r) (EndW X M' lf') (xA X s.heap.size)) args s mc ms (xA X s.heap.size)
abbrev QD (X : Cx) (below : List Frame) (args : Array Value) (s : State) (r : UInt64) (M' : Mem) (lf' : Lf) (mc ms : Nat) : State → Prop := MQ below (va_Qd (fun (x : UInt64) (_ : Unit) => x = r) (EndW X M' lf') (xA X s.heap.size)) args s mc ms (xA X s.heap.size)
abbrev QV (X : Cx) (below : List Frame) (args : Array Value) (s : State) (M' : Mem) (lf' : Lf) (mc ms : Nat) : State → Prop := MQ below (va_Qv (fun (_ : Unit) => True) (EndW X M' lf') (xA X s.heap.size)) args s mc ms (xA X s.heap.size)
abbrev QXi (X : Cx) (below : List Frame) (args : Array Value) (s : State) (M : Mem) (lf : Lf) (E : String) (mc ms : Nat) : State → Prop := vx_MQ below (va_Qi (fun (_ : Int32) (_ : Unit) => False) (EndW X M lf) (xA X s.heap.size)) (XCw X M lf E s.heap.size) args s mc ms (xA X s.heap.size)
abbrev QXv (X : Cx) (below : List Frame) (args : Array Value) (s : State) (M : Mem) (lf : Lf) (E : String) (mc ms : Nat) : State → Prop := vx_MQ below (va_Qv (fun (_ : Unit) => False) (EndW X M lf) (xA X s.heap.size)) (XCw X M lf E s.heap.size) args s mc ms (xA X s.heap.size)
theorem PreW_blind {X : Cx} {M : Mem} {lf : Lf} {sz : Nat} {av : List Value} : FrameBlind (va_Pc av (PreW X M lf sz)) := fun a U g mk q => ⟨q.1, q.2.1, Kz_same (u := U) rfl rfl q.2.2.1, q.2.2.2⟩
theorem va_P_spl {D : va_G} {cl : List vw_C} {a b : va_W} {H : Heap} (h : va_P D cl (a ++ b) H) : va_P D cl a H ∧ va_P D cl b H := by
  refine ⟨fun k q hk => h k q ?_, fun k q hk => h (a.length + k) q ?_⟩
  · rw [List.getElem?_append_left (List.getElem?_eq_some_iff.mp hk).1]; exact hk
  · rw [List.getElem?_append_right (Nat.le_add_right _ _), Nat.add_sub_cancel_left]; exact hk
section BD
variable {X : Cx} {l : Launch} {y : MethodName} {cc : ByteArray} {nL : Nat} {rm : Room} {av : List Value} {M M' : Mem} {lf lf' : Lf} {mc ms : Nat} {lv : List (Nat × Value)}
theorem Fx_of {p : Program} {e : Env} {s s₁ : State} {m : MethodId} {args : Array Value} {below : List Frame} {meth : Method} {c : Code} {ret : Option FieldType} {c0 : Cond} (G : Gx X l) (B : BodyLoose p l y (headSpec (c0 :: wAll) rm) cc nL ret e s m args below meth c s₁) (hml : c.maxLocals = nL) (hK : Kz X s) : Fx p l s m args meth c cc nL y.cls X := ⟨⟨B.exec, B.bytes, hml, findClass_of_methodNamed B.named, fun w hw => atoms_spec (ws := c0 :: wAll) B.pre w (List.mem_cons_of_mem _ hw)⟩, hK, G.1, B.notSynchronized, G.2⟩
theorem CI_of {ty : FieldType} {r : Int32} (G : Gx X l) (hy : plainName y.cls = true) (hn : (lg_sl av).length ≤ nL) (hlv : lv_args 0 av = lv)
    (body : ∀ p e s m args below meth c, Fx p l s m args meth c cc nL y.cls X → meth.sig.returnType = some ty → V p l e rm s m args below meth c (QI X below args s r M' lf' mc ms) X nL [] M lf 0 0 0 lv []) : CI X l y (wsc y cc nL (some ty)) rm av M lf r M' lf' mc ms := by
  intro sz
  refine Met.ofW (cc := cc) (maxL := nL) (ret := some ty) hy rfl ?_
  intro p e s m args below meth c s₁ B hml hv
  obtain ⟨rfl, hsz, hK, hP⟩ := hv
  subst hsz
  have h := body p e s m _ below meth c (Fx_of G B hml hK) B.returns
  rw [lg_entry_eq]
  exact h s.heap [] _ (by rw [List.append_nil]; exact hP) exOk_nil va_S.rf (hlv ▸ lv_entry av hn)
theorem CL_of {ty : FieldType} {r : Int64} (G : Gx X l) (hy : plainName y.cls = true) (hn : (lg_sl av).length ≤ nL) (hlv : lv_args 0 av = lv)
    (body : ∀ p e s m args below meth c, Fx p l s m args meth c cc nL y.cls X → meth.sig.returnType = some ty → V p l e rm s m args below meth c (QL X below args s r M' lf' mc ms) X nL [] M lf 0 0 0 lv []) : CL X l y (wsc y cc nL (some ty)) rm av M lf r M' lf' mc ms := by
  intro sz
  refine Met.ofW (cc := cc) (maxL := nL) (ret := some ty) hy rfl ?_
  intro p e s m args below meth c s₁ B hml hv
  obtain ⟨rfl, hsz, hK, hP⟩ := hv
  subst hsz
  have h := body p e s m _ below meth c (Fx_of G B hml hK) B.returns
  rw [lg_entry_eq]
  exact h s.heap [] _ (by rw [List.append_nil]; exact hP) exOk_nil va_S.rf (hlv ▸ lv_entry av hn)
theorem CD_of {ty : FieldType} {r : UInt64} (G : Gx X l) (hy : plainName y.cls = true) (hn : (lg_sl av).length ≤ nL) (hlv : lv_args 0 av = lv)
    (body : ∀ p e s m args below meth c, Fx p l s m args meth c cc nL y.cls X → meth.sig.returnType = some ty → V p l e rm s m args below meth c (QD X below args s r M' lf' mc ms) X nL [] M lf 0 0 0 lv []) : CD X l y (wsc y cc nL (some ty)) rm av M lf r M' lf' mc ms := by
  intro sz
  refine Met.ofW (cc := cc) (maxL := nL) (ret := some ty) hy rfl ?_
  intro p e s m args below meth c s₁ B hml hv
  obtain ⟨rfl, hsz, hK, hP⟩ := hv
  subst hsz
  have h := body p e s m _ below meth c (Fx_of G B hml hK) B.returns
  rw [lg_entry_eq]
  exact h s.heap [] _ (by rw [List.append_nil]; exact hP) exOk_nil va_S.rf (hlv ▸ lv_entry av hn)
theorem CV_of (G : Gx X l) (hy : plainName y.cls = true) (hn : (lg_sl av).length ≤ nL) (hlv : lv_args 0 av = lv)
    (body : ∀ p e s m args below meth c, Fx p l s m args meth c cc nL y.cls X → meth.sig.returnType = none → V p l e rm s m args below meth c (QV X below args s M' lf' mc ms) X nL [] M lf 0 0 0 lv []) : CV X l y (wsc y cc nL none) rm av M lf M' lf' mc ms := by
  intro sz
  refine Met.ofW (cc := cc) (maxL := nL) (ret := none) hy rfl ?_
  intro p e s m args below meth c s₁ B hml hv
  obtain ⟨rfl, hsz, hK, hP⟩ := hv
  subst hsz
  have h := body p e s m _ below meth c (Fx_of G B hml hK) B.returns
  rw [lg_entry_eq]
  exact h s.heap [] _ (by rw [List.append_nil]; exact hP) exOk_nil va_S.rf (hlv ▸ lv_entry av hn)
theorem CXi_of {ty : FieldType} {E : String} (G : Gx X l) (hy : plainName y.cls = true) (hn : (lg_sl av).length ≤ nL) (hlv : lv_args 0 av = lv)
    (body : ∀ p e s m args below meth c, Fx p l s m args meth c cc nL y.cls X → (∀ x ∈ c.exceptionTable.toList, False) → V p l e rm s m args below meth c (QXi X below args s M lf E mc ms) X nL [] M lf 0 0 0 lv []) : CXi X l y (wsc y cc nL (some ty)) rm av M lf E mc ms := by
  intro sz
  refine vx_ofW (cc := cc) (maxL := nL) (ret := some ty) hy rfl ?_
  intro p e s m args below meth c s₁ B hml hxt hv
  obtain ⟨rfl, hsz, hK, hP⟩ := hv
  subst hsz
  have h := body p e s m _ below meth c (Fx_of G B hml hK) hxt
  rw [lg_entry_eq]
  exact h s.heap [] _ (by rw [List.append_nil]; exact hP) exOk_nil va_S.rf (hlv ▸ lv_entry av hn)
theorem CXv_of {E : String} (G : Gx X l) (hy : plainName y.cls = true) (hn : (lg_sl av).length ≤ nL) (hlv : lv_args 0 av = lv)
    (body : ∀ p e s m args below meth c, Fx p l s m args meth c cc nL y.cls X → (∀ x ∈ c.exceptionTable.toList, False) → V p l e rm s m args below meth c (QXv X below args s M lf E mc ms) X nL [] M lf 0 0 0 lv []) : CXv X l y (wsc y cc nL none) rm av M lf E mc ms := by
  intro sz
  refine vx_ofW (cc := cc) (maxL := nL) (ret := none) hy rfl ?_
  intro p e s m args below meth c s₁ B hml hxt hv
  obtain ⟨rfl, hsz, hK, hP⟩ := hv
  subst hsz
  have h := body p e s m _ below meth c (Fx_of G B hml hK) hxt
  rw [lg_entry_eq]
  exact h s.heap [] _ (by rw [List.append_nil]; exact hP) exOk_nil va_S.rf (hlv ▸ lv_entry av hn)
end BD
/-- the receiver: an object of the class C in the world -/
def Rv (X : Cx) (b : Nat) (C : String) : Prop := ∃ (r k i ci : Nat) (q : vw_C), b = X.2.1 r k i ∧ (r, k, i) ∈ ids ∧ vwCl[ci]? = some q ∧ q.1 = C ∧ ∀ (lf : Lf) (f : Nat → Int32), ∃ fs, celD X lf r k i f = .inr (ci, fs)
theorem Rv_R {X : Cx} {r : Nat} (hr : r < 2) : Rv X (X.2.1 r 0 0) RX2 := ⟨r, 0, 0, 2, (RX2, TX2, 5), rfl, id_R hr (by decide) (by decide), rfl, rfl, fun lf f => ⟨_, celD_R hr⟩⟩
theorem Rv_J {X : Cx} {r i : Nat} (hr : r < 2) (hi : i < 4) : Rv X (X.2.1 r 2 i) RX0 := ⟨r, 2, i, 0, (RX0, TX0, 5), rfl, id_R hr (by decide) hi, rfl, rfl, fun lf f => ⟨_, celD_R hr⟩⟩
theorem Rv_P {X : Cx} {r i : Nat} (hr : r < 2) (hi : i < 4) : Rv X (X.2.1 r 3 i) RX1 := ⟨r, 3, i, 1, (RX1, TX1, 3), rfl, id_R hr (by decide) hi, rfl, rfl, fun lf f => ⟨_, celD_R hr⟩⟩
theorem Rv_T {X : Cx} {r i : Nat} (hr : r < 2) (hi : i < 12) : Rv X (X.2.1 r 8 i) RX3 := ⟨r, 8, i, 3, (RX3, TX3, 8), rfl, id_R hr (by decide) hi, rfl, rfl, fun lf f => ⟨_, celD_R hr⟩⟩
theorem Rv_S {X : Cx} {r : Nat} (hr : r = 3 ∨ r = 4) : Rv X (X.2.1 r 0 0) RX5 := ⟨r, 0, 0, 5, (RX5, TX5, 11), rfl, id_S hr (by decide), rfl, rfl, fun lf f => ⟨_, celD_S hr⟩⟩
theorem Rv_Q {X : Cx} : Rv X (X.2.1 2 0 0) RX6 := ⟨2, 0, 0, 6, (RX6, TX6, 10), rfl, id_Q 0 (by decide), rfl, rfl, fun lf f => ⟨_, rfl⟩⟩
theorem Rv_H {X : Cx} : Rv X (X.2.1 5 0 0) RX4 := ⟨5, 0, 0, 4, (RX4, TX4, 2), rfl, id_5, rfl, rfl, fun lf f => ⟨_, rfl⟩⟩
theorem Rv_cell {X : Cx} {b : Nat} {C : String} {M : Mem} {lf : Lf} {H : Heap} {s : State} (h : Rv X b C) (hK : va_K X.1 vwCl (tysX X) s) (hP : va_P X.1 vwCl (wl X M lf) H) : ∃ cell : Cell, H[b]? = some cell ∧ cell.vm.isStatics = false ∧ s.vm.findClass C = some cell.cls := by
  obtain ⟨r, k, i, ci, q, rfl, hid, hc, rfl, hf⟩ := h
  obtain ⟨fs, he⟩ := hf lf (M r k i)
  obtain ⟨q0, h0, hq⟩ := wl_get (X := X) (M := M) (lf := lf) (ex := []) hid
  rw [he, List.append_nil] at hq
  exact va_recv hK hP hc hq
/-- the words of a call: of an instance method by its own class; of a nest mate's; of a static one -/
def Wv (own : String) (index : Nat) (C : String) (y : MethodName) (bytes : ByteArray) (maxL : Nat) (ret : Option FieldType) (n : Nat) : Prop := (y.cls = C ∧ y.cls ≠ "java/lang/invoke/MethodHandle" ∧ y.cls ≠ "java/lang/invoke/VarHandle" ∧ (parseMethodDescriptor y.desc).map (fun d => d.parameters.length) = some n) ∧ Cond.methodLink own index y ∈ wAll ∧ Cond.instanceMethod y ∈ wAll ∧ Cond.selects C y y ∈ wAll ∧ Cond.initialized C ∈ wAll ∧ Cond.code y bytes maxL ret ∈ wAll
def Wn (own : String) (index : Nat) (C : String) (y : MethodName) (bytes : ByteArray) (maxL : Nat) (ret : Option FieldType) (n : Nat) : Prop := (y.cls = C ∧ y.cls ≠ "java/lang/invoke/MethodHandle" ∧ y.cls ≠ "java/lang/invoke/VarHandle" ∧ (parseMethodDescriptor y.desc).map (fun d => d.parameters.length) = some n) ∧ (∃ host, Cond.methodLinkNest own index y host ∈ nestW) ∧ Cond.instanceMethod y ∈ wAll ∧ Cond.selects C y y ∈ wAll ∧ Cond.initialized y.cls ∈ wAll ∧ Cond.code y bytes maxL ret ∈ wAll
def Ws (own : String) (index : Nat) (y : MethodName) (bytes : ByteArray) (maxL : Nat) (ret : Option FieldType) (n : Nat) : Prop := (y.cls ≠ "java/lang/invoke/MethodHandle" ∧ y.cls ≠ "java/lang/invoke/VarHandle" ∧ (parseMethodDescriptor y.desc).map (fun d => d.parameters.length) = some n) ∧ Cond.methodLink own index y ∈ wAll ∧ Cond.static y ∈ wAll ∧ Cond.initialized y.cls ∈ wAll ∧ Cond.code y bytes maxL ret ∈ wAll
/-- the room of a call -/
def Rr (R rm : Room) (maxL cells slots mc ms : Nat) (rest : List Value) : Prop := rm.cells = mc ∧ rm.slots = ms ∧ rm.frames + 1 ≤ R.frames ∧ 8 + (maxL + 11) + rm.locals ≤ R.locals ∧ cells + mc ≤ R.cells ∧ slots + ms ≤ R.slots ∧ (rest.map fun v => v.category).sum ≤ 8
section VC
variable {p : Program} {l : Launch} {e : Env} {R : Room} {s : State} {m : MethodId} {args : Array Value} {below : List Frame} {meth : Method} {c : Code} {Q : State → Prop} {X : Cx} {nL : Nat} {ex : va_W} {M M' : Mem} {lf lf' : Lf} {cells slots pc : Nat} {lv : List (Nat × Value)} {st : List Value} {cc : ByteArray} {own : String}
variable {y : MethodName} {bytes : ByteArray} {maxL n index mc ms : Nat} {ret : Option FieldType} {rm : Room} {C : String} {b : Nat} {As rest : List Value}
theorem v_pre {H : Heap} {locs : List Loc} {av : List Value} (F : Fx p l s m args meth c cc nL own X) (hP : va_P X.1 vwCl (wl X M lf ++ ex) H) (hS : va_S (xA X s.heap.size) s.heap H locs) (U : State) (hU : U.heap = H) (hW : s.WarmedH U.vm) : va_Pc av (PreW X M lf H.size) av.toArray U := by
  subst hU
  exact ⟨rfl, rfl, Kz_pass F.2.2.1 hW hS F.2.1, (va_P_spl hP).1⟩
theorem v_post {H H1 : Heap} {t : State} (hP : va_P X.1 vwCl (wl X M lf ++ ex) H) (hE : exOk X s.heap.size ex) (ht : t.heap = H1) (hB : EndW X M' lf' () t) (hk : ∀ q : Nat, q < H.size → ¬ xA X H.size q → H1[q]? = H[q]?) : va_P X.1 vwCl (wl X M' lf' ++ ex) H1 := by
  subst ht
  refine va_P.app hB (fun k q hq => ?_)
  have h := (va_P_spl hP).2 k q hq
  refine h.kept (hk q.1 h.lt (fun z => ?_))
  rcases z with ⟨p, hp, e⟩ | z
  · exact hE.2 k q hq p hp e
  · exact absurd h.lt (Nat.not_lt.mpr z)
theorem Wv_cw {args : Array Value} (F : Fx p l s m args meth c cc nL own X) (w : Wv own index C y bytes maxL ret n) (hr : Rr R rm maxL cells slots mc ms rest) : CallW R s args own C index y bytes maxL ret (wsc y bytes maxL ret) rm mc ms n := cwV n F.1.2.2.2.2 (good_V w.2.1 w.2.2.1 w.2.2.2.1 w.2.2.2.2.1 (good_c w.2.2.2.2.2)) rfl hr.1 hr.2.1 w.1 ⟨hr.2.2.1, hr.2.2.2.1⟩
theorem Ws_cw {args : Array Value} (F : Fx p l s m args meth c cc nL own X) (w : Ws own index y bytes maxL ret n) (hr : Rr R rm maxL cells slots mc ms rest) : CallB R s args own index y bytes maxL ret (wsc y bytes maxL ret) rm mc ms n ∧ (Cond.static y).before args s = true := ⟨callB_of n F.1.2.2.2.2 (good_c w.2.2.2.2) rfl hr.1 hr.2.1 (F.1.2.2.2.2 _ w.2.2.2.1) (F.1.2.2.2.2 _ w.2.1) w.1 ⟨hr.2.2.1, hr.2.2.2.1⟩, F.1.2.2.2.2 _ w.2.2.1⟩
theorem v_callVi (F : Fx p l s m args meth c cc nL own X) {r : Int32} (hst : st = As.reverse ++ .ref b :: rest) (hM : CI X l y (wsc y bytes maxL ret) rm (.ref b :: As) M lf r M' lf' mc ms) (hR : Rv X b C) (w : Wv own index C y bytes maxL ret n) (hn : As.length = n) (hr : Rr R rm maxL cells slots mc ms rest) (hdg : decode cc pc = .ok (.invokevirtual index, 3)) (K : V p l e R s m args below meth c Q X nL ex M' lf' (cells + mc) (slots + ms) (pc + 3) lv (.int r :: rest)) : V p l e R s m args below meth c Q X nL ex M lf cells slots pc lv st := by
  intro H locs ls hP hE hS hl
  subst hst
  refine va_calli (va_runV (As := As) (rest := rest) F.1 (hM H.size) (Wv_cw F w hr) ⟨PreW_blind, Rv_cell hR F.2.1.2.1 (va_P_spl hP).1, fun U hU hW => v_pre F hP hS U hU hW⟩ rfl hn hl.1 rfl (lv_room hr.2.2.2.2.2.2) hdg ⟨hr.2.2.2.2.1, hr.2.2.2.2.2.1⟩) hS (fun q _ h => xA_mono hS.1 q h) (xA_mono hS.1) (fun x u t H1 locs1 ht hvm hx hB hz hk hS1 => ?_)
  subst hx
  exact K H1 locs1 ls (v_post hP hE ht hB hk) hE hS1 hl
theorem v_callNi (F : Fx p l s m args meth c cc nL own X) {r : Int32} (hst : st = As.reverse ++ .ref b :: rest) (hM : CI X l y (wsc y bytes maxL ret) rm (.ref b :: As) M lf r M' lf' mc ms) (hR : Rv X b C) (w : Wn own index C y bytes maxL ret n) (hn : As.length = n) (hr : Rr R rm maxL cells slots mc ms rest) (hdg : decode cc pc = .ok (.invokevirtual index, 3)) (K : V p l e R s m args below meth c Q X nL ex M' lf' (cells + mc) (slots + ms) (pc + 3) lv (.int r :: rest)) : V p l e R s m args below meth c Q X nL ex M lf cells slots pc lv st := by
  intro H locs ls hP hE hS hl
  subst hst
  obtain ⟨host, hh⟩ := w.2.1
  refine va_calli (va_runVN (As := As) (rest := rest) F.1 (hM H.size) ⟨va_cnB n F.1.2.2.2.2 (good_c w.2.2.2.2.2) rfl hr.1 hr.2.1 (F.2.1.2.2.1 _ hh) (F.1.2.2.2.2 _ w.2.2.2.2.1) w.1.2 ⟨hr.2.2.1, hr.2.2.2.1⟩, F.1.2.2.2.2 _ w.2.2.1, F.1.2.2.2.2 _ w.2.2.2.1⟩ ⟨PreW_blind, Rv_cell hR F.2.1.2.1 (va_P_spl hP).1, fun U hU hW => v_pre F hP hS U hU hW⟩ rfl hn hl.1 rfl (lv_room hr.2.2.2.2.2.2) hdg ⟨hr.2.2.2.2.1, hr.2.2.2.2.2.1⟩) hS (fun q _ h => xA_mono hS.1 q h) (xA_mono hS.1) (fun x u t H1 locs1 ht hvm hx hB hz hk hS1 => ?_)
  subst hx
  exact K H1 locs1 ls (v_post hP hE ht hB hk) hE hS1 hl
theorem v_callSi (F : Fx p l s m args meth c cc nL own X) {r : Int32} (hst : st = As.reverse ++ rest) (hM : CI X l y (wsc y bytes maxL ret) rm As M lf r M' lf' mc ms) (w : Ws own index y bytes maxL ret n) (hn : As.length = n) (hr : Rr R rm maxL cells slots mc ms rest) (hdg : decode cc pc = .ok (.invokestatic index, 3)) (K : V p l e R s m args below meth c Q X nL ex M' lf' (cells + mc) (slots + ms) (pc + 3) lv (.int r :: rest)) : V p l e R s m args below meth c Q X nL ex M lf cells slots pc lv st := by
  intro H locs ls hP hE hS hl
  subst hst
  refine va_calli (va_runS (As := As) (rest := rest) F.1 (hM H.size) (Ws_cw F w hr) ⟨PreW_blind, fun U hU hW => v_pre F hP hS U hU hW⟩ rfl hn hl.1 rfl (lv_room hr.2.2.2.2.2.2) hdg ⟨hr.2.2.2.2.1, hr.2.2.2.2.2.1⟩) hS (fun q _ h => xA_mono hS.1 q h) (xA_mono hS.1) (fun x u t H1 locs1 ht hvm hx hB hz hk hS1 => ?_)
  subst hx
  exact K H1 locs1 ls (v_post hP hE ht hB hk) hE hS1 hl
theorem v_callXVi (F : Fx p l s m args meth c cc nL own X) {E : String} (hst : st = As.reverse ++ .ref b :: rest) (hM : CXi X l y (wsc y bytes maxL ret) rm (.ref b :: As) M lf E mc ms) (hR : Rv X b C) (w : Wv own index C y bytes maxL ret n) (hn : As.length = n) (hr : Rr R rm maxL cells slots mc ms rest) (hdg : decode cc pc = .ok (.invokevirtual index, 3))
    (K : ∀ (H1 : Heap) (locs1 : List Loc) (ls : Array Slot) (ce : Cell) (q9 : Addr), va_P X.1 vwCl (wl X M lf ++ ex) H1 → exOk X s.heap.size ex → va_S (xA X s.heap.size) s.heap H1 locs1 → lv_has ls nL lv → H1[q9]? = some ce → ce.vm = .none → s.vm.findClass E = some ce.cls → vx_W p l e R s m args below meth c H1 locs1 (cells + mc) (slots + ms) Q (F0 m pc ls rest) q9) : V p l e R s m args below meth c Q X nL ex M lf cells slots pc lv st := by
  intro H locs ls hP hE hS hl
  subst hst
  refine vx_calli (vx_runV (As := As) (rest := rest) F.1 (hM H.size) (Wv_cw F w hr) ⟨PreW_blind, Rv_cell hR F.2.1.2.1 (va_P_spl hP).1, fun U hU hW => v_pre F hP hS U hU hW⟩ rfl hn hl.1 rfl (lv_room hr.2.2.2.2.2.2) hdg ⟨hr.2.2.2.2.1, hr.2.2.2.2.2.1⟩) hS (fun q _ h => xA_mono hS.1 q h) (xA_mono hS.1) (fun q _ h => xA_mono hS.1 q h) (fun E1 ce q9 u t H1 locs1 ht hvm hx hB hz hk hS1 h9 hv9 hc9 => ?_) (fun x u t H1 locs1 ht hvm hx hB hz hk hS1 => hx.elim)
  obtain ⟨rfl, hB⟩ := hB
  exact K H1 locs1 ls ce q9 (v_post hP hE ht hB hk) hE hS1 hl h9 hv9 hc9
theorem v_callXSi (F : Fx p l s m args meth c cc nL own X) {E : String} (hst : st = As.reverse ++ rest) (hM : CXi X l y (wsc y bytes maxL ret) rm As M lf E mc ms) (w : Ws own index y bytes maxL ret n) (hn : As.length = n) (hr : Rr R rm maxL cells slots mc ms rest) (hdg : decode cc pc = .ok (.invokestatic index, 3))
    (K : ∀ (H1 : Heap) (locs1 : List Loc) (ls : Array Slot) (ce : Cell) (q9 : Addr), va_P X.1 vwCl (wl X M lf ++ ex) H1 → exOk X s.heap.size ex → va_S (xA X s.heap.size) s.heap H1 locs1 → lv_has ls nL lv → H1[q9]? = some ce → ce.vm = .none → s.vm.findClass E = some ce.cls → vx_W p l e R s m args below meth c H1 locs1 (cells + mc) (slots + ms) Q (F0 m pc ls rest) q9) : V p l e R s m args below meth c Q X nL ex M lf cells slots pc lv st := by
  intro H locs ls hP hE hS hl
  subst hst
  refine vx_calli (vx_runS (As := As) (rest := rest) F.1 (hM H.size) (Ws_cw F w hr) ⟨PreW_blind, fun U hU hW => v_pre F hP hS U hU hW⟩ rfl hn hl.1 rfl (lv_room hr.2.2.2.2.2.2) hdg ⟨hr.2.2.2.2.1, hr.2.2.2.2.2.1⟩) hS (fun q _ h => xA_mono hS.1 q h) (xA_mono hS.1) (fun q _ h => xA_mono hS.1 q h) (fun E1 ce q9 u t H1 locs1 ht hvm hx hB hz hk hS1 h9 hv9 hc9 => ?_) (fun x u t H1 locs1 ht hvm hx hB hz hk hS1 => hx.elim)
  obtain ⟨rfl, hB⟩ := hB
  exact K H1 locs1 ls ce q9 (v_post hP hE ht hB hk) hE hS1 hl h9 hv9 hc9
theorem v_callVl (F : Fx p l s m args meth c cc nL own X) {r : Int64} (hst : st = As.reverse ++ .ref b :: rest) (hM : CL X l y (wsc y bytes maxL ret) rm (.ref b :: As) M lf r M' lf' mc ms) (hR : Rv X b C) (w : Wv own index C y bytes maxL ret n) (hn : As.length = n) (hr : Rr R rm maxL cells slots mc ms rest) (hdg : decode cc pc = .ok (.invokevirtual index, 3)) (K : V p l e R s m args below meth c Q X nL ex M' lf' (cells + mc) (slots + ms) (pc + 3) lv (.long r :: rest)) : V p l e R s m args below meth c Q X nL ex M lf cells slots pc lv st := by
  intro H locs ls hP hE hS hl
  subst hst
  refine va_calll (va_runV (As := As) (rest := rest) F.1 (hM H.size) (Wv_cw F w hr) ⟨PreW_blind, Rv_cell hR F.2.1.2.1 (va_P_spl hP).1, fun U hU hW => v_pre F hP hS U hU hW⟩ rfl hn hl.1 rfl (lv_room hr.2.2.2.2.2.2) hdg ⟨hr.2.2.2.2.1, hr.2.2.2.2.2.1⟩) hS (fun q _ h => xA_mono hS.1 q h) (xA_mono hS.1) (fun x u t H1 locs1 ht hvm hx hB hz hk hS1 => ?_)
  subst hx
  exact K H1 locs1 ls (v_post hP hE ht hB hk) hE hS1 hl
theorem v_callNl (F : Fx p l s m args meth c cc nL own X) {r : Int64} (hst : st = As.reverse ++ .ref b :: rest) (hM : CL X l y (wsc y bytes maxL ret) rm (.ref b :: As) M lf r M' lf' mc ms) (hR : Rv X b C) (w : Wn own index C y bytes maxL ret n) (hn : As.length = n) (hr : Rr R rm maxL cells slots mc ms rest) (hdg : decode cc pc = .ok (.invokevirtual index, 3)) (K : V p l e R s m args below meth c Q X nL ex M' lf' (cells + mc) (slots + ms) (pc + 3) lv (.long r :: rest)) : V p l e R s m args below meth c Q X nL ex M lf cells slots pc lv st := by
  intro H locs ls hP hE hS hl
  subst hst
  obtain ⟨host, hh⟩ := w.2.1
  refine va_calll (va_runVN (As := As) (rest := rest) F.1 (hM H.size) ⟨va_cnB n F.1.2.2.2.2 (good_c w.2.2.2.2.2) rfl hr.1 hr.2.1 (F.2.1.2.2.1 _ hh) (F.1.2.2.2.2 _ w.2.2.2.2.1) w.1.2 ⟨hr.2.2.1, hr.2.2.2.1⟩, F.1.2.2.2.2 _ w.2.2.1, F.1.2.2.2.2 _ w.2.2.2.1⟩ ⟨PreW_blind, Rv_cell hR F.2.1.2.1 (va_P_spl hP).1, fun U hU hW => v_pre F hP hS U hU hW⟩ rfl hn hl.1 rfl (lv_room hr.2.2.2.2.2.2) hdg ⟨hr.2.2.2.2.1, hr.2.2.2.2.2.1⟩) hS (fun q _ h => xA_mono hS.1 q h) (xA_mono hS.1) (fun x u t H1 locs1 ht hvm hx hB hz hk hS1 => ?_)
  subst hx
  exact K H1 locs1 ls (v_post hP hE ht hB hk) hE hS1 hl
theorem v_callSl (F : Fx p l s m args meth c cc nL own X) {r : Int64} (hst : st = As.reverse ++ rest) (hM : CL X l y (wsc y bytes maxL ret) rm As M lf r M' lf' mc ms) (w : Ws own index y bytes maxL ret n) (hn : As.length = n) (hr : Rr R rm maxL cells slots mc ms rest) (hdg : decode cc pc = .ok (.invokestatic index, 3)) (K : V p l e R s m args below meth c Q X nL ex M' lf' (cells + mc) (slots + ms) (pc + 3) lv (.long r :: rest)) : V p l e R s m args below meth c Q X nL ex M lf cells slots pc lv st := by
  intro H locs ls hP hE hS hl
  subst hst
  refine va_calll (va_runS (As := As) (rest := rest) F.1 (hM H.size) (Ws_cw F w hr) ⟨PreW_blind, fun U hU hW => v_pre F hP hS U hU hW⟩ rfl hn hl.1 rfl (lv_room hr.2.2.2.2.2.2) hdg ⟨hr.2.2.2.2.1, hr.2.2.2.2.2.1⟩) hS (fun q _ h => xA_mono hS.1 q h) (xA_mono hS.1) (fun x u t H1 locs1 ht hvm hx hB hz hk hS1 => ?_)
  subst hx
  exact K H1 locs1 ls (v_post hP hE ht hB hk) hE hS1 hl
theorem v_callVd (F : Fx p l s m args meth c cc nL own X) {r : UInt64} (hst : st = As.reverse ++ .ref b :: rest) (hM : CD X l y (wsc y bytes maxL ret) rm (.ref b :: As) M lf r M' lf' mc ms) (hR : Rv X b C) (w : Wv own index C y bytes maxL ret n) (hn : As.length = n) (hr : Rr R rm maxL cells slots mc ms rest) (hdg : decode cc pc = .ok (.invokevirtual index, 3)) (K : V p l e R s m args below meth c Q X nL ex M' lf' (cells + mc) (slots + ms) (pc + 3) lv (.double r :: rest)) : V p l e R s m args below meth c Q X nL ex M lf cells slots pc lv st := by
  intro H locs ls hP hE hS hl
  subst hst
  refine va_calld (va_runV (As := As) (rest := rest) F.1 (hM H.size) (Wv_cw F w hr) ⟨PreW_blind, Rv_cell hR F.2.1.2.1 (va_P_spl hP).1, fun U hU hW => v_pre F hP hS U hU hW⟩ rfl hn hl.1 rfl (lv_room hr.2.2.2.2.2.2) hdg ⟨hr.2.2.2.2.1, hr.2.2.2.2.2.1⟩) hS (fun q _ h => xA_mono hS.1 q h) (xA_mono hS.1) (fun x u t H1 locs1 ht hvm hx hB hz hk hS1 => ?_)
  subst hx
  exact K H1 locs1 ls (v_post hP hE ht hB hk) hE hS1 hl
theorem v_callNd (F : Fx p l s m args meth c cc nL own X) {r : UInt64} (hst : st = As.reverse ++ .ref b :: rest) (hM : CD X l y (wsc y bytes maxL ret) rm (.ref b :: As) M lf r M' lf' mc ms) (hR : Rv X b C) (w : Wn own index C y bytes maxL ret n) (hn : As.length = n) (hr : Rr R rm maxL cells slots mc ms rest) (hdg : decode cc pc = .ok (.invokevirtual index, 3)) (K : V p l e R s m args below meth c Q X nL ex M' lf' (cells + mc) (slots + ms) (pc + 3) lv (.double r :: rest)) : V p l e R s m args below meth c Q X nL ex M lf cells slots pc lv st := by
  intro H locs ls hP hE hS hl
  subst hst
  obtain ⟨host, hh⟩ := w.2.1
  refine va_calld (va_runVN (As := As) (rest := rest) F.1 (hM H.size) ⟨va_cnB n F.1.2.2.2.2 (good_c w.2.2.2.2.2) rfl hr.1 hr.2.1 (F.2.1.2.2.1 _ hh) (F.1.2.2.2.2 _ w.2.2.2.2.1) w.1.2 ⟨hr.2.2.1, hr.2.2.2.1⟩, F.1.2.2.2.2 _ w.2.2.1, F.1.2.2.2.2 _ w.2.2.2.1⟩ ⟨PreW_blind, Rv_cell hR F.2.1.2.1 (va_P_spl hP).1, fun U hU hW => v_pre F hP hS U hU hW⟩ rfl hn hl.1 rfl (lv_room hr.2.2.2.2.2.2) hdg ⟨hr.2.2.2.2.1, hr.2.2.2.2.2.1⟩) hS (fun q _ h => xA_mono hS.1 q h) (xA_mono hS.1) (fun x u t H1 locs1 ht hvm hx hB hz hk hS1 => ?_)
  subst hx
  exact K H1 locs1 ls (v_post hP hE ht hB hk) hE hS1 hl
theorem v_callSd (F : Fx p l s m args meth c cc nL own X) {r : UInt64} (hst : st = As.reverse ++ rest) (hM : CD X l y (wsc y bytes maxL ret) rm As M lf r M' lf' mc ms) (w : Ws own index y bytes maxL ret n) (hn : As.length = n) (hr : Rr R rm maxL cells slots mc ms rest) (hdg : decode cc pc = .ok (.invokestatic index, 3)) (K : V p l e R s m args below meth c Q X nL ex M' lf' (cells + mc) (slots + ms) (pc + 3) lv (.double r :: rest)) : V p l e R s m args below meth c Q X nL ex M lf cells slots pc lv st := by
  intro H locs ls hP hE hS hl
  subst hst
  refine va_calld (va_runS (As := As) (rest := rest) F.1 (hM H.size) (Ws_cw F w hr) ⟨PreW_blind, fun U hU hW => v_pre F hP hS U hU hW⟩ rfl hn hl.1 rfl (lv_room hr.2.2.2.2.2.2) hdg ⟨hr.2.2.2.2.1, hr.2.2.2.2.2.1⟩) hS (fun q _ h => xA_mono hS.1 q h) (xA_mono hS.1) (fun x u t H1 locs1 ht hvm hx hB hz hk hS1 => ?_)
  subst hx
  exact K H1 locs1 ls (v_post hP hE ht hB hk) hE hS1 hl
theorem v_callVv (F : Fx p l s m args meth c cc nL own X) (hst : st = As.reverse ++ .ref b :: rest) (hM : CV X l y (wsc y bytes maxL ret) rm (.ref b :: As) M lf M' lf' mc ms) (hR : Rv X b C) (w : Wv own index C y bytes maxL ret n) (hn : As.length = n) (hr : Rr R rm maxL cells slots mc ms rest) (hdg : decode cc pc = .ok (.invokevirtual index, 3)) (K : V p l e R s m args below meth c Q X nL ex M' lf' (cells + mc) (slots + ms) (pc + 3) lv (rest)) : V p l e R s m args below meth c Q X nL ex M lf cells slots pc lv st := by
  intro H locs ls hP hE hS hl
  subst hst
  refine va_callv (va_runV (As := As) (rest := rest) F.1 (hM H.size) (Wv_cw F w hr) ⟨PreW_blind, Rv_cell hR F.2.1.2.1 (va_P_spl hP).1, fun U hU hW => v_pre F hP hS U hU hW⟩ rfl hn hl.1 rfl (lv_room hr.2.2.2.2.2.2) hdg ⟨hr.2.2.2.2.1, hr.2.2.2.2.2.1⟩) hS (fun q _ h => xA_mono hS.1 q h) (xA_mono hS.1) (fun u t H1 locs1 ht hvm hx hB hz hk hS1 => ?_)
  exact K H1 locs1 ls (v_post hP hE ht hB hk) hE hS1 hl
theorem v_callNv (F : Fx p l s m args meth c cc nL own X) (hst : st = As.reverse ++ .ref b :: rest) (hM : CV X l y (wsc y bytes maxL ret) rm (.ref b :: As) M lf M' lf' mc ms) (hR : Rv X b C) (w : Wn own index C y bytes maxL ret n) (hn : As.length = n) (hr : Rr R rm maxL cells slots mc ms rest) (hdg : decode cc pc = .ok (.invokevirtual index, 3)) (K : V p l e R s m args below meth c Q X nL ex M' lf' (cells + mc) (slots + ms) (pc + 3) lv (rest)) : V p l e R s m args below meth c Q X nL ex M lf cells slots pc lv st := by
  intro H locs ls hP hE hS hl
  subst hst
  obtain ⟨host, hh⟩ := w.2.1
  refine va_callv (va_runVN (As := As) (rest := rest) F.1 (hM H.size) ⟨va_cnB n F.1.2.2.2.2 (good_c w.2.2.2.2.2) rfl hr.1 hr.2.1 (F.2.1.2.2.1 _ hh) (F.1.2.2.2.2 _ w.2.2.2.2.1) w.1.2 ⟨hr.2.2.1, hr.2.2.2.1⟩, F.1.2.2.2.2 _ w.2.2.1, F.1.2.2.2.2 _ w.2.2.2.1⟩ ⟨PreW_blind, Rv_cell hR F.2.1.2.1 (va_P_spl hP).1, fun U hU hW => v_pre F hP hS U hU hW⟩ rfl hn hl.1 rfl (lv_room hr.2.2.2.2.2.2) hdg ⟨hr.2.2.2.2.1, hr.2.2.2.2.2.1⟩) hS (fun q _ h => xA_mono hS.1 q h) (xA_mono hS.1) (fun u t H1 locs1 ht hvm hx hB hz hk hS1 => ?_)
  exact K H1 locs1 ls (v_post hP hE ht hB hk) hE hS1 hl
theorem v_callSv (F : Fx p l s m args meth c cc nL own X) (hst : st = As.reverse ++ rest) (hM : CV X l y (wsc y bytes maxL ret) rm As M lf M' lf' mc ms) (w : Ws own index y bytes maxL ret n) (hn : As.length = n) (hr : Rr R rm maxL cells slots mc ms rest) (hdg : decode cc pc = .ok (.invokestatic index, 3)) (K : V p l e R s m args below meth c Q X nL ex M' lf' (cells + mc) (slots + ms) (pc + 3) lv (rest)) : V p l e R s m args below meth c Q X nL ex M lf cells slots pc lv st := by
  intro H locs ls hP hE hS hl
  subst hst
  refine va_callv (va_runS (As := As) (rest := rest) F.1 (hM H.size) (Ws_cw F w hr) ⟨PreW_blind, fun U hU hW => v_pre F hP hS U hU hW⟩ rfl hn hl.1 rfl (lv_room hr.2.2.2.2.2.2) hdg ⟨hr.2.2.2.2.1, hr.2.2.2.2.2.1⟩) hS (fun q _ h => xA_mono hS.1 q h) (xA_mono hS.1) (fun u t H1 locs1 ht hvm hx hB hz hk hS1 => ?_)
  exact K H1 locs1 ls (v_post hP hE ht hB hk) hE hS1 hl
theorem v_callXVv (F : Fx p l s m args meth c cc nL own X) {E : String} (hst : st = As.reverse ++ .ref b :: rest) (hM : CXv X l y (wsc y bytes maxL ret) rm (.ref b :: As) M lf E mc ms) (hR : Rv X b C) (w : Wv own index C y bytes maxL ret n) (hn : As.length = n) (hr : Rr R rm maxL cells slots mc ms rest) (hdg : decode cc pc = .ok (.invokevirtual index, 3))
    (K : ∀ (H1 : Heap) (locs1 : List Loc) (ls : Array Slot) (ce : Cell) (q9 : Addr), va_P X.1 vwCl (wl X M lf ++ ex) H1 → exOk X s.heap.size ex → va_S (xA X s.heap.size) s.heap H1 locs1 → lv_has ls nL lv → H1[q9]? = some ce → ce.vm = .none → s.vm.findClass E = some ce.cls → vx_W p l e R s m args below meth c H1 locs1 (cells + mc) (slots + ms) Q (F0 m pc ls rest) q9) : V p l e R s m args below meth c Q X nL ex M lf cells slots pc lv st := by
  intro H locs ls hP hE hS hl
  subst hst
  refine vx_callv (vx_runV (As := As) (rest := rest) F.1 (hM H.size) (Wv_cw F w hr) ⟨PreW_blind, Rv_cell hR F.2.1.2.1 (va_P_spl hP).1, fun U hU hW => v_pre F hP hS U hU hW⟩ rfl hn hl.1 rfl (lv_room hr.2.2.2.2.2.2) hdg ⟨hr.2.2.2.2.1, hr.2.2.2.2.2.1⟩) hS (fun q _ h => xA_mono hS.1 q h) (xA_mono hS.1) (fun q _ h => xA_mono hS.1 q h) (fun E1 ce q9 u t H1 locs1 ht hvm hx hB hz hk hS1 h9 hv9 hc9 => ?_) (fun u t H1 locs1 ht hvm hx hB hz hk hS1 => hx.elim)
  obtain ⟨rfl, hB⟩ := hB
  exact K H1 locs1 ls ce q9 (v_post hP hE ht hB hk) hE hS1 hl h9 hv9 hc9
theorem v_callXSv (F : Fx p l s m args meth c cc nL own X) {E : String} (hst : st = As.reverse ++ rest) (hM : CXv X l y (wsc y bytes maxL ret) rm As M lf E mc ms) (w : Ws own index y bytes maxL ret n) (hn : As.length = n) (hr : Rr R rm maxL cells slots mc ms rest) (hdg : decode cc pc = .ok (.invokestatic index, 3))
    (K : ∀ (H1 : Heap) (locs1 : List Loc) (ls : Array Slot) (ce : Cell) (q9 : Addr), va_P X.1 vwCl (wl X M lf ++ ex) H1 → exOk X s.heap.size ex → va_S (xA X s.heap.size) s.heap H1 locs1 → lv_has ls nL lv → H1[q9]? = some ce → ce.vm = .none → s.vm.findClass E = some ce.cls → vx_W p l e R s m args below meth c H1 locs1 (cells + mc) (slots + ms) Q (F0 m pc ls rest) q9) : V p l e R s m args below meth c Q X nL ex M lf cells slots pc lv st := by
  intro H locs ls hP hE hS hl
  subst hst
  refine vx_callv (vx_runS (As := As) (rest := rest) F.1 (hM H.size) (Ws_cw F w hr) ⟨PreW_blind, fun U hU hW => v_pre F hP hS U hU hW⟩ rfl hn hl.1 rfl (lv_room hr.2.2.2.2.2.2) hdg ⟨hr.2.2.2.2.1, hr.2.2.2.2.2.1⟩) hS (fun q _ h => xA_mono hS.1 q h) (xA_mono hS.1) (fun q _ h => xA_mono hS.1 q h) (fun E1 ce q9 u t H1 locs1 ht hvm hx hB hz hk hS1 h9 hv9 hc9 => ?_) (fun u t H1 locs1 ht hvm hx hB hz hk hS1 => hx.elim)
  obtain ⟨rfl, hB⟩ := hB
  exact K H1 locs1 ls ce q9 (v_post hP hE ht hB hk) hE hS1 hl h9 hv9 hc9
theorem v_outi (F : Fx p l s m args meth c cc nL own X) {E : String} {mc ms : Nat} (hxt : ∀ x ∈ c.exceptionTable.toList, False) (h1 : cells ≤ mc) (h2 : slots ≤ ms) (H1 : Heap) (locs1 : List Loc) (ls : Array Slot) (ce : Cell) (q9 : Addr) (hP : va_P X.1 vwCl (wl X M lf ++ ex) H1) (hE : exOk X s.heap.size ex) (hS : va_S (xA X s.heap.size) s.heap H1 locs1) (hl : lv_has ls nL lv) (h9 : H1[q9]? = some ce) (hv9 : ce.vm = .none) (hc9 : s.vm.findClass E = some ce.cls) : vx_W p l e R s m args below meth c H1 locs1 cells slots (QXi X below args s M lf E mc ms) (F0 m pc ls rest) q9 :=
  vx_out (fun x hx => (hxt x hx).elim) F.2.2.2.1 h9 hv9 hc9 (fun t ht hvm => ⟨(), trivial, ⟨rfl, by rw [ht]; exact (va_P_spl hP).1⟩, hS.F ht⟩) hS.2.2 h1 h2
theorem v_outv (F : Fx p l s m args meth c cc nL own X) {E : String} {mc ms : Nat} (hxt : ∀ x ∈ c.exceptionTable.toList, False) (h1 : cells ≤ mc) (h2 : slots ≤ ms) (H1 : Heap) (locs1 : List Loc) (ls : Array Slot) (ce : Cell) (q9 : Addr) (hP : va_P X.1 vwCl (wl X M lf ++ ex) H1) (hE : exOk X s.heap.size ex) (hS : va_S (xA X s.heap.size) s.heap H1 locs1) (hl : lv_has ls nL lv) (h9 : H1[q9]? = some ce) (hv9 : ce.vm = .none) (hc9 : s.vm.findClass E = some ce.cls) : vx_W p l e R s m args below meth c H1 locs1 cells slots (QXv X below args s M lf E mc ms) (F0 m pc ls rest) q9 :=
  vx_out (fun x hx => (hxt x hx).elim) F.2.2.2.1 h9 hv9 hc9 (fun t ht hvm => ⟨(), trivial, ⟨rfl, by rw [ht]; exact (va_P_spl hP).1⟩, hS.F ht⟩) hS.2.2 h1 h2
theorem v_iret (F : Fx p l s m args meth c cc nL own X) {r v : Int32} (hr : meth.sig.returnType = some .int) (hdg : decode cc pc = .ok (.ireturn, 1)) (h1 : v = r) (h2 : M = M') (h3 : lf = lf') : V p l e R s m args below meth c (QI X below args s r M' lf' cells slots) X nL ex M lf cells slots pc lv [.int v] := by
  intro H locs ls hP hE hS hl
  subst h1; subst h2; subst h3
  exact W.iret F.1.1 F.1.2.1 hr (fun t ht hW => ⟨⟨v, (), rfl, rfl, by show va_P _ _ _ t.heap; rw [ht]; exact (va_P_spl hP).1⟩, hS.F ht⟩) hS.2.2 hdg F.2.2.2.1
theorem v_lret (F : Fx p l s m args meth c cc nL own X) {r v : Int64} (hr : meth.sig.returnType = some .long) (hdg : decode cc pc = .ok (.lreturn, 1)) (h1 : v = r) (h2 : M = M') (h3 : lf = lf') : V p l e R s m args below meth c (QL X below args s r M' lf' cells slots) X nL ex M lf cells slots pc lv [.long v] := by
  intro H locs ls hP hE hS hl
  subst h1; subst h2; subst h3
  exact W.lret F.1.1 F.1.2.1 hr (fun t ht hW => ⟨⟨v, (), rfl, rfl, by show va_P _ _ _ t.heap; rw [ht]; exact (va_P_spl hP).1⟩, hS.F ht⟩) hS.2.2 hdg F.2.2.2.1
theorem v_dret (F : Fx p l s m args meth c cc nL own X) {r v : UInt64} (hr : meth.sig.returnType = some .double) (hdg : decode cc pc = .ok (.dreturn, 1)) (h1 : v = r) (h2 : M = M') (h3 : lf = lf') : V p l e R s m args below meth c (QD X below args s r M' lf' cells slots) X nL ex M lf cells slots pc lv [.double v] := by
  intro H locs ls hP hE hS hl
  subst h1; subst h2; subst h3
  exact W.dret F.1.1 F.1.2.1 hr (fun t ht hW => ⟨⟨v, (), rfl, rfl, by show va_P _ _ _ t.heap; rw [ht]; exact (va_P_spl hP).1⟩, hS.F ht⟩) hS.2.2 hdg F.2.2.2.1
theorem v_zret (F : Fx p l s m args meth c cc nL own X) {r v : Int32} {ty : FieldType} (hr : meth.sig.returnType = some ty) (hdg : decode cc pc = .ok (.ireturn, 1)) (hz : narrow ty (.int v) = .int v) (h1 : v = r) (h2 : M = M') (h3 : lf = lf') : V p l e R s m args below meth c (QI X below args s r M' lf' cells slots) X nL ex M lf cells slots pc lv [.int v] := by
  intro H locs ls hP hE hS hl
  subst h1; subst h2; subst h3
  exact W.zret F.1.1 F.1.2.1 hr hz (fun t ht hW => ⟨⟨v, (), rfl, rfl, by show va_P _ _ _ t.heap; rw [ht]; exact (va_P_spl hP).1⟩, hS.F ht⟩) hS.2.2 hdg F.2.2.2.1
theorem v_vret (F : Fx p l s m args meth c cc nL own X) (hr : meth.sig.returnType = none) (hdg : decode cc pc = .ok (.return_, 1)) (h2 : M = M') (h3 : lf = lf') : V p l e R s m args below meth c (QV X below args s M' lf' cells slots) X nL ex M lf cells slots pc lv [] := by
  intro H locs ls hP hE hS hl
  subst h2; subst h3
  exact W.vret F.1.1 F.1.2.1 hr (fun t ht hW => ⟨⟨(), rfl, trivial, by show va_P _ _ _ t.heap; rw [ht]; exact (va_P_spl hP).1⟩, hS.F ht⟩) hS.2.2 hdg F.2.2.2.1
theorem v_throwi (F : Fx p l s m args meth c cc nL RX4 X) (hxt : ∀ x ∈ c.exceptionTable.toList, False) {E text : String} {ik is ic mc ms : Nat} (hE0 : Bundle.fit E = true) (hsub : ∀ w, w ∈ vx_atS RX4 ic E exN → w ∈ exL) (hk : Cond.classLink RX4 ik E ∈ wAll) (hini : Cond.initialized E ∈ wAll) (hs0 : (is, text) ∈ strW)
    (d0 : decode cc pc = .ok (.new ik, 3)) (d3 : decode cc (pc + 3) = .ok (.dup, 1)) (d4 : decode cc (pc + 4) = .ok (.ldc is, 2)) (d6 : decode cc (pc + 6) = .ok (.invokespecial ic, 3)) (d9 : decode cc (pc + 9) = .ok (.athrow, 1))
    (hR1 : 5 < R.frames) (hR2 : (st.map fun v => v.category).sum + 82 ≤ R.locals) (hR3 : cells + 1 ≤ R.cells) (hR4 : slots + 6 ≤ R.slots) (h1 : cells + 1 ≤ mc) (h2 : slots + 6 ≤ ms) : V p l e R s m args below meth c (QXi X below args s M lf E mc ms) X nL ex M lf cells slots pc lv st := by
  intro H locs ls hP hE hS hl
  obtain ⟨sa, hstr⟩ := F.2.1.2.2.2.1 _ hs0
  have hb := F.2.1.1
  refine vx_throwS (A := xA X s.heap.size) (names := exN) (text := text) F.1.1 F.1.2.1 F.2.2.2.2 F.1.2.2.2.1 hE0 (by decide +kernel) (F.1.2.2.2.2 _ hk) (F.1.2.2.2.2 _ hini) hstr (fun w hw => exL_hat F.1.2.2.2.2 F.2.1.2.2.2.2.1 w (hsub w hw)) (fun w hw => ?_)
    (vx_Zq.narrow F.2.1.2.2.2.2.2.2.1 (xA_B F.2.2.1 hb)) (vx_Zq.narrow F.2.1.2.2.2.2.2.2.2 (xA_B F.2.2.1 hb)) hS (hl.1.trans F.1.2.2.1.symm) d0 d3 d4 d6 d9 (fun x hx => (hxt x hx).elim) hR1 hR2 hR3 hR4 F.2.2.2.1 (fun t hvm hz hq => ⟨(), trivial, ⟨rfl, ?_⟩, ?_⟩) hS.2.2 h1 h2
  · rcases List.mem_cons.mp hw with rfl | hw
    · rfl
    · rcases List.mem_cons.mp hw with rfl | hw
      · rfl
      · exact List.all_eq_true.mp exL_ot w (hsub w hw)
  · exact (va_P_spl hP).1.kept (fun k q hk => hq q.1 ((va_P_spl hP).1 k q hk).lt)
  · exact ⟨Nat.le_trans hS.1 hz, fun q g1 g2 => (hq q (Nat.lt_of_lt_of_le g1 hS.1)).trans (hS.2.1 q g1 g2)⟩
theorem v_throwv (F : Fx p l s m args meth c cc nL RX4 X) (hxt : ∀ x ∈ c.exceptionTable.toList, False) {E text : String} {ik is ic mc ms : Nat} (hE0 : Bundle.fit E = true) (hsub : ∀ w, w ∈ vx_atS RX4 ic E exN → w ∈ exL) (hk : Cond.classLink RX4 ik E ∈ wAll) (hini : Cond.initialized E ∈ wAll) (hs0 : (is, text) ∈ strW)
    (d0 : decode cc pc = .ok (.new ik, 3)) (d3 : decode cc (pc + 3) = .ok (.dup, 1)) (d4 : decode cc (pc + 4) = .ok (.ldc is, 2)) (d6 : decode cc (pc + 6) = .ok (.invokespecial ic, 3)) (d9 : decode cc (pc + 9) = .ok (.athrow, 1))
    (hR1 : 5 < R.frames) (hR2 : (st.map fun v => v.category).sum + 82 ≤ R.locals) (hR3 : cells + 1 ≤ R.cells) (hR4 : slots + 6 ≤ R.slots) (h1 : cells + 1 ≤ mc) (h2 : slots + 6 ≤ ms) : V p l e R s m args below meth c (QXv X below args s M lf E mc ms) X nL ex M lf cells slots pc lv st := by
  intro H locs ls hP hE hS hl
  obtain ⟨sa, hstr⟩ := F.2.1.2.2.2.1 _ hs0
  have hb := F.2.1.1
  refine vx_throwS (A := xA X s.heap.size) (names := exN) (text := text) F.1.1 F.1.2.1 F.2.2.2.2 F.1.2.2.2.1 hE0 (by decide +kernel) (F.1.2.2.2.2 _ hk) (F.1.2.2.2.2 _ hini) hstr (fun w hw => exL_hat F.1.2.2.2.2 F.2.1.2.2.2.2.1 w (hsub w hw)) (fun w hw => ?_)
    (vx_Zq.narrow F.2.1.2.2.2.2.2.2.1 (xA_B F.2.2.1 hb)) (vx_Zq.narrow F.2.1.2.2.2.2.2.2.2 (xA_B F.2.2.1 hb)) hS (hl.1.trans F.1.2.2.1.symm) d0 d3 d4 d6 d9 (fun x hx => (hxt x hx).elim) hR1 hR2 hR3 hR4 F.2.2.2.1 (fun t hvm hz hq => ⟨(), trivial, ⟨rfl, ?_⟩, ?_⟩) hS.2.2 h1 h2
  · rcases List.mem_cons.mp hw with rfl | hw
    · rfl
    · rcases List.mem_cons.mp hw with rfl | hw
      · rfl
      · exact List.all_eq_true.mp exL_ot w (hsub w hw)
  · exact (va_P_spl hP).1.kept (fun k q hk => hq q.1 ((va_P_spl hP).1 k q hk).lt)
  · exact ⟨Nat.le_trans hS.1 hz, fun q g1 g2 => (hq q (Nat.lt_of_lt_of_le g1 hS.1)).trans (hS.2.1 q g1 g2)⟩
end VC
end
section
/-! ===== the words of fields, calls, constants, by their places in the tables ===== -/
theorem uw0_X0 : (u_ws RX0 TX0 5).all (fun w => decide (w ∈ lw_tbl) && goodWord w) = true := by decide +kernel
theorem uw_X0 : ∀ w, w ∈ u_ws RX0 TX0 5 → w ∈ wAll := fun w h => by
  have h1 := List.all_eq_true.mp uw0_X0 w h
  rw [Bool.and_eq_true] at h1
  exact List.mem_filter.mpr ⟨of_decide_eq_true h1.1, h1.2⟩
theorem uw0_X1 : (u_ws RX1 TX1 3).all (fun w => decide (w ∈ lw_tbl) && goodWord w) = true := by decide +kernel
theorem uw_X1 : ∀ w, w ∈ u_ws RX1 TX1 3 → w ∈ wAll := fun w h => by
  have h1 := List.all_eq_true.mp uw0_X1 w h
  rw [Bool.and_eq_true] at h1
  exact List.mem_filter.mpr ⟨of_decide_eq_true h1.1, h1.2⟩
theorem uw0_X2 : (u_ws RX2 TX2 5).all (fun w => decide (w ∈ lw_tbl) && goodWord w) = true := by decide +kernel
theorem uw_X2 : ∀ w, w ∈ u_ws RX2 TX2 5 → w ∈ wAll := fun w h => by
  have h1 := List.all_eq_true.mp uw0_X2 w h
  rw [Bool.and_eq_true] at h1
  exact List.mem_filter.mpr ⟨of_decide_eq_true h1.1, h1.2⟩
theorem uw0_X3 : (u_ws RX3 TX3 8).all (fun w => decide (w ∈ lw_tbl) && goodWord w) = true := by decide +kernel
theorem uw_X3 : ∀ w, w ∈ u_ws RX3 TX3 8 → w ∈ wAll := fun w h => by
  have h1 := List.all_eq_true.mp uw0_X3 w h
  rw [Bool.and_eq_true] at h1
  exact List.mem_filter.mpr ⟨of_decide_eq_true h1.1, h1.2⟩
theorem uw0_X4 : (u_ws RX4 TX4 2).all (fun w => decide (w ∈ lw_tbl) && goodWord w) = true := by decide +kernel
theorem uw_X4 : ∀ w, w ∈ u_ws RX4 TX4 2 → w ∈ wAll := fun w h => by
  have h1 := List.all_eq_true.mp uw0_X4 w h
  rw [Bool.and_eq_true] at h1
  exact List.mem_filter.mpr ⟨of_decide_eq_true h1.1, h1.2⟩
theorem uw0_X5 : (u_ws RX5 TX5 11).all (fun w => decide (w ∈ lw_tbl) && goodWord w) = true := by decide +kernel
theorem uw_X5 : ∀ w, w ∈ u_ws RX5 TX5 11 → w ∈ wAll := fun w h => by
  have h1 := List.all_eq_true.mp uw0_X5 w h
  rw [Bool.and_eq_true] at h1
  exact List.mem_filter.mpr ⟨of_decide_eq_true h1.1, h1.2⟩
theorem uw0_X6 : (u_ws RX6 TX6 10).all (fun w => decide (w ∈ lw_tbl) && goodWord w) = true := by decide +kernel
theorem uw_X6 : ∀ w, w ∈ u_ws RX6 TX6 10 → w ∈ wAll := fun w h => by
  have h1 := List.all_eq_true.mp uw0_X6 w h
  rw [Bool.and_eq_true] at h1
  exact List.mem_filter.mpr ⟨of_decide_eq_true h1.1, h1.2⟩
theorem wini_X4 : Cond.initialized RX4 ∈ wAll := wAll_in (i := 54) (by decide +kernel) (by decide +kernel)
theorem wini_X0 : Cond.initialized RX0 ∈ wAll := wAll_in (i := 56) (by decide +kernel) (by decide +kernel)
theorem wini_X1 : Cond.initialized RX1 ∈ wAll := wAll_in (i := 57) (by decide +kernel) (by decide +kernel)
theorem wini_X2 : Cond.initialized RX2 ∈ wAll := wAll_in (i := 55) (by decide +kernel) (by decide +kernel)
theorem wini_X3 : Cond.initialized RX3 ∈ wAll := wAll_in (i := 58) (by decide +kernel) (by decide +kernel)
theorem wini_L : Cond.initialized RL ∈ wAll := wAll_in (i := 53) (by decide +kernel) (by decide +kernel)
theorem wini_X6 : Cond.initialized RX6 ∈ wAll := wAll_in (i := 59) (by decide +kernel) (by decide +kernel)
theorem wini_X5 : Cond.initialized RX5 ∈ wAll := wAll_in (i := 60) (by decide +kernel) (by decide +kernel)
theorem wini_Exception : Cond.initialized "java/lang/Exception" ∈ wAll := wAll_in (i := 62) (by decide +kernel) (by decide +kernel)
theorem wini_IllegalArgumentException : Cond.initialized "java/lang/IllegalArgumentException" ∈ wAll := wAll_in (i := 64) (by decide +kernel) (by decide +kernel)
theorem wini_IllegalStateException : Cond.initialized "java/lang/IllegalStateException" ∈ wAll := wAll_in (i := 65) (by decide +kernel) (by decide +kernel)
theorem wini_IndexOutOfBoundsException : Cond.initialized "java/lang/IndexOutOfBoundsException" ∈ wAll := wAll_in (i := 66) (by decide +kernel) (by decide +kernel)
theorem wini_Math : Cond.initialized RJ9 ∈ wAll := wAll_in (i := 67) (by decide +kernel) (by decide +kernel)
theorem wini_RuntimeException : Cond.initialized "java/lang/RuntimeException" ∈ wAll := wAll_in (i := 63) (by decide +kernel) (by decide +kernel)
theorem wini_System : Cond.initialized RJ10 ∈ wAll := wAll_in (i := 68) (by decide +kernel) (by decide +kernel)
theorem wini_Throwable : Cond.initialized "java/lang/Throwable" ∈ wAll := wAll_in (i := 61) (by decide +kernel) (by decide +kernel)
theorem wc_J9_floorMod_7cf53 : Cond.code yJ9_floorMod_7cf53 cJ9_floorMod_7cf53 3 (some .int) ∈ wAll := wAll_in (i := 268) (by decide +kernel) (by decide +kernel)
theorem wst_J9_floorMod_7cf53 : Cond.static yJ9_floorMod_7cf53 ∈ wAll := wAll_in (i := 267) (by decide +kernel) (by decide +kernel)
theorem wst_L_advise : Cond.static yL_advise ∈ wAll := wAll_in (i := 605) (by decide +kernel) (by decide +kernel)
theorem wst_L_asks : Cond.static yL_asks ∈ wAll := wAll_in (i := 544) (by decide +kernel) (by decide +kernel)
theorem wst_L_come : Cond.static yL_come ∈ wAll := wAll_in (i := 326) (by decide +kernel) (by decide +kernel)
theorem wst_L_count : Cond.static yL_count ∈ wAll := wAll_in (i := 586) (by decide +kernel) (by decide +kernel)
theorem wst_L_foresee : Cond.static yL_foresee ∈ wAll := wAll_in (i := 593) (by decide +kernel) (by decide +kernel)
theorem wst_L_give : Cond.static yL_give ∈ wAll := wAll_in (i := 498) (by decide +kernel) (by decide +kernel)
theorem wst_L_go : Cond.static yL_go ∈ wAll := wAll_in (i := 570) (by decide +kernel) (by decide +kernel)
theorem wst_L_juggler : Cond.static yL_juggler ∈ wAll := wAll_in (i := 526) (by decide +kernel) (by decide +kernel)
theorem wst_L_lasts : Cond.static yL_lasts ∈ wAll := wAll_in (i := 533) (by decide +kernel) (by decide +kernel)
theorem wst_L_make : Cond.static yL_make ∈ wAll := wAll_in (i := 485) (by decide +kernel) (by decide +kernel)
theorem wst_L_pass : Cond.static yL_pass ∈ wAll := wAll_in (i := 462) (by decide +kernel) (by decide +kernel)
theorem wst_L_setPattern : Cond.static yL_setPattern ∈ wAll := wAll_in (i := 427) (by decide +kernel) (by decide +kernel)
theorem wst_L_shortest : Cond.static yL_shortest ∈ wAll := wAll_in (i := 555) (by decide +kernel) (by decide +kernel)
theorem wst_L_thing : Cond.static yL_thing ∈ wAll := wAll_in (i := 519) (by decide +kernel) (by decide +kernel)
theorem wst_L_written : Cond.static yL_written ∈ wAll := wAll_in (i := 474) (by decide +kernel) (by decide +kernel)
theorem wc_X0_canCatch : Cond.code yX0_canCatch cX0_canCatch 3 (some .boolean) ∈ wAll := wAll_in (i := 245) (by decide +kernel) (by decide +kernel)
theorem wi_X0_canCatch : Cond.instanceMethod yX0_canCatch ∈ wAll := wAll_in (i := 244) (by decide +kernel) (by decide +kernel)
theorem wse_X0_canCatch : Cond.selects RX0 yX0_canCatch yX0_canCatch ∈ wAll := wAll_in (i := 8) (by decide +kernel) (by decide +kernel)
theorem wc_X0_copyFrom : Cond.code yX0_copyFrom cX0_copyFrom 3 none ∈ wAll := wAll_in (i := 217) (by decide +kernel) (by decide +kernel)
theorem wi_X0_copyFrom : Cond.instanceMethod yX0_copyFrom ∈ wAll := wAll_in (i := 216) (by decide +kernel) (by decide +kernel)
theorem wse_X0_copyFrom : Cond.selects RX0 yX0_copyFrom yX0_copyFrom ∈ wAll := wAll_in (i := 1) (by decide +kernel) (by decide +kernel)
theorem wc_X0_init : Cond.code yX0_init cX0_init 1 none ∈ wAll := wAll_in (i := 88) (by decide +kernel) (by decide +kernel)
theorem wi_X0_init : Cond.instanceMethod yX0_init ∈ wAll := wAll_in (i := 87) (by decide +kernel) (by decide +kernel)
theorem wc_X0_miss : Cond.code yX0_miss cX0_miss 2 none ∈ wAll := wAll_in (i := 253) (by decide +kernel) (by decide +kernel)
theorem wi_X0_miss : Cond.instanceMethod yX0_miss ∈ wAll := wAll_in (i := 252) (by decide +kernel) (by decide +kernel)
theorem wse_X0_miss : Cond.selects RX0 yX0_miss yX0_miss ∈ wAll := wAll_in (i := 10) (by decide +kernel) (by decide +kernel)
theorem wc_X0_thingsHeld : Cond.code yX0_thingsHeld cX0_thingsHeld 3 (some .int) ∈ wAll := wAll_in (i := 517) (by decide +kernel) (by decide +kernel)
theorem wi_X0_thingsHeld : Cond.instanceMethod yX0_thingsHeld ∈ wAll := wAll_in (i := 516) (by decide +kernel) (by decide +kernel)
theorem wse_X0_thingsHeld : Cond.selects RX0 yX0_thingsHeld yX0_thingsHeld ∈ wAll := wAll_in (i := 32) (by decide +kernel) (by decide +kernel)
theorem wc_X1_addTo : Cond.code yX1_addTo cX1_addTo 6 (some .long) ∈ wAll := wAll_in (i := 319) (by decide +kernel) (by decide +kernel)
theorem wi_X1_addTo : Cond.instanceMethod yX1_addTo ∈ wAll := wAll_in (i := 318) (by decide +kernel) (by decide +kernel)
theorem wse_X1_addTo : Cond.selects RX1 yX1_addTo yX1_addTo ∈ wAll := wAll_in (i := 23) (by decide +kernel) (by decide +kernel)
theorem wc_X1_ballsAsked : Cond.code yX1_ballsAsked cX1_ballsAsked 3 (some .int) ∈ wAll := wAll_in (i := 553) (by decide +kernel) (by decide +kernel)
theorem wi_X1_ballsAsked : Cond.instanceMethod yX1_ballsAsked ∈ wAll := wAll_in (i := 552) (by decide +kernel) (by decide +kernel)
theorem wse_X1_ballsAsked : Cond.selects RX1 yX1_ballsAsked yX1_ballsAsked ∈ wAll := wAll_in (i := 34) (by decide +kernel) (by decide +kernel)
theorem wc_X1_copyFrom : Cond.code yX1_copyFrom cX1_copyFrom 3 none ∈ wAll := wAll_in (i := 221) (by decide +kernel) (by decide +kernel)
theorem wi_X1_copyFrom : Cond.instanceMethod yX1_copyFrom ∈ wAll := wAll_in (i := 220) (by decide +kernel) (by decide +kernel)
theorem wse_X1_copyFrom : Cond.selects RX1 yX1_copyFrom yX1_copyFrom ∈ wAll := wAll_in (i := 2) (by decide +kernel) (by decide +kernel)
theorem wc_X1_init : Cond.code yX1_init cX1_init 1 none ∈ wAll := wAll_in (i := 94) (by decide +kernel) (by decide +kernel)
theorem wi_X1_init : Cond.instanceMethod yX1_init ∈ wAll := wAll_in (i := 93) (by decide +kernel) (by decide +kernel)
theorem wc_X1_landsApart : Cond.code yX1_landsApart cX1_landsApart 4 (some .boolean) ∈ wAll := wAll_in (i := 542) (by decide +kernel) (by decide +kernel)
theorem wi_X1_landsApart : Cond.instanceMethod yX1_landsApart ∈ wAll := wAll_in (i := 541) (by decide +kernel) (by decide +kernel)
theorem wse_X1_landsApart : Cond.selects RX1 yX1_landsApart yX1_landsApart ∈ wAll := wAll_in (i := 33) (by decide +kernel) (by decide +kernel)
theorem wc_X1_placeIn : Cond.code yX1_placeIn cX1_placeIn 2 (some .int) ∈ wAll := wAll_in (i := 265) (by decide +kernel) (by decide +kernel)
theorem wi_X1_placeIn : Cond.instanceMethod yX1_placeIn ∈ wAll := wAll_in (i := 264) (by decide +kernel) (by decide +kernel)
theorem wse_X1_placeIn : Cond.selects RX1 yX1_placeIn yX1_placeIn ∈ wAll := wAll_in (i := 13) (by decide +kernel) (by decide +kernel)
theorem wc_X1_repeatsAfter : Cond.code yX1_repeatsAfter cX1_repeatsAfter 4 (some .boolean) ∈ wAll := wAll_in (i := 568) (by decide +kernel) (by decide +kernel)
theorem wi_X1_repeatsAfter : Cond.instanceMethod yX1_repeatsAfter ∈ wAll := wAll_in (i := 567) (by decide +kernel) (by decide +kernel)
theorem wse_X1_repeatsAfter : Cond.selects RX1 yX1_repeatsAfter yX1_repeatsAfter ∈ wAll := wAll_in (i := 36) (by decide +kernel) (by decide +kernel)
theorem wc_X1_shortestLength : Cond.code yX1_shortestLength cX1_shortestLength 2 (some .int) ∈ wAll := wAll_in (i := 564) (by decide +kernel) (by decide +kernel)
theorem wi_X1_shortestLength : Cond.instanceMethod yX1_shortestLength ∈ wAll := wAll_in (i := 563) (by decide +kernel) (by decide +kernel)
theorem wse_X1_shortestLength : Cond.selects RX1 yX1_shortestLength yX1_shortestLength ∈ wAll := wAll_in (i := 35) (by decide +kernel) (by decide +kernel)
theorem wc_X1_write : Cond.code yX1_write cX1_write 6 none ∈ wAll := wAll_in (i := 425) (by decide +kernel) (by decide +kernel)
theorem wi_X1_write : Cond.instanceMethod yX1_write ∈ wAll := wAll_in (i := 424) (by decide +kernel) (by decide +kernel)
theorem wse_X1_write : Cond.selects RX1 yX1_write yX1_write ∈ wAll := wAll_in (i := 27) (by decide +kernel) (by decide +kernel)
theorem wc_X2_addJuggler : Cond.code yX2_addJuggler cX2_addJuggler 3 (some .int) ∈ wAll := wAll_in (i := 421) (by decide +kernel) (by decide +kernel)
theorem wi_X2_addJuggler : Cond.instanceMethod yX2_addJuggler ∈ wAll := wAll_in (i := 420) (by decide +kernel) (by decide +kernel)
theorem wse_X2_addJuggler : Cond.selects RX2 yX2_addJuggler yX2_addJuggler ∈ wAll := wAll_in (i := 26) (by decide +kernel) (by decide +kernel)
theorem wc_X2_addThing : Cond.code yX2_addThing cX2_addThing 3 (some .int) ∈ wAll := wAll_in (i := 496) (by decide +kernel) (by decide +kernel)
theorem wi_X2_addThing : Cond.instanceMethod yX2_addThing ∈ wAll := wAll_in (i := 495) (by decide +kernel) (by decide +kernel)
theorem wse_X2_addThing : Cond.selects RX2 yX2_addThing yX2_addThing ∈ wAll := wAll_in (i := 30) (by decide +kernel) (by decide +kernel)
theorem wc_X2_allBruises : Cond.code yX2_allBruises cX2_allBruises 3 (some .int) ∈ wAll := wAll_in (i := 603) (by decide +kernel) (by decide +kernel)
theorem wi_X2_allBruises : Cond.instanceMethod yX2_allBruises ∈ wAll := wAll_in (i := 602) (by decide +kernel) (by decide +kernel)
theorem wse_X2_allBruises : Cond.selects RX2 yX2_allBruises yX2_allBruises ∈ wAll := wAll_in (i := 38) (by decide +kernel) (by decide +kernel)
theorem wc_X2_allFell : Cond.code yX2_allFell cX2_allFell 3 (some .int) ∈ wAll := wAll_in (i := 306) (by decide +kernel) (by decide +kernel)
theorem wi_X2_allFell : Cond.instanceMethod yX2_allFell ∈ wAll := wAll_in (i := 305) (by decide +kernel) (by decide +kernel)
theorem wse_X2_allFell : Cond.selects RX2 yX2_allFell yX2_allFell ∈ wAll := wAll_in (i := 20) (by decide +kernel) (by decide +kernel)
theorem wc_X2_allThrown : Cond.code yX2_allThrown cX2_allThrown 3 (some .int) ∈ wAll := wAll_in (i := 288) (by decide +kernel) (by decide +kernel)
theorem wi_X2_allThrown : Cond.instanceMethod yX2_allThrown ∈ wAll := wAll_in (i := 287) (by decide +kernel) (by decide +kernel)
theorem wse_X2_allThrown : Cond.selects RX2 yX2_allThrown yX2_allThrown ∈ wAll := wAll_in (i := 17) (by decide +kernel) (by decide +kernel)
theorem wc_X2_comeDown : Cond.code yX2_comeDown cX2_comeDown 6 (some .int) ∈ wAll := wAll_in (i := 233) (by decide +kernel) (by decide +kernel)
theorem wi_X2_comeDown : Cond.instanceMethod yX2_comeDown ∈ wAll := wAll_in (i := 232) (by decide +kernel) (by decide +kernel)
theorem wse_X2_comeDown : Cond.selects RX2 yX2_comeDown yX2_comeDown ∈ wAll := wAll_in (i := 5) (by decide +kernel) (by decide +kernel)
theorem wc_X2_copyFrom : Cond.code yX2_copyFrom cX2_copyFrom 3 none ∈ wAll := wAll_in (i := 213) (by decide +kernel) (by decide +kernel)
theorem wi_X2_copyFrom : Cond.instanceMethod yX2_copyFrom ∈ wAll := wAll_in (i := 212) (by decide +kernel) (by decide +kernel)
theorem wse_X2_copyFrom : Cond.selects RX2 yX2_copyFrom yX2_copyFrom ∈ wAll := wAll_in (i := 0) (by decide +kernel) (by decide +kernel)
theorem wc_X2_hasJuggler : Cond.code yX2_hasJuggler cX2_hasJuggler 2 (some .boolean) ∈ wAll := wAll_in (i := 241) (by decide +kernel) (by decide +kernel)
theorem wi_X2_hasJuggler : Cond.instanceMethod yX2_hasJuggler ∈ wAll := wAll_in (i := 240) (by decide +kernel) (by decide +kernel)
theorem wse_X2_hasJuggler : Cond.selects RX2 yX2_hasJuggler yX2_hasJuggler ∈ wAll := wAll_in (i := 7) (by decide +kernel) (by decide +kernel)
theorem wc_X2_hasThing : Cond.code yX2_hasThing cX2_hasThing 2 (some .boolean) ∈ wAll := wAll_in (i := 272) (by decide +kernel) (by decide +kernel)
theorem wi_X2_hasThing : Cond.instanceMethod yX2_hasThing ∈ wAll := wAll_in (i := 271) (by decide +kernel) (by decide +kernel)
theorem wse_X2_hasThing : Cond.selects RX2 yX2_hasThing yX2_hasThing ∈ wAll := wAll_in (i := 14) (by decide +kernel) (by decide +kernel)
theorem wc_X2_init : Cond.code yX2_init cX2_init 2 none ∈ wAll := wAll_in (i := 81) (by decide +kernel) (by decide +kernel)
theorem wi_X2_init : Cond.instanceMethod yX2_init ∈ wAll := wAll_in (i := 80) (by decide +kernel) (by decide +kernel)
theorem wc_X2_play : Cond.code yX2_play cX2_play 4 (some .int) ∈ wAll := wAll_in (i := 583) (by decide +kernel) (by decide +kernel)
theorem wi_X2_play : Cond.instanceMethod yX2_play ∈ wAll := wAll_in (i := 582) (by decide +kernel) (by decide +kernel)
theorem wse_X2_play : Cond.selects RX2 yX2_play yX2_play ∈ wAll := wAll_in (i := 37) (by decide +kernel) (by decide +kernel)
theorem wc_X2_playBeat : Cond.code yX2_playBeat cX2_playBeat 4 (some .int) ∈ wAll := wAll_in (i := 229) (by decide +kernel) (by decide +kernel)
theorem wi_X2_playBeat : Cond.instanceMethod yX2_playBeat ∈ wAll := wAll_in (i := 228) (by decide +kernel) (by decide +kernel)
theorem wse_X2_playBeat : Cond.selects RX2 yX2_playBeat yX2_playBeat ∈ wAll := wAll_in (i := 4) (by decide +kernel) (by decide +kernel)
theorem wc_X2_putIntoHand : Cond.code yX2_putIntoHand cX2_putIntoHand 5 none ∈ wAll := wAll_in (i := 249) (by decide +kernel) (by decide +kernel)
theorem wi_X2_putIntoHand : Cond.instanceMethod yX2_putIntoHand ∈ wAll := wAll_in (i := 248) (by decide +kernel) (by decide +kernel)
theorem wse_X2_putIntoHand : Cond.selects RX2 yX2_putIntoHand yX2_putIntoHand ∈ wAll := wAll_in (i := 9) (by decide +kernel) (by decide +kernel)
theorem wc_X2_tellCount : Cond.code yX2_tellCount cX2_tellCount 2 (some .int) ∈ wAll := wAll_in (i := 298) (by decide +kernel) (by decide +kernel)
theorem wi_X2_tellCount : Cond.instanceMethod yX2_tellCount ∈ wAll := wAll_in (i := 297) (by decide +kernel) (by decide +kernel)
theorem wse_X2_tellCount : Cond.selects RX2 yX2_tellCount yX2_tellCount ∈ wAll := wAll_in (i := 18) (by decide +kernel) (by decide +kernel)
theorem wc_X2_tellJuggler : Cond.code yX2_tellJuggler cX2_tellJuggler 4 (some .int) ∈ wAll := wAll_in (i := 311) (by decide +kernel) (by decide +kernel)
theorem wi_X2_tellJuggler : Cond.instanceMethod yX2_tellJuggler ∈ wAll := wAll_in (i := 310) (by decide +kernel) (by decide +kernel)
theorem wse_X2_tellJuggler : Cond.selects RX2 yX2_tellJuggler yX2_tellJuggler ∈ wAll := wAll_in (i := 21) (by decide +kernel) (by decide +kernel)
theorem wc_X2_tellThing : Cond.code yX2_tellThing cX2_tellThing 4 (some .int) ∈ wAll := wAll_in (i := 324) (by decide +kernel) (by decide +kernel)
theorem wi_X2_tellThing : Cond.instanceMethod yX2_tellThing ∈ wAll := wAll_in (i := 323) (by decide +kernel) (by decide +kernel)
theorem wse_X2_tellThing : Cond.selects RX2 yX2_tellThing yX2_tellThing ∈ wAll := wAll_in (i := 24) (by decide +kernel) (by decide +kernel)
theorem wc_X2_thingsFlyingTo : Cond.code yX2_thingsFlyingTo cX2_thingsFlyingTo 4 (some .int) ∈ wAll := wAll_in (i := 315) (by decide +kernel) (by decide +kernel)
theorem wi_X2_thingsFlyingTo : Cond.instanceMethod yX2_thingsFlyingTo ∈ wAll := wAll_in (i := 314) (by decide +kernel) (by decide +kernel)
theorem wse_X2_thingsFlyingTo : Cond.selects RX2 yX2_thingsFlyingTo yX2_thingsFlyingTo ∈ wAll := wAll_in (i := 22) (by decide +kernel) (by decide +kernel)
theorem wc_X2_thingsIn : Cond.code yX2_thingsIn cX2_thingsIn 4 (some .int) ∈ wAll := wAll_in (i := 302) (by decide +kernel) (by decide +kernel)
theorem wi_X2_thingsIn : Cond.instanceMethod yX2_thingsIn ∈ wAll := wAll_in (i := 301) (by decide +kernel) (by decide +kernel)
theorem wse_X2_thingsIn : Cond.selects RX2 yX2_thingsIn yX2_thingsIn ∈ wAll := wAll_in (i := 19) (by decide +kernel) (by decide +kernel)
theorem wc_X2_throwFrom : Cond.code yX2_throwFrom cX2_throwFrom 6 none ∈ wAll := wAll_in (i := 261) (by decide +kernel) (by decide +kernel)
theorem wi_X2_throwFrom : Cond.instanceMethod yX2_throwFrom ∈ wAll := wAll_in (i := 260) (by decide +kernel) (by decide +kernel)
theorem wse_X2_throwFrom : Cond.selects RX2 yX2_throwFrom yX2_throwFrom ∈ wAll := wAll_in (i := 12) (by decide +kernel) (by decide +kernel)
theorem wc_X3_beatsInAir : Cond.code yX3_beatsInAir cX3_beatsInAir 2 (some .int) ∈ wAll := wAll_in (i := 280) (by decide +kernel) (by decide +kernel)
theorem wi_X3_beatsInAir : Cond.instanceMethod yX3_beatsInAir ∈ wAll := wAll_in (i := 279) (by decide +kernel) (by decide +kernel)
theorem wse_X3_beatsInAir : Cond.selects RX3 yX3_beatsInAir yX3_beatsInAir ∈ wAll := wAll_in (i := 16) (by decide +kernel) (by decide +kernel)
theorem wc_X3_comesDownIn : Cond.code yX3_comesDownIn cX3_comesDownIn 2 (some .boolean) ∈ wAll := wAll_in (i := 237) (by decide +kernel) (by decide +kernel)
theorem wi_X3_comesDownIn : Cond.instanceMethod yX3_comesDownIn ∈ wAll := wAll_in (i := 236) (by decide +kernel) (by decide +kernel)
theorem wse_X3_comesDownIn : Cond.selects RX3 yX3_comesDownIn yX3_comesDownIn ∈ wAll := wAll_in (i := 6) (by decide +kernel) (by decide +kernel)
theorem wc_X3_copyFrom : Cond.code yX3_copyFrom cX3_copyFrom 2 none ∈ wAll := wAll_in (i := 225) (by decide +kernel) (by decide +kernel)
theorem wi_X3_copyFrom : Cond.instanceMethod yX3_copyFrom ∈ wAll := wAll_in (i := 224) (by decide +kernel) (by decide +kernel)
theorem wse_X3_copyFrom : Cond.selects RX3 yX3_copyFrom yX3_copyFrom ∈ wAll := wAll_in (i := 3) (by decide +kernel) (by decide +kernel)
theorem wc_X3_fall : Cond.code yX3_fall cX3_fall 1 none ∈ wAll := wAll_in (i := 257) (by decide +kernel) (by decide +kernel)
theorem wi_X3_fall : Cond.instanceMethod yX3_fall ∈ wAll := wAll_in (i := 256) (by decide +kernel) (by decide +kernel)
theorem wse_X3_fall : Cond.selects RX3 yX3_fall yX3_fall ∈ wAll := wAll_in (i := 11) (by decide +kernel) (by decide +kernel)
theorem wc_X3_fly : Cond.code yX3_fly cX3_fly 4 none ∈ wAll := wAll_in (i := 276) (by decide +kernel) (by decide +kernel)
theorem wi_X3_fly : Cond.instanceMethod yX3_fly ∈ wAll := wAll_in (i := 275) (by decide +kernel) (by decide +kernel)
theorem wse_X3_fly : Cond.selects RX3 yX3_fly yX3_fly ∈ wAll := wAll_in (i := 15) (by decide +kernel) (by decide +kernel)
theorem wc_X3_init : Cond.code yX3_init cX3_init 1 none ∈ wAll := wAll_in (i := 141) (by decide +kernel) (by decide +kernel)
theorem wi_X3_init : Cond.instanceMethod yX3_init ∈ wAll := wAll_in (i := 140) (by decide +kernel) (by decide +kernel)
theorem wc_X4_advise : Cond.code yX4_advise cX4_advise 9 (some .int) ∈ wAll := wAll_in (i := 610) (by decide +kernel) (by decide +kernel)
theorem wi_X4_advise : Cond.instanceMethod yX4_advise ∈ wAll := wAll_in (i := 608) (by decide +kernel) (by decide +kernel)
theorem wse_X4_advise : Cond.selects RX4 yX4_advise yX4_advise ∈ wAll := wAll_in (i := 609) (by decide +kernel) (by decide +kernel)
theorem wc_X4_asks : Cond.code yX4_asks cX4_asks 2 (some .int) ∈ wAll := wAll_in (i := 549) (by decide +kernel) (by decide +kernel)
theorem wi_X4_asks : Cond.instanceMethod yX4_asks ∈ wAll := wAll_in (i := 547) (by decide +kernel) (by decide +kernel)
theorem wse_X4_asks : Cond.selects RX4 yX4_asks yX4_asks ∈ wAll := wAll_in (i := 548) (by decide +kernel) (by decide +kernel)
theorem wc_X4_come : Cond.code yX4_come cX4_come 2 (some .int) ∈ wAll := wAll_in (i := 333) (by decide +kernel) (by decide +kernel)
theorem wi_X4_come : Cond.instanceMethod yX4_come ∈ wAll := wAll_in (i := 331) (by decide +kernel) (by decide +kernel)
theorem wse_X4_come : Cond.selects RX4 yX4_come yX4_come ∈ wAll := wAll_in (i := 332) (by decide +kernel) (by decide +kernel)
theorem wc_X4_count : Cond.code yX4_count cX4_count 2 (some .int) ∈ wAll := wAll_in (i := 591) (by decide +kernel) (by decide +kernel)
theorem wi_X4_count : Cond.instanceMethod yX4_count ∈ wAll := wAll_in (i := 589) (by decide +kernel) (by decide +kernel)
theorem wse_X4_count : Cond.selects RX4 yX4_count yX4_count ∈ wAll := wAll_in (i := 590) (by decide +kernel) (by decide +kernel)
theorem wc_X4_digest : Cond.code yX4_digest cX4_digest 5 (some .long) ∈ wAll := wAll_in (i := 292) (by decide +kernel) (by decide +kernel)
theorem wi_X4_digest : Cond.instanceMethod yX4_digest ∈ wAll := wAll_in (i := 290) (by decide +kernel) (by decide +kernel)
theorem wse_X4_digest : Cond.selects RX4 yX4_digest yX4_digest ∈ wAll := wAll_in (i := 291) (by decide +kernel) (by decide +kernel)
theorem wc_X4_fallenWith : Cond.code yX4_fallenWith cX4_fallenWith 5 (some .int) ∈ wAll := wAll_in (i := 614) (by decide +kernel) (by decide +kernel)
theorem wi_X4_fallenWith : Cond.instanceMethod yX4_fallenWith ∈ wAll := wAll_in (i := 613) (by decide +kernel) (by decide +kernel)
theorem wse_X4_fallenWith : Cond.selects RX4 yX4_fallenWith yX4_fallenWith ∈ wAll := wAll_in (i := 39) (by decide +kernel) (by decide +kernel)
theorem wc_X4_falls : Cond.code yX4_falls cX4_falls 2 (some .int) ∈ wAll := wAll_in (i := 209) (by decide +kernel) (by decide +kernel)
theorem wi_X4_falls : Cond.instanceMethod yX4_falls ∈ wAll := wAll_in (i := 207) (by decide +kernel) (by decide +kernel)
theorem wse_X4_falls : Cond.selects RX4 yX4_falls yX4_falls ∈ wAll := wAll_in (i := 208) (by decide +kernel) (by decide +kernel)
theorem wc_X4_foresee : Cond.code yX4_foresee cX4_foresee 4 (some .int) ∈ wAll := wAll_in (i := 598) (by decide +kernel) (by decide +kernel)
theorem wi_X4_foresee : Cond.instanceMethod yX4_foresee ∈ wAll := wAll_in (i := 596) (by decide +kernel) (by decide +kernel)
theorem wse_X4_foresee : Cond.selects RX4 yX4_foresee yX4_foresee ∈ wAll := wAll_in (i := 597) (by decide +kernel) (by decide +kernel)
theorem wc_X4_give : Cond.code yX4_give cX4_give 4 (some .int) ∈ wAll := wAll_in (i := 503) (by decide +kernel) (by decide +kernel)
theorem wi_X4_give : Cond.instanceMethod yX4_give ∈ wAll := wAll_in (i := 501) (by decide +kernel) (by decide +kernel)
theorem wse_X4_give : Cond.selects RX4 yX4_give yX4_give ∈ wAll := wAll_in (i := 502) (by decide +kernel) (by decide +kernel)
theorem wc_X4_go : Cond.code yX4_go cX4_go 2 (some .int) ∈ wAll := wAll_in (i := 575) (by decide +kernel) (by decide +kernel)
theorem wi_X4_go : Cond.instanceMethod yX4_go ∈ wAll := wAll_in (i := 573) (by decide +kernel) (by decide +kernel)
theorem wse_X4_go : Cond.selects RX4 yX4_go yX4_go ∈ wAll := wAll_in (i := 574) (by decide +kernel) (by decide +kernel)
theorem wc_X4_init : Cond.code yX4_init cX4_init 1 none ∈ wAll := wAll_in (i := 73) (by decide +kernel) (by decide +kernel)
theorem wi_X4_init : Cond.instanceMethod yX4_init ∈ wAll := wAll_in (i := 72) (by decide +kernel) (by decide +kernel)
theorem wc_X4_juggler : Cond.code yX4_juggler cX4_juggler 3 (some .int) ∈ wAll := wAll_in (i := 531) (by decide +kernel) (by decide +kernel)
theorem wi_X4_juggler : Cond.instanceMethod yX4_juggler ∈ wAll := wAll_in (i := 529) (by decide +kernel) (by decide +kernel)
theorem wse_X4_juggler : Cond.selects RX4 yX4_juggler yX4_juggler ∈ wAll := wAll_in (i := 530) (by decide +kernel) (by decide +kernel)
theorem wc_X4_lasts : Cond.code yX4_lasts cX4_lasts 2 (some .boolean) ∈ wAll := wAll_in (i := 538) (by decide +kernel) (by decide +kernel)
theorem wi_X4_lasts : Cond.instanceMethod yX4_lasts ∈ wAll := wAll_in (i := 536) (by decide +kernel) (by decide +kernel)
theorem wse_X4_lasts : Cond.selects RX4 yX4_lasts yX4_lasts ∈ wAll := wAll_in (i := 537) (by decide +kernel) (by decide +kernel)
theorem wc_X4_make : Cond.code yX4_make cX4_make 2 (some .int) ∈ wAll := wAll_in (i := 490) (by decide +kernel) (by decide +kernel)
theorem wi_X4_make : Cond.instanceMethod yX4_make ∈ wAll := wAll_in (i := 488) (by decide +kernel) (by decide +kernel)
theorem wse_X4_make : Cond.selects RX4 yX4_make yX4_make ∈ wAll := wAll_in (i := 489) (by decide +kernel) (by decide +kernel)
theorem wc_X4_mean : Cond.code yX4_mean cX4_mean 1 (some .double) ∈ wAll := wAll_in (i := 284) (by decide +kernel) (by decide +kernel)
theorem wi_X4_mean : Cond.instanceMethod yX4_mean ∈ wAll := wAll_in (i := 282) (by decide +kernel) (by decide +kernel)
theorem wse_X4_mean : Cond.selects RX4 yX4_mean yX4_mean ∈ wAll := wAll_in (i := 283) (by decide +kernel) (by decide +kernel)
theorem wc_X4_pass : Cond.code yX4_pass cX4_pass 6 (some .int) ∈ wAll := wAll_in (i := 467) (by decide +kernel) (by decide +kernel)
theorem wi_X4_pass : Cond.instanceMethod yX4_pass ∈ wAll := wAll_in (i := 465) (by decide +kernel) (by decide +kernel)
theorem wse_X4_pass : Cond.selects RX4 yX4_pass yX4_pass ∈ wAll := wAll_in (i := 466) (by decide +kernel) (by decide +kernel)
theorem wc_X4_powerOfTen : Cond.code yX4_powerOfTen cX4_powerOfTen 3 (some .int) ∈ wAll := wAll_in (i := 458) (by decide +kernel) (by decide +kernel)
theorem wst_X4_powerOfTen : Cond.static yX4_powerOfTen ∈ wAll := wAll_in (i := 457) (by decide +kernel) (by decide +kernel)
theorem wc_X4_setPattern : Cond.code yX4_setPattern cX4_setPattern 6 (some .int) ∈ wAll := wAll_in (i := 433) (by decide +kernel) (by decide +kernel)
theorem wi_X4_setPattern : Cond.instanceMethod yX4_setPattern ∈ wAll := wAll_in (i := 431) (by decide +kernel) (by decide +kernel)
theorem wse_X4_setPattern : Cond.selects RX4 yX4_setPattern yX4_setPattern ∈ wAll := wAll_in (i := 432) (by decide +kernel) (by decide +kernel)
theorem wc_X4_shortest : Cond.code yX4_shortest cX4_shortest 2 (some .int) ∈ wAll := wAll_in (i := 560) (by decide +kernel) (by decide +kernel)
theorem wi_X4_shortest : Cond.instanceMethod yX4_shortest ∈ wAll := wAll_in (i := 558) (by decide +kernel) (by decide +kernel)
theorem wse_X4_shortest : Cond.selects RX4 yX4_shortest yX4_shortest ∈ wAll := wAll_in (i := 559) (by decide +kernel) (by decide +kernel)
theorem wc_X4_testBeats : Cond.code yX4_testBeats cX4_testBeats 2 none ∈ wAll := wAll_in (i := 578) (by decide +kernel) (by decide +kernel)
theorem wst_X4_testBeats : Cond.static yX4_testBeats ∈ wAll := wAll_in (i := 577) (by decide +kernel) (by decide +kernel)
theorem wc_X4_testJuggler : Cond.code yX4_testJuggler cX4_testJuggler 2 none ∈ wAll := wAll_in (i := 437) (by decide +kernel) (by decide +kernel)
theorem wi_X4_testJuggler : Cond.instanceMethod yX4_testJuggler ∈ wAll := wAll_in (i := 436) (by decide +kernel) (by decide +kernel)
theorem wse_X4_testJuggler : Cond.selects RX4 yX4_testJuggler yX4_testJuggler ∈ wAll := wAll_in (i := 28) (by decide +kernel) (by decide +kernel)
theorem wc_X4_testPlace : Cond.code yX4_testPlace cX4_testPlace 3 none ∈ wAll := wAll_in (i := 471) (by decide +kernel) (by decide +kernel)
theorem wi_X4_testPlace : Cond.instanceMethod yX4_testPlace ∈ wAll := wAll_in (i := 470) (by decide +kernel) (by decide +kernel)
theorem wse_X4_testPlace : Cond.selects RX4 yX4_testPlace yX4_testPlace ∈ wAll := wAll_in (i := 29) (by decide +kernel) (by decide +kernel)
theorem wc_X4_testThing : Cond.code yX4_testThing cX4_testThing 2 none ∈ wAll := wAll_in (i := 507) (by decide +kernel) (by decide +kernel)
theorem wi_X4_testThing : Cond.instanceMethod yX4_testThing ∈ wAll := wAll_in (i := 506) (by decide +kernel) (by decide +kernel)
theorem wse_X4_testThing : Cond.selects RX4 yX4_testThing yX4_testThing ∈ wAll := wAll_in (i := 31) (by decide +kernel) (by decide +kernel)
theorem wc_X4_testWhat : Cond.code yX4_testWhat cX4_testWhat 2 none ∈ wAll := wAll_in (i := 482) (by decide +kernel) (by decide +kernel)
theorem wst_X4_testWhat : Cond.static yX4_testWhat ∈ wAll := wAll_in (i := 481) (by decide +kernel) (by decide +kernel)
theorem wc_X4_thing : Cond.code yX4_thing cX4_thing 3 (some .int) ∈ wAll := wAll_in (i := 524) (by decide +kernel) (by decide +kernel)
theorem wi_X4_thing : Cond.instanceMethod yX4_thing ∈ wAll := wAll_in (i := 522) (by decide +kernel) (by decide +kernel)
theorem wse_X4_thing : Cond.selects RX4 yX4_thing yX4_thing ∈ wAll := wAll_in (i := 523) (by decide +kernel) (by decide +kernel)
theorem wc_X4_written : Cond.code yX4_written cX4_written 5 (some .int) ∈ wAll := wAll_in (i := 479) (by decide +kernel) (by decide +kernel)
theorem wi_X4_written : Cond.instanceMethod yX4_written ∈ wAll := wAll_in (i := 477) (by decide +kernel) (by decide +kernel)
theorem wse_X4_written : Cond.selects RX4 yX4_written yX4_written ∈ wAll := wAll_in (i := 478) (by decide +kernel) (by decide +kernel)
theorem wc_X5_are : Cond.code yX5_are cX5_are 4 (some .int) ∈ wAll := wAll_in (i := 829) (by decide +kernel) (by decide +kernel)
theorem wi_X5_are : Cond.instanceMethod yX5_are ∈ wAll := wAll_in (i := 827) (by decide +kernel) (by decide +kernel)
theorem wse_X5_are : Cond.selects RX5 yX5_are yX5_are ∈ wAll := wAll_in (i := 828) (by decide +kernel) (by decide +kernel)
theorem wc_X5_become : Cond.code yX5_become cX5_become 2 none ∈ wAll := wAll_in (i := 837) (by decide +kernel) (by decide +kernel)
theorem wi_X5_become : Cond.instanceMethod yX5_become ∈ wAll := wAll_in (i := 835) (by decide +kernel) (by decide +kernel)
theorem wse_X5_become : Cond.selects RX5 yX5_become yX5_become ∈ wAll := wAll_in (i := 836) (by decide +kernel) (by decide +kernel)
theorem wc_X5_comeDown : Cond.code yX5_comeDown cX5_comeDown 4 none ∈ wAll := wAll_in (i := 810) (by decide +kernel) (by decide +kernel)
theorem wi_X5_comeDown : Cond.instanceMethod yX5_comeDown ∈ wAll := wAll_in (i := 809) (by decide +kernel) (by decide +kernel)
theorem wse_X5_comeDown : Cond.selects RX5 yX5_comeDown yX5_comeDown ∈ wAll := wAll_in (i := 48) (by decide +kernel) (by decide +kernel)
theorem wc_X5_copy : Cond.code yX5_copy cX5_copy 3 none ∈ wAll := wAll_in (i := 841) (by decide +kernel) (by decide +kernel)
theorem wi_X5_copy : Cond.instanceMethod yX5_copy ∈ wAll := wAll_in (i := 840) (by decide +kernel) (by decide +kernel)
theorem wse_X5_copy : Cond.selects RX5 yX5_copy yX5_copy ∈ wAll := wAll_in (i := 51) (by decide +kernel) (by decide +kernel)
theorem wc_X5_go : Cond.code yX5_go cX5_go 2 none ∈ wAll := wAll_in (i := 806) (by decide +kernel) (by decide +kernel)
theorem wi_X5_go : Cond.instanceMethod yX5_go ∈ wAll := wAll_in (i := 804) (by decide +kernel) (by decide +kernel)
theorem wse_X5_go : Cond.selects RX5 yX5_go yX5_go ∈ wAll := wAll_in (i := 805) (by decide +kernel) (by decide +kernel)
theorem wc_X5_handOf : Cond.code yX5_handOf cX5_handOf 3 (some .int) ∈ wAll := wAll_in (i := 770) (by decide +kernel) (by decide +kernel)
theorem wi_X5_handOf : Cond.instanceMethod yX5_handOf ∈ wAll := wAll_in (i := 768) (by decide +kernel) (by decide +kernel)
theorem wse_X5_handOf : Cond.selects RX5 yX5_handOf yX5_handOf ∈ wAll := wAll_in (i := 769) (by decide +kernel) (by decide +kernel)
theorem wc_X5_init : Cond.code yX5_init cX5_init 2 none ∈ wAll := wAll_in (i := 625) (by decide +kernel) (by decide +kernel)
theorem wi_X5_init : Cond.instanceMethod yX5_init ∈ wAll := wAll_in (i := 624) (by decide +kernel) (by decide +kernel)
theorem wc_X5_sum : Cond.code yX5_sum cX5_sum 7 (some .int) ∈ wAll := wAll_in (i := 802) (by decide +kernel) (by decide +kernel)
theorem wi_X5_sum : Cond.instanceMethod yX5_sum ∈ wAll := wAll_in (i := 800) (by decide +kernel) (by decide +kernel)
theorem wse_X5_sum : Cond.selects RX5 yX5_sum yX5_sum ∈ wAll := wAll_in (i := 801) (by decide +kernel) (by decide +kernel)
theorem wc_X5_throwFrom : Cond.code yX5_throwFrom cX5_throwFrom 5 none ∈ wAll := wAll_in (i := 814) (by decide +kernel) (by decide +kernel)
theorem wi_X5_throwFrom : Cond.instanceMethod yX5_throwFrom ∈ wAll := wAll_in (i := 813) (by decide +kernel) (by decide +kernel)
theorem wse_X5_throwFrom : Cond.selects RX5 yX5_throwFrom yX5_throwFrom ∈ wAll := wAll_in (i := 49) (by decide +kernel) (by decide +kernel)
theorem wc_X6_advise : Cond.code yX6_advise cX6_advise 10 (some .int) ∈ wAll := wAll_in (i := 856) (by decide +kernel) (by decide +kernel)
theorem wi_X6_advise : Cond.instanceMethod yX6_advise ∈ wAll := wAll_in (i := 854) (by decide +kernel) (by decide +kernel)
theorem wse_X6_advise : Cond.selects RX6 yX6_advise yX6_advise ∈ wAll := wAll_in (i := 855) (by decide +kernel) (by decide +kernel)
theorem wc_X6_asks : Cond.code yX6_asks cX6_asks 4 (some .int) ∈ wAll := wAll_in (i := 786) (by decide +kernel) (by decide +kernel)
theorem wi_X6_asks : Cond.instanceMethod yX6_asks ∈ wAll := wAll_in (i := 784) (by decide +kernel) (by decide +kernel)
theorem wse_X6_asks : Cond.selects RX6 yX6_asks yX6_asks ∈ wAll := wAll_in (i := 785) (by decide +kernel) (by decide +kernel)
theorem wc_X6_beatsOf : Cond.code yX6_beatsOf cX6_beatsOf 2 (some .int) ∈ wAll := wAll_in (i := 817) (by decide +kernel) (by decide +kernel)
theorem wst_X6_beatsOf : Cond.static yX6_beatsOf ∈ wAll := wAll_in (i := 816) (by decide +kernel) (by decide +kernel)
theorem wc_X6_come : Cond.code yX6_come cX6_come 2 (some .int) ∈ wAll := wAll_in (i := 715) (by decide +kernel) (by decide +kernel)
theorem wi_X6_come : Cond.instanceMethod yX6_come ∈ wAll := wAll_in (i := 713) (by decide +kernel) (by decide +kernel)
theorem wse_X6_come : Cond.selects RX6 yX6_come yX6_come ∈ wAll := wAll_in (i := 714) (by decide +kernel) (by decide +kernel)
theorem wc_X6_count : Cond.code yX6_count cX6_count 2 (some .int) ∈ wAll := wAll_in (i := 821) (by decide +kernel) (by decide +kernel)
theorem wi_X6_count : Cond.instanceMethod yX6_count ∈ wAll := wAll_in (i := 819) (by decide +kernel) (by decide +kernel)
theorem wse_X6_count : Cond.selects RX6 yX6_count yX6_count ∈ wAll := wAll_in (i := 820) (by decide +kernel) (by decide +kernel)
theorem wc_X6_counted : Cond.code yX6_counted cX6_counted 3 (some .int) ∈ wAll := wAll_in (i := 825) (by decide +kernel) (by decide +kernel)
theorem wi_X6_counted : Cond.instanceMethod yX6_counted ∈ wAll := wAll_in (i := 824) (by decide +kernel) (by decide +kernel)
theorem wse_X6_counted : Cond.selects RX6 yX6_counted yX6_counted ∈ wAll := wAll_in (i := 50) (by decide +kernel) (by decide +kernel)
theorem wc_X6_digest : Cond.code yX6_digest cX6_digest 5 (some .long) ∈ wAll := wAll_in (i := 864) (by decide +kernel) (by decide +kernel)
theorem wi_X6_digest : Cond.instanceMethod yX6_digest ∈ wAll := wAll_in (i := 862) (by decide +kernel) (by decide +kernel)
theorem wse_X6_digest : Cond.selects RX6 yX6_digest yX6_digest ∈ wAll := wAll_in (i := 863) (by decide +kernel) (by decide +kernel)
theorem wc_X6_falls : Cond.code yX6_falls cX6_falls 3 (some .int) ∈ wAll := wAll_in (i := 833) (by decide +kernel) (by decide +kernel)
theorem wi_X6_falls : Cond.instanceMethod yX6_falls ∈ wAll := wAll_in (i := 831) (by decide +kernel) (by decide +kernel)
theorem wse_X6_falls : Cond.selects RX6 yX6_falls yX6_falls ∈ wAll := wAll_in (i := 832) (by decide +kernel) (by decide +kernel)
theorem wc_X6_fallsIn : Cond.code yX6_fallsIn cX6_fallsIn 3 (some .int) ∈ wAll := wAll_in (i := 852) (by decide +kernel) (by decide +kernel)
theorem wi_X6_fallsIn : Cond.instanceMethod yX6_fallsIn ∈ wAll := wAll_in (i := 851) (by decide +kernel) (by decide +kernel)
theorem wse_X6_fallsIn : Cond.selects RX6 yX6_fallsIn yX6_fallsIn ∈ wAll := wAll_in (i := 52) (by decide +kernel) (by decide +kernel)
theorem wc_X6_foresee : Cond.code yX6_foresee cX6_foresee 4 (some .int) ∈ wAll := wAll_in (i := 848) (by decide +kernel) (by decide +kernel)
theorem wi_X6_foresee : Cond.instanceMethod yX6_foresee ∈ wAll := wAll_in (i := 846) (by decide +kernel) (by decide +kernel)
theorem wse_X6_foresee : Cond.selects RX6 yX6_foresee yX6_foresee ∈ wAll := wAll_in (i := 847) (by decide +kernel) (by decide +kernel)
theorem wc_X6_give : Cond.code yX6_give cX6_give 4 (some .int) ∈ wAll := wAll_in (i := 750) (by decide +kernel) (by decide +kernel)
theorem wi_X6_give : Cond.instanceMethod yX6_give ∈ wAll := wAll_in (i := 748) (by decide +kernel) (by decide +kernel)
theorem wse_X6_give : Cond.selects RX6 yX6_give yX6_give ∈ wAll := wAll_in (i := 749) (by decide +kernel) (by decide +kernel)
theorem wc_X6_go : Cond.code yX6_go cX6_go 4 (some .int) ∈ wAll := wAll_in (i := 798) (by decide +kernel) (by decide +kernel)
theorem wi_X6_go : Cond.instanceMethod yX6_go ∈ wAll := wAll_in (i := 796) (by decide +kernel) (by decide +kernel)
theorem wse_X6_go : Cond.selects RX6 yX6_go yX6_go ∈ wAll := wAll_in (i := 797) (by decide +kernel) (by decide +kernel)
theorem wc_X6_holds : Cond.code yX6_holds cX6_holds 2 (some .int) ∈ wAll := wAll_in (i := 758) (by decide +kernel) (by decide +kernel)
theorem wi_X6_holds : Cond.instanceMethod yX6_holds ∈ wAll := wAll_in (i := 757) (by decide +kernel) (by decide +kernel)
theorem wse_X6_holds : Cond.selects RX6 yX6_holds yX6_holds ∈ wAll := wAll_in (i := 44) (by decide +kernel) (by decide +kernel)
theorem wc_X6_init : Cond.code yX6_init cX6_init 1 none ∈ wAll := wAll_in (i := 619) (by decide +kernel) (by decide +kernel)
theorem wi_X6_init : Cond.instanceMethod yX6_init ∈ wAll := wAll_in (i := 618) (by decide +kernel) (by decide +kernel)
theorem wc_X6_isIn : Cond.code yX6_isIn cX6_isIn 3 (some .boolean) ∈ wAll := wAll_in (i := 718) (by decide +kernel) (by decide +kernel)
theorem wst_X6_isIn : Cond.static yX6_isIn ∈ wAll := wAll_in (i := 717) (by decide +kernel) (by decide +kernel)
theorem wc_X6_isJuggler : Cond.code yX6_isJuggler cX6_isJuggler 2 (some .boolean) ∈ wAll := wAll_in (i := 730) (by decide +kernel) (by decide +kernel)
theorem wi_X6_isJuggler : Cond.instanceMethod yX6_isJuggler ∈ wAll := wAll_in (i := 729) (by decide +kernel) (by decide +kernel)
theorem wse_X6_isJuggler : Cond.selects RX6 yX6_isJuggler yX6_isJuggler ∈ wAll := wAll_in (i := 41) (by decide +kernel) (by decide +kernel)
theorem wc_X6_isPlace : Cond.code yX6_isPlace cX6_isPlace 3 (some .boolean) ∈ wAll := wAll_in (i := 738) (by decide +kernel) (by decide +kernel)
theorem wi_X6_isPlace : Cond.instanceMethod yX6_isPlace ∈ wAll := wAll_in (i := 737) (by decide +kernel) (by decide +kernel)
theorem wse_X6_isPlace : Cond.selects RX6 yX6_isPlace yX6_isPlace ∈ wAll := wAll_in (i := 42) (by decide +kernel) (by decide +kernel)
theorem wc_X6_isThing : Cond.code yX6_isThing cX6_isThing 2 (some .boolean) ∈ wAll := wAll_in (i := 754) (by decide +kernel) (by decide +kernel)
theorem wi_X6_isThing : Cond.instanceMethod yX6_isThing ∈ wAll := wAll_in (i := 753) (by decide +kernel) (by decide +kernel)
theorem wse_X6_isThing : Cond.selects RX6 yX6_isThing yX6_isThing ∈ wAll := wAll_in (i := 43) (by decide +kernel) (by decide +kernel)
theorem wc_X6_isWritten : Cond.code yX6_isWritten cX6_isWritten 5 (some .boolean) ∈ wAll := wAll_in (i := 794) (by decide +kernel) (by decide +kernel)
theorem wi_X6_isWritten : Cond.instanceMethod yX6_isWritten ∈ wAll := wAll_in (i := 793) (by decide +kernel) (by decide +kernel)
theorem wse_X6_isWritten : Cond.selects RX6 yX6_isWritten yX6_isWritten ∈ wAll := wAll_in (i := 47) (by decide +kernel) (by decide +kernel)
theorem wc_X6_juggler : Cond.code yX6_juggler cX6_juggler 3 (some .int) ∈ wAll := wAll_in (i := 774) (by decide +kernel) (by decide +kernel)
theorem wi_X6_juggler : Cond.instanceMethod yX6_juggler ∈ wAll := wAll_in (i := 772) (by decide +kernel) (by decide +kernel)
theorem wse_X6_juggler : Cond.selects RX6 yX6_juggler yX6_juggler ∈ wAll := wAll_in (i := 773) (by decide +kernel) (by decide +kernel)
theorem wc_X6_jugglerTold : Cond.code yX6_jugglerTold cX6_jugglerTold 5 (some .int) ∈ wAll := wAll_in (i := 778) (by decide +kernel) (by decide +kernel)
theorem wi_X6_jugglerTold : Cond.instanceMethod yX6_jugglerTold ∈ wAll := wAll_in (i := 777) (by decide +kernel) (by decide +kernel)
theorem wse_X6_jugglerTold : Cond.selects RX6 yX6_jugglerTold yX6_jugglerTold ∈ wAll := wAll_in (i := 46) (by decide +kernel) (by decide +kernel)
theorem wc_X6_lasts : Cond.code yX6_lasts cX6_lasts 4 (some .boolean) ∈ wAll := wAll_in (i := 782) (by decide +kernel) (by decide +kernel)
theorem wi_X6_lasts : Cond.instanceMethod yX6_lasts ∈ wAll := wAll_in (i := 780) (by decide +kernel) (by decide +kernel)
theorem wse_X6_lasts : Cond.selects RX6 yX6_lasts yX6_lasts ∈ wAll := wAll_in (i := 781) (by decide +kernel) (by decide +kernel)
theorem wc_X6_make : Cond.code yX6_make cX6_make 2 (some .int) ∈ wAll := wAll_in (i := 746) (by decide +kernel) (by decide +kernel)
theorem wi_X6_make : Cond.instanceMethod yX6_make ∈ wAll := wAll_in (i := 744) (by decide +kernel) (by decide +kernel)
theorem wse_X6_make : Cond.selects RX6 yX6_make yX6_make ∈ wAll := wAll_in (i := 745) (by decide +kernel) (by decide +kernel)
theorem wc_X6_mean : Cond.code yX6_mean cX6_mean 1 (some .double) ∈ wAll := wAll_in (i := 860) (by decide +kernel) (by decide +kernel)
theorem wi_X6_mean : Cond.instanceMethod yX6_mean ∈ wAll := wAll_in (i := 858) (by decide +kernel) (by decide +kernel)
theorem wse_X6_mean : Cond.selects RX6 yX6_mean yX6_mean ∈ wAll := wAll_in (i := 859) (by decide +kernel) (by decide +kernel)
theorem wc_X6_no : Cond.code yX6_no cX6_no 2 (some .int) ∈ wAll := wAll_in (i := 722) (by decide +kernel) (by decide +kernel)
theorem wi_X6_no : Cond.instanceMethod yX6_no ∈ wAll := wAll_in (i := 721) (by decide +kernel) (by decide +kernel)
theorem wse_X6_no : Cond.selects RX6 yX6_no yX6_no ∈ wAll := wAll_in (i := 40) (by decide +kernel) (by decide +kernel)
theorem wc_X6_pass : Cond.code yX6_pass cX6_pass 5 (some .int) ∈ wAll := wAll_in (i := 734) (by decide +kernel) (by decide +kernel)
theorem wi_X6_pass : Cond.instanceMethod yX6_pass ∈ wAll := wAll_in (i := 732) (by decide +kernel) (by decide +kernel)
theorem wse_X6_pass : Cond.selects RX6 yX6_pass yX6_pass ∈ wAll := wAll_in (i := 733) (by decide +kernel) (by decide +kernel)
theorem wc_X6_setPattern : Cond.code yX6_setPattern cX6_setPattern 8 (some .int) ∈ wAll := wAll_in (i := 726) (by decide +kernel) (by decide +kernel)
theorem wi_X6_setPattern : Cond.instanceMethod yX6_setPattern ∈ wAll := wAll_in (i := 724) (by decide +kernel) (by decide +kernel)
theorem wse_X6_setPattern : Cond.selects RX6 yX6_setPattern yX6_setPattern ∈ wAll := wAll_in (i := 725) (by decide +kernel) (by decide +kernel)
theorem wc_X6_shortest : Cond.code yX6_shortest cX6_shortest 3 (some .int) ∈ wAll := wAll_in (i := 790) (by decide +kernel) (by decide +kernel)
theorem wi_X6_shortest : Cond.instanceMethod yX6_shortest ∈ wAll := wAll_in (i := 788) (by decide +kernel) (by decide +kernel)
theorem wse_X6_shortest : Cond.selects RX6 yX6_shortest yX6_shortest ∈ wAll := wAll_in (i := 789) (by decide +kernel) (by decide +kernel)
theorem wc_X6_thing : Cond.code yX6_thing cX6_thing 3 (some .int) ∈ wAll := wAll_in (i := 762) (by decide +kernel) (by decide +kernel)
theorem wi_X6_thing : Cond.instanceMethod yX6_thing ∈ wAll := wAll_in (i := 760) (by decide +kernel) (by decide +kernel)
theorem wse_X6_thing : Cond.selects RX6 yX6_thing yX6_thing ∈ wAll := wAll_in (i := 761) (by decide +kernel) (by decide +kernel)
theorem wc_X6_thingTold : Cond.code yX6_thingTold cX6_thingTold 6 (some .int) ∈ wAll := wAll_in (i := 766) (by decide +kernel) (by decide +kernel)
theorem wi_X6_thingTold : Cond.instanceMethod yX6_thingTold ∈ wAll := wAll_in (i := 765) (by decide +kernel) (by decide +kernel)
theorem wse_X6_thingTold : Cond.selects RX6 yX6_thingTold yX6_thingTold ∈ wAll := wAll_in (i := 45) (by decide +kernel) (by decide +kernel)
theorem wc_X6_thrown : Cond.code yX6_thrown cX6_thrown 1 (some .int) ∈ wAll := wAll_in (i := 711) (by decide +kernel) (by decide +kernel)
theorem wi_X6_thrown : Cond.instanceMethod yX6_thrown ∈ wAll := wAll_in (i := 709) (by decide +kernel) (by decide +kernel)
theorem wse_X6_thrown : Cond.selects RX6 yX6_thrown yX6_thrown ∈ wAll := wAll_in (i := 710) (by decide +kernel) (by decide +kernel)
theorem wc_X6_written : Cond.code yX6_written cX6_written 4 (some .int) ∈ wAll := wAll_in (i := 742) (by decide +kernel) (by decide +kernel)
theorem wi_X6_written : Cond.instanceMethod yX6_written ∈ wAll := wAll_in (i := 740) (by decide +kernel) (by decide +kernel)
theorem wse_X6_written : Cond.selects RX6 yX6_written yX6_written ∈ wAll := wAll_in (i := 741) (by decide +kernel) (by decide +kernel)
theorem wcl_X4_7 : Cond.classLink RX4 7 RX2 ∈ wAll := wAll_in (i := 77) (by decide +kernel) (by decide +kernel)
theorem wml_X4_9 : Cond.methodLinkNest RX4 9 yX2_init "HammerEggs" ∈ nestW := nest_in (i := 26) (by decide +kernel) rfl
theorem wf_X4_10 : Cond.fieldLink RX4 10 RX4 "now" "LHammerEggs$Ring;" ∈ wAll := wAll_in (i := 199) (by decide +kernel) (by decide +kernel)
theorem wf_X4_16 : Cond.fieldLink RX4 16 RX4 "trial" "LHammerEggs$Ring;" ∈ wAll := wAll_in (i := 200) (by decide +kernel) (by decide +kernel)
theorem wcl_X4_19 : Cond.classLink RX4 19 "java/lang/IllegalArgumentException" ∈ wAll := wAll_in (i := 334) (by decide +kernel) (by decide +kernel)
theorem wf_X4_26 : Cond.fieldLinkNest RX4 26 RX2 "jugglerCount" "I" "HammerEggs" ∈ nestW := nest_in (i := 130) (by decide +kernel) rfl
theorem wcl_X4_30 : Cond.classLink RX4 30 "java/lang/IllegalStateException" ∈ wAll := wAll_in (i := 402) (by decide +kernel) (by decide +kernel)
theorem wml_X4_35 : Cond.methodLinkNest RX4 35 yX2_addJuggler "HammerEggs" ∈ nestW := nest_in (i := 365) (by decide +kernel) rfl
theorem wm_X4_35 : Wn RX4 35 RX2 yX2_addJuggler cX2_addJuggler 3 (some .int) 1 := ⟨by decide +kernel, ⟨_, wml_X4_35⟩, wi_X2_addJuggler, wse_X2_addJuggler, wini_X2, wc_X2_addJuggler⟩
theorem wml_X4_39 : Cond.methodLink RX4 39 yX4_testJuggler ∈ wAll := wAll_in (i := 434) (by decide +kernel) (by decide +kernel)
theorem wm_X4_39 : Wv RX4 39 RX4 yX4_testJuggler cX4_testJuggler 2 none 1 := ⟨by decide +kernel, wml_X4_39, wi_X4_testJuggler, wse_X4_testJuggler, wini_X4, wc_X4_testJuggler⟩
theorem wml_X4_45 : Cond.methodLink RX4 45 yX4_powerOfTen ∈ wAll := wAll_in (i := 456) (by decide +kernel) (by decide +kernel)
theorem wm_X4_45 : Ws RX4 45 yX4_powerOfTen cX4_powerOfTen 3 (some .int) 1 := ⟨by decide +kernel, wml_X4_45, wst_X4_powerOfTen, wini_X4, wc_X4_powerOfTen⟩
theorem wf_X4_50 : Cond.fieldLinkNest RX4 50 RX2 "jugglers" "[LHammerEggs$Juggler;" "HammerEggs" ∈ nestW := nest_in (i := 126) (by decide +kernel) rfl
theorem wf_X4_54 : Cond.fieldLinkNest RX4 54 RX0 "pattern" "LHammerEggs$Pattern;" "HammerEggs" ∈ nestW := nest_in (i := 61) (by decide +kernel) rfl
theorem wf_X4_60 : Cond.fieldLinkNest RX4 60 RX1 "length" "I" "HammerEggs" ∈ nestW := nest_in (i := 50) (by decide +kernel) rfl
theorem wml_X4_65 : Cond.methodLinkNest RX4 65 yX1_write "HammerEggs" ∈ nestW := nest_in (i := 407) (by decide +kernel) rfl
theorem wm_X4_65 : Wn RX4 65 RX1 yX1_write cX1_write 6 none 3 := ⟨by decide +kernel, ⟨_, wml_X4_65⟩, wi_X1_write, wse_X1_write, wini_X1, wc_X1_write⟩
theorem wml_X4_69 : Cond.methodLink RX4 69 yX4_testPlace ∈ wAll := wAll_in (i := 468) (by decide +kernel) (by decide +kernel)
theorem wm_X4_69 : Wv RX4 69 RX4 yX4_testPlace cX4_testPlace 3 none 2 := ⟨by decide +kernel, wml_X4_69, wi_X4_testPlace, wse_X4_testPlace, wini_X4, wc_X4_testPlace⟩
theorem wf_X4_73 : Cond.fieldLinkNest RX4 73 RX1 "receivers" "[I" "HammerEggs" ∈ nestW := nest_in (i := 47) (by decide +kernel) rfl
theorem wml_X4_77 : Cond.methodLink RX4 77 yX4_testWhat ∈ wAll := wAll_in (i := 480) (by decide +kernel) (by decide +kernel)
theorem wm_X4_77 : Ws RX4 77 yX4_testWhat cX4_testWhat 2 none 2 := ⟨by decide +kernel, wml_X4_77, wst_X4_testWhat, wini_X4, wc_X4_testWhat⟩
theorem wf_X4_80 : Cond.fieldLinkNest RX4 80 RX1 "heights" "[I" "HammerEggs" ∈ nestW := nest_in (i := 44) (by decide +kernel) rfl
theorem wf_X4_85 : Cond.fieldLinkNest RX4 85 RX2 "thingCount" "I" "HammerEggs" ∈ nestW := nest_in (i := 132) (by decide +kernel) rfl
theorem wml_X4_90 : Cond.methodLinkNest RX4 90 yX2_addThing "HammerEggs" ∈ nestW := nest_in (i := 440) (by decide +kernel) rfl
theorem wm_X4_90 : Wn RX4 90 RX2 yX2_addThing cX2_addThing 3 (some .int) 1 := ⟨by decide +kernel, ⟨_, wml_X4_90⟩, wi_X2_addThing, wse_X2_addThing, wini_X2, wc_X2_addThing⟩
theorem wml_X4_93 : Cond.methodLink RX4 93 yX4_testThing ∈ wAll := wAll_in (i := 504) (by decide +kernel) (by decide +kernel)
theorem wm_X4_93 : Wv RX4 93 RX4 yX4_testThing cX4_testThing 2 none 1 := ⟨by decide +kernel, wml_X4_93, wi_X4_testThing, wse_X4_testThing, wini_X4, wc_X4_testThing⟩
theorem wcl_X4_96 : Cond.classLink RX4 96 "java/lang/IndexOutOfBoundsException" ∈ wAll := wAll_in (i := 439) (by decide +kernel) (by decide +kernel)
theorem wf_X4_101 : Cond.fieldLinkNest RX4 101 RX2 "things" "[LHammerEggs$Thing;" "HammerEggs" ∈ nestW := nest_in (i := 128) (by decide +kernel) rfl
theorem wf_X4_105 : Cond.fieldLinkNest RX4 105 RX3 "state" "I" "HammerEggs" ∈ nestW := nest_in (i := 95) (by decide +kernel) rfl
theorem wf_X4_112 : Cond.fieldLinkNest RX4 112 RX0 "hands" "[I" "HammerEggs" ∈ nestW := nest_in (i := 65) (by decide +kernel) rfl
theorem wml_X4_117 : Cond.methodLinkNest RX4 117 yX2_putIntoHand "HammerEggs" ∈ nestW := nest_in (i := 460) (by decide +kernel) rfl
theorem wm_X4_117 : Wn RX4 117 RX2 yX2_putIntoHand cX2_putIntoHand 5 none 3 := ⟨by decide +kernel, ⟨_, wml_X4_117⟩, wi_X2_putIntoHand, wse_X2_putIntoHand, wini_X2, wc_X2_putIntoHand⟩
theorem wml_X4_120 : Cond.methodLinkNest RX4 120 yX0_thingsHeld "HammerEggs" ∈ nestW := nest_in (i := 461) (by decide +kernel) rfl
theorem wm_X4_120 : Wn RX4 120 RX0 yX0_thingsHeld cX0_thingsHeld 3 (some .int) 0 := ⟨by decide +kernel, ⟨_, wml_X4_120⟩, wi_X0_thingsHeld, wse_X0_thingsHeld, wini_X0, wc_X0_thingsHeld⟩
theorem wml_X4_124 : Cond.methodLinkNest RX4 124 yX2_tellThing "HammerEggs" ∈ nestW := nest_in (i := 268) (by decide +kernel) rfl
theorem wm_X4_124 : Wn RX4 124 RX2 yX2_tellThing cX2_tellThing 4 (some .int) 2 := ⟨by decide +kernel, ⟨_, wml_X4_124⟩, wi_X2_tellThing, wse_X2_tellThing, wini_X2, wc_X2_tellThing⟩
theorem wml_X4_128 : Cond.methodLinkNest RX4 128 yX2_tellJuggler "HammerEggs" ∈ nestW := nest_in (i := 255) (by decide +kernel) rfl
theorem wm_X4_128 : Wn RX4 128 RX2 yX2_tellJuggler cX2_tellJuggler 4 (some .int) 2 := ⟨by decide +kernel, ⟨_, wml_X4_128⟩, wi_X2_tellJuggler, wse_X2_tellJuggler, wini_X2, wc_X2_tellJuggler⟩
theorem wml_X4_131 : Cond.methodLinkNest RX4 131 yX1_landsApart "HammerEggs" ∈ nestW := nest_in (i := 486) (by decide +kernel) rfl
theorem wm_X4_131 : Wn RX4 131 RX1 yX1_landsApart cX1_landsApart 4 (some .boolean) 0 := ⟨by decide +kernel, ⟨_, wml_X4_131⟩, wi_X1_landsApart, wse_X1_landsApart, wini_X1, wc_X1_landsApart⟩
theorem wml_X4_135 : Cond.methodLinkNest RX4 135 yX1_ballsAsked "HammerEggs" ∈ nestW := nest_in (i := 497) (by decide +kernel) rfl
theorem wm_X4_135 : Wn RX4 135 RX1 yX1_ballsAsked cX1_ballsAsked 3 (some .int) 0 := ⟨by decide +kernel, ⟨_, wml_X4_135⟩, wi_X1_ballsAsked, wse_X1_ballsAsked, wini_X1, wc_X1_ballsAsked⟩
theorem wml_X4_138 : Cond.methodLinkNest RX4 138 yX1_shortestLength "HammerEggs" ∈ nestW := nest_in (i := 508) (by decide +kernel) rfl
theorem wm_X4_138 : Wn RX4 138 RX1 yX1_shortestLength cX1_shortestLength 2 (some .int) 0 := ⟨by decide +kernel, ⟨_, wml_X4_138⟩, wi_X1_shortestLength, wse_X1_shortestLength, wini_X1, wc_X1_shortestLength⟩
theorem wml_X4_141 : Cond.methodLink RX4 141 yX4_testBeats ∈ wAll := wAll_in (i := 576) (by decide +kernel) (by decide +kernel)
theorem wm_X4_141 : Ws RX4 141 yX4_testBeats cX4_testBeats 2 none 2 := ⟨by decide +kernel, wml_X4_141, wst_X4_testBeats, wini_X4, wc_X4_testBeats⟩
theorem wml_X4_144 : Cond.methodLinkNest RX4 144 yX2_play "HammerEggs" ∈ nestW := nest_in (i := 527) (by decide +kernel) rfl
theorem wm_X4_144 : Wn RX4 144 RX2 yX2_play cX2_play 4 (some .int) 1 := ⟨by decide +kernel, ⟨_, wml_X4_144⟩, wi_X2_play, wse_X2_play, wini_X2, wc_X2_play⟩
theorem wml_X4_147 : Cond.methodLinkNest RX4 147 yX2_tellCount "HammerEggs" ∈ nestW := nest_in (i := 242) (by decide +kernel) rfl
theorem wm_X4_147 : Wn RX4 147 RX2 yX2_tellCount cX2_tellCount 2 (some .int) 1 := ⟨by decide +kernel, ⟨_, wml_X4_147⟩, wi_X2_tellCount, wse_X2_tellCount, wini_X2, wc_X2_tellCount⟩
theorem wml_X4_150 : Cond.methodLinkNest RX4 150 yX2_copyFrom "HammerEggs" ∈ nestW := nest_in (i := 157) (by decide +kernel) rfl
theorem wm_X4_150 : Wn RX4 150 RX2 yX2_copyFrom cX2_copyFrom 3 none 1 := ⟨by decide +kernel, ⟨_, wml_X4_150⟩, wi_X2_copyFrom, wse_X2_copyFrom, wini_X2, wc_X2_copyFrom⟩
theorem wml_X4_154 : Cond.methodLinkNest RX4 154 yX2_playBeat "HammerEggs" ∈ nestW := nest_in (i := 173) (by decide +kernel) rfl
theorem wm_X4_154 : Wn RX4 154 RX2 yX2_playBeat cX2_playBeat 4 (some .int) 0 := ⟨by decide +kernel, ⟨_, wml_X4_154⟩, wi_X2_playBeat, wse_X2_playBeat, wini_X2, wc_X2_playBeat⟩
theorem wml_X4_157 : Cond.methodLinkNest RX4 157 yX2_thingsIn "HammerEggs" ∈ nestW := nest_in (i := 546) (by decide +kernel) rfl
theorem wm_X4_157 : Wn RX4 157 RX2 yX2_thingsIn cX2_thingsIn 4 (some .int) 1 := ⟨by decide +kernel, ⟨_, wml_X4_157⟩, wi_X2_thingsIn, wse_X2_thingsIn, wini_X2, wc_X2_thingsIn⟩
theorem wml_X4_160 : Cond.methodLinkNest RX4 160 yX2_allBruises "HammerEggs" ∈ nestW := nest_in (i := 547) (by decide +kernel) rfl
theorem wm_X4_160 : Wn RX4 160 RX2 yX2_allBruises cX2_allBruises 3 (some .int) 0 := ⟨by decide +kernel, ⟨_, wml_X4_160⟩, wi_X2_allBruises, wse_X2_allBruises, wini_X2, wc_X2_allBruises⟩
theorem wml_X4_163 : Cond.methodLink RX4 163 yX4_fallenWith ∈ wAll := wAll_in (i := 611) (by decide +kernel) (by decide +kernel)
theorem wm_X4_163 : Wv RX4 163 RX4 yX4_fallenWith cX4_fallenWith 5 (some .int) 4 := ⟨by decide +kernel, wml_X4_163, wi_X4_fallenWith, wse_X4_fallenWith, wini_X4, wc_X4_fallenWith⟩
theorem wf_X4_167 : Cond.fieldLinkNest RX4 167 RX2 "beat" "I" "HammerEggs" ∈ nestW := nest_in (i := 134) (by decide +kernel) rfl
theorem wml_X4_170 : Cond.methodLinkNest RX4 170 yX2_allThrown "HammerEggs" ∈ nestW := nest_in (i := 232) (by decide +kernel) rfl
theorem wm_X4_170 : Wn RX4 170 RX2 yX2_allThrown cX2_allThrown 3 (some .int) 0 := ⟨by decide +kernel, ⟨_, wml_X4_170⟩, wi_X2_allThrown, wse_X2_allThrown, wini_X2, wc_X2_allThrown⟩
theorem wk_X4_173 : Cond.constantLong RX4 173 953 ∈ wAll := wAll_in (i := 293) (by decide +kernel) (by decide +kernel)
theorem wk_X4_175 : Cond.constantLong RX4 175 31 ∈ wAll := wAll_in (i := 294) (by decide +kernel) (by decide +kernel)
theorem wml_X4_177 : Cond.methodLinkNest RX4 177 yX1_addTo "HammerEggs" ∈ nestW := nest_in (i := 263) (by decide +kernel) rfl
theorem wm_X4_177 : Wn RX4 177 RX1 yX1_addTo cX1_addTo 6 (some .long) 1 := ⟨by decide +kernel, ⟨_, wml_X4_177⟩, wi_X1_addTo, wse_X1_addTo, wini_X1, wc_X1_addTo⟩
theorem wml_X4_181 : Cond.methodLinkNest RX4 181 yX2_hasJuggler "HammerEggs" ∈ nestW := nest_in (i := 385) (by decide +kernel) rfl
theorem wm_X4_181 : Wn RX4 181 RX2 yX2_hasJuggler cX2_hasJuggler 2 (some .boolean) 1 := ⟨by decide +kernel, ⟨_, wml_X4_181⟩, wi_X2_hasJuggler, wse_X2_hasJuggler, wini_X2, wc_X2_hasJuggler⟩
theorem wml_X4_189 : Cond.methodLinkNest RX4 189 yX2_hasThing "HammerEggs" ∈ nestW := nest_in (i := 455) (by decide +kernel) rfl
theorem wm_X4_189 : Wn RX4 189 RX2 yX2_hasThing cX2_hasThing 2 (some .boolean) 1 := ⟨by decide +kernel, ⟨_, wml_X4_189⟩, wi_X2_hasThing, wse_X2_hasThing, wini_X2, wc_X2_hasThing⟩
theorem wcl_X0_9 : Cond.classLink RX0 9 RX1 ∈ wAll := wAll_in (i := 90) (by decide +kernel) (by decide +kernel)
theorem wml_X0_11 : Cond.methodLinkNest RX0 11 yX1_init "HammerEggs" ∈ nestW := nest_in (i := 39) (by decide +kernel) rfl
theorem wf_X0_12 : Cond.fieldLink RX0 12 RX0 "pattern" "LHammerEggs$Pattern;" ∈ wAll := wAll_in (i := 113) (by decide +kernel) (by decide +kernel)
theorem wf_X0_18 : Cond.fieldLink RX0 18 RX0 "hands" "[I" ∈ wAll := wAll_in (i := 116) (by decide +kernel) (by decide +kernel)
theorem wml_X0_22 : Cond.methodLinkNest RX0 22 yX1_copyFrom "HammerEggs" ∈ nestW := nest_in (i := 165) (by decide +kernel) rfl
theorem wm_X0_22 : Wn RX0 22 RX1 yX1_copyFrom cX1_copyFrom 3 none 1 := ⟨by decide +kernel, ⟨_, wml_X0_22⟩, wi_X1_copyFrom, wse_X1_copyFrom, wini_X1, wc_X1_copyFrom⟩
theorem wf_X0_26 : Cond.fieldLink RX0 26 RX0 "skill" "I" ∈ wAll := wAll_in (i := 119) (by decide +kernel) (by decide +kernel)
theorem wf_X0_30 : Cond.fieldLink RX0 30 RX0 "bruises" "I" ∈ wAll := wAll_in (i := 121) (by decide +kernel) (by decide +kernel)
theorem wf_X0_33 : Cond.fieldLink RX0 33 RX0 "caught" "I" ∈ wAll := wAll_in (i := 123) (by decide +kernel) (by decide +kernel)
theorem wf_X0_36 : Cond.fieldLinkNest RX0 36 RX3 "kind" "I" "HammerEggs" ∈ nestW := nest_in (i := 91) (by decide +kernel) rfl
theorem wml_X0_41 : Cond.methodLinkNest RX0 41 yX3_fall "HammerEggs" ∈ nestW := nest_in (i := 201) (by decide +kernel) rfl
theorem wm_X0_41 : Wn RX0 41 RX3 yX3_fall cX3_fall 1 none 0 := ⟨by decide +kernel, ⟨_, wml_X0_41⟩, wi_X3_fall, wse_X3_fall, wini_X3, wc_X3_fall⟩
theorem wf_X1_9 : Cond.fieldLink RX1 9 RX1 "heights" "[I" ∈ wAll := wAll_in (i := 96) (by decide +kernel) (by decide +kernel)
theorem wf_X1_15 : Cond.fieldLink RX1 15 RX1 "receivers" "[I" ∈ wAll := wAll_in (i := 99) (by decide +kernel) (by decide +kernel)
theorem wf_X1_18 : Cond.fieldLink RX1 18 RX1 "length" "I" ∈ wAll := wAll_in (i := 102) (by decide +kernel) (by decide +kernel)
theorem wml_X1_22 : Cond.methodLink RX1 22 yJ9_floorMod_7cf53 ∈ wAll := wAll_in (i := 266) (by decide +kernel) (by decide +kernel)
theorem wm_X1_22 : Ws RX1 22 yJ9_floorMod_7cf53 cJ9_floorMod_7cf53 3 (some .int) 2 := ⟨by decide +kernel, wml_X1_22, wst_J9_floorMod_7cf53, wini_Math, wc_J9_floorMod_7cf53⟩
theorem wml_X1_28 : Cond.methodLink RX1 28 yX1_repeatsAfter ∈ wAll := wAll_in (i := 565) (by decide +kernel) (by decide +kernel)
theorem wm_X1_28 : Wv RX1 28 RX1 yX1_repeatsAfter cX1_repeatsAfter 4 (some .boolean) 1 := ⟨by decide +kernel, wml_X1_28, wi_X1_repeatsAfter, wse_X1_repeatsAfter, wini_X1, wc_X1_repeatsAfter⟩
theorem wk_X1_32 : Cond.constantLong RX1 32 31 ∈ wAll := wAll_in (i := 320) (by decide +kernel) (by decide +kernel)
theorem wcl_X2_9 : Cond.classLink RX2 9 RX0 ∈ wAll := wAll_in (i := 83) (by decide +kernel) (by decide +kernel)
theorem wf_X2_11 : Cond.fieldLink RX2 11 RX2 "jugglers" "[LHammerEggs$Juggler;" ∈ wAll := wAll_in (i := 178) (by decide +kernel) (by decide +kernel)
theorem wml_X2_17 : Cond.methodLinkNest RX2 17 yX0_init "HammerEggs" ∈ nestW := nest_in (i := 33) (by decide +kernel) rfl
theorem wcl_X2_18 : Cond.classLink RX2 18 RX3 ∈ wAll := wAll_in (i := 136) (by decide +kernel) (by decide +kernel)
theorem wf_X2_20 : Cond.fieldLink RX2 20 RX2 "things" "[LHammerEggs$Thing;" ∈ wAll := wAll_in (i := 180) (by decide +kernel) (by decide +kernel)
theorem wml_X2_24 : Cond.methodLinkNest RX2 24 yX3_init "HammerEggs" ∈ nestW := nest_in (i := 86) (by decide +kernel) rfl
theorem wf_X2_25 : Cond.fieldLink RX2 25 RX2 "jugglerCount" "I" ∈ wAll := wAll_in (i := 182) (by decide +kernel) (by decide +kernel)
theorem wf_X2_29 : Cond.fieldLink RX2 29 RX2 "thingCount" "I" ∈ wAll := wAll_in (i := 184) (by decide +kernel) (by decide +kernel)
theorem wf_X2_32 : Cond.fieldLink RX2 32 RX2 "beat" "I" ∈ wAll := wAll_in (i := 186) (by decide +kernel) (by decide +kernel)
theorem wml_X2_35 : Cond.methodLinkNest RX2 35 yX0_copyFrom "HammerEggs" ∈ nestW := nest_in (i := 161) (by decide +kernel) rfl
theorem wm_X2_35 : Wn RX2 35 RX0 yX0_copyFrom cX0_copyFrom 3 none 1 := ⟨by decide +kernel, ⟨_, wml_X2_35⟩, wi_X0_copyFrom, wse_X0_copyFrom, wini_X0, wc_X0_copyFrom⟩
theorem wml_X2_39 : Cond.methodLinkNest RX2 39 yX3_copyFrom "HammerEggs" ∈ nestW := nest_in (i := 169) (by decide +kernel) rfl
theorem wm_X2_39 : Wn RX2 39 RX3 yX3_copyFrom cX3_copyFrom 2 none 1 := ⟨by decide +kernel, ⟨_, wml_X2_39⟩, wi_X3_copyFrom, wse_X3_copyFrom, wini_X3, wc_X3_copyFrom⟩
theorem wf_X2_42 : Cond.fieldLinkNest RX2 42 RX0 "skill" "I" "HammerEggs" ∈ nestW := nest_in (i := 67) (by decide +kernel) rfl
theorem wf_X2_45 : Cond.fieldLinkNest RX2 45 RX0 "pattern" "LHammerEggs$Pattern;" "HammerEggs" ∈ nestW := nest_in (i := 62) (by decide +kernel) rfl
theorem wml_X2_49 : Cond.methodLinkNest RX2 49 yX1_write "HammerEggs" ∈ nestW := nest_in (i := 369) (by decide +kernel) rfl
theorem wm_X2_49 : Wn RX2 49 RX1 yX1_write cX1_write 6 none 3 := ⟨by decide +kernel, ⟨_, wml_X2_49⟩, wi_X1_write, wse_X1_write, wini_X1, wc_X1_write⟩
theorem wf_X2_55 : Cond.fieldLinkNest RX2 55 RX3 "kind" "I" "HammerEggs" ∈ nestW := nest_in (i := 92) (by decide +kernel) rfl
theorem wf_X2_58 : Cond.fieldLinkNest RX2 58 RX0 "hands" "[I" "HammerEggs" ∈ nestW := nest_in (i := 64) (by decide +kernel) rfl
theorem wf_X2_62 : Cond.fieldLinkNest RX2 62 RX3 "state" "I" "HammerEggs" ∈ nestW := nest_in (i := 94) (by decide +kernel) rfl
theorem wf_X2_65 : Cond.fieldLinkNest RX2 65 RX3 "juggler" "I" "HammerEggs" ∈ nestW := nest_in (i := 97) (by decide +kernel) rfl
theorem wf_X2_68 : Cond.fieldLinkNest RX2 68 RX3 "hand" "I" "HammerEggs" ∈ nestW := nest_in (i := 99) (by decide +kernel) rfl
theorem wml_X2_71 : Cond.methodLink RX2 71 yX2_playBeat ∈ wAll := wAll_in (i := 584) (by decide +kernel) (by decide +kernel)
theorem wm_X2_71 : Wv RX2 71 RX2 yX2_playBeat cX2_playBeat 4 (some .int) 0 := ⟨by decide +kernel, wml_X2_71, wi_X2_playBeat, wse_X2_playBeat, wini_X2, wc_X2_playBeat⟩
theorem wml_X2_75 : Cond.methodLink RX2 75 yX2_comeDown ∈ wAll := wAll_in (i := 230) (by decide +kernel) (by decide +kernel)
theorem wm_X2_75 : Wv RX2 75 RX2 yX2_comeDown cX2_comeDown 6 (some .int) 1 := ⟨by decide +kernel, wml_X2_75, wi_X2_comeDown, wse_X2_comeDown, wini_X2, wc_X2_comeDown⟩
theorem wml_X2_79 : Cond.methodLink RX2 79 yX2_throwFrom ∈ wAll := wAll_in (i := 258) (by decide +kernel) (by decide +kernel)
theorem wm_X2_79 : Wv RX2 79 RX2 yX2_throwFrom cX2_throwFrom 6 none 2 := ⟨by decide +kernel, wml_X2_79, wi_X2_throwFrom, wse_X2_throwFrom, wini_X2, wc_X2_throwFrom⟩
theorem wml_X2_83 : Cond.methodLinkNest RX2 83 yX3_comesDownIn "HammerEggs" ∈ nestW := nest_in (i := 181) (by decide +kernel) rfl
theorem wm_X2_83 : Wn RX2 83 RX3 yX3_comesDownIn cX3_comesDownIn 2 (some .boolean) 1 := ⟨by decide +kernel, ⟨_, wml_X2_83⟩, wi_X3_comesDownIn, wse_X3_comesDownIn, wini_X3, wc_X3_comesDownIn⟩
theorem wml_X2_87 : Cond.methodLink RX2 87 yX2_hasJuggler ∈ wAll := wAll_in (i := 238) (by decide +kernel) (by decide +kernel)
theorem wm_X2_87 : Wv RX2 87 RX2 yX2_hasJuggler cX2_hasJuggler 2 (some .boolean) 1 := ⟨by decide +kernel, wml_X2_87, wi_X2_hasJuggler, wse_X2_hasJuggler, wini_X2, wc_X2_hasJuggler⟩
theorem wf_X2_90 : Cond.fieldLinkNest RX2 90 RX3 "height" "I" "HammerEggs" ∈ nestW := nest_in (i := 103) (by decide +kernel) rfl
theorem wml_X2_93 : Cond.methodLinkNest RX2 93 yX0_canCatch "HammerEggs" ∈ nestW := nest_in (i := 189) (by decide +kernel) rfl
theorem wm_X2_93 : Wn RX2 93 RX0 yX0_canCatch cX0_canCatch 3 (some .boolean) 2 := ⟨by decide +kernel, ⟨_, wml_X2_93⟩, wi_X0_canCatch, wse_X0_canCatch, wini_X0, wc_X0_canCatch⟩
theorem wml_X2_97 : Cond.methodLink RX2 97 yX2_putIntoHand ∈ wAll := wAll_in (i := 246) (by decide +kernel) (by decide +kernel)
theorem wm_X2_97 : Wv RX2 97 RX2 yX2_putIntoHand cX2_putIntoHand 5 none 3 := ⟨by decide +kernel, wml_X2_97, wi_X2_putIntoHand, wse_X2_putIntoHand, wini_X2, wc_X2_putIntoHand⟩
theorem wf_X2_100 : Cond.fieldLinkNest RX2 100 RX0 "caught" "I" "HammerEggs" ∈ nestW := nest_in (i := 71) (by decide +kernel) rfl
theorem wml_X2_103 : Cond.methodLinkNest RX2 103 yX0_miss "HammerEggs" ∈ nestW := nest_in (i := 197) (by decide +kernel) rfl
theorem wm_X2_103 : Wn RX2 103 RX0 yX0_miss cX0_miss 2 none 1 := ⟨by decide +kernel, ⟨_, wml_X2_103⟩, wi_X0_miss, wse_X0_miss, wini_X0, wc_X0_miss⟩
theorem wml_X2_106 : Cond.methodLinkNest RX2 106 yX1_placeIn "HammerEggs" ∈ nestW := nest_in (i := 209) (by decide +kernel) rfl
theorem wm_X2_106 : Wn RX2 106 RX1 yX1_placeIn cX1_placeIn 2 (some .int) 1 := ⟨by decide +kernel, ⟨_, wml_X2_106⟩, wi_X1_placeIn, wse_X1_placeIn, wini_X1, wc_X1_placeIn⟩
theorem wf_X2_109 : Cond.fieldLinkNest RX2 109 RX1 "heights" "[I" "HammerEggs" ∈ nestW := nest_in (i := 45) (by decide +kernel) rfl
theorem wml_X2_112 : Cond.methodLink RX2 112 yX2_hasThing ∈ wAll := wAll_in (i := 269) (by decide +kernel) (by decide +kernel)
theorem wm_X2_112 : Wv RX2 112 RX2 yX2_hasThing cX2_hasThing 2 (some .boolean) 1 := ⟨by decide +kernel, wml_X2_112, wi_X2_hasThing, wse_X2_hasThing, wini_X2, wc_X2_hasThing⟩
theorem wf_X2_115 : Cond.fieldLinkNest RX2 115 RX1 "receivers" "[I" "HammerEggs" ∈ nestW := nest_in (i := 48) (by decide +kernel) rfl
theorem wml_X2_118 : Cond.methodLinkNest RX2 118 yX3_fly "HammerEggs" ∈ nestW := nest_in (i := 220) (by decide +kernel) rfl
theorem wm_X2_118 : Wn RX2 118 RX3 yX3_fly cX3_fly 4 none 3 := ⟨by decide +kernel, ⟨_, wml_X2_118⟩, wi_X3_fly, wse_X3_fly, wini_X3, wc_X3_fly⟩
theorem wf_X2_121 : Cond.fieldLinkNest RX2 121 RX3 "thrown" "I" "HammerEggs" ∈ nestW := nest_in (i := 105) (by decide +kernel) rfl
theorem wf_X2_124 : Cond.fieldLinkNest RX2 124 RX3 "fell" "I" "HammerEggs" ∈ nestW := nest_in (i := 107) (by decide +kernel) rfl
theorem wf_X2_127 : Cond.fieldLinkNest RX2 127 RX0 "bruises" "I" "HammerEggs" ∈ nestW := nest_in (i := 69) (by decide +kernel) rfl
theorem wf_X2_130 : Cond.fieldLinkNest RX2 130 RX3 "due" "I" "HammerEggs" ∈ nestW := nest_in (i := 101) (by decide +kernel) rfl
theorem wf_X2_133 : Cond.fieldLinkNest RX2 133 RX1 "length" "I" "HammerEggs" ∈ nestW := nest_in (i := 51) (by decide +kernel) rfl
theorem wml_X2_136 : Cond.methodLink RX2 136 yX2_thingsFlyingTo ∈ wAll := wAll_in (i := 312) (by decide +kernel) (by decide +kernel)
theorem wm_X2_136 : Wv RX2 136 RX2 yX2_thingsFlyingTo cX2_thingsFlyingTo 4 (some .int) 1 := ⟨by decide +kernel, wml_X2_136, wi_X2_thingsFlyingTo, wse_X2_thingsFlyingTo, wini_X2, wc_X2_thingsFlyingTo⟩
theorem wml_X2_139 : Cond.methodLink RX2 139 yX2_thingsIn ∈ wAll := wAll_in (i := 299) (by decide +kernel) (by decide +kernel)
theorem wm_X2_139 : Wv RX2 139 RX2 yX2_thingsIn cX2_thingsIn 4 (some .int) 1 := ⟨by decide +kernel, wml_X2_139, wi_X2_thingsIn, wse_X2_thingsIn, wini_X2, wc_X2_thingsIn⟩
theorem wml_X2_142 : Cond.methodLink RX2 142 yX2_allFell ∈ wAll := wAll_in (i := 303) (by decide +kernel) (by decide +kernel)
theorem wm_X2_142 : Wv RX2 142 RX2 yX2_allFell cX2_allFell 3 (some .int) 0 := ⟨by decide +kernel, wml_X2_142, wi_X2_allFell, wse_X2_allFell, wini_X2, wc_X2_allFell⟩
theorem wml_X2_145 : Cond.methodLink RX2 145 yX2_allThrown ∈ wAll := wAll_in (i := 307) (by decide +kernel) (by decide +kernel)
theorem wm_X2_145 : Wv RX2 145 RX2 yX2_allThrown cX2_allThrown 3 (some .int) 0 := ⟨by decide +kernel, wml_X2_145, wi_X2_allThrown, wse_X2_allThrown, wini_X2, wc_X2_allThrown⟩
theorem wf_X3_9 : Cond.fieldLink RX3 9 RX3 "state" "I" ∈ wAll := wAll_in (i := 146) (by decide +kernel) (by decide +kernel)
theorem wf_X3_15 : Cond.fieldLink RX3 15 RX3 "juggler" "I" ∈ wAll := wAll_in (i := 149) (by decide +kernel) (by decide +kernel)
theorem wf_X3_18 : Cond.fieldLink RX3 18 RX3 "hand" "I" ∈ wAll := wAll_in (i := 151) (by decide +kernel) (by decide +kernel)
theorem wf_X3_21 : Cond.fieldLink RX3 21 RX3 "kind" "I" ∈ wAll := wAll_in (i := 143) (by decide +kernel) (by decide +kernel)
theorem wf_X3_24 : Cond.fieldLink RX3 24 RX3 "due" "I" ∈ wAll := wAll_in (i := 153) (by decide +kernel) (by decide +kernel)
theorem wf_X3_27 : Cond.fieldLink RX3 27 RX3 "height" "I" ∈ wAll := wAll_in (i := 155) (by decide +kernel) (by decide +kernel)
theorem wf_X3_30 : Cond.fieldLink RX3 30 RX3 "thrown" "I" ∈ wAll := wAll_in (i := 157) (by decide +kernel) (by decide +kernel)
theorem wf_X3_33 : Cond.fieldLink RX3 33 RX3 "fell" "I" ∈ wAll := wAll_in (i := 159) (by decide +kernel) (by decide +kernel)
theorem wml_X3_36 : Cond.methodLink RX3 36 yX3_beatsInAir ∈ wAll := wAll_in (i := 277) (by decide +kernel) (by decide +kernel)
theorem wm_X3_36 : Wv RX3 36 RX3 yX3_beatsInAir cX3_beatsInAir 2 (some .int) 1 := ⟨by decide +kernel, wml_X3_36, wi_X3_beatsInAir, wse_X3_beatsInAir, wini_X3, wc_X3_beatsInAir⟩
theorem wml_L_7 : Cond.methodLink RL 7 yX4_come ∈ wAll := wAll_in (i := 330) (by decide +kernel) (by decide +kernel)
theorem wm_L_7 : Wv RL 7 RX4 yX4_come cX4_come 2 (some .int) 1 := ⟨by decide +kernel, wml_L_7, wi_X4_come, wse_X4_come, wini_X4, wc_X4_come⟩
theorem wcl_L_8 : Cond.classLink RL 8 RX4 ∈ wAll := wAll_in (i := 69) (by decide +kernel) (by decide +kernel)
theorem wml_L_17 : Cond.methodLink RL 17 yX4_setPattern ∈ wAll := wAll_in (i := 430) (by decide +kernel) (by decide +kernel)
theorem wm_L_17 : Wv RL 17 RX4 yX4_setPattern cX4_setPattern 6 (some .int) 3 := ⟨by decide +kernel, wml_L_17, wi_X4_setPattern, wse_X4_setPattern, wini_X4, wc_X4_setPattern⟩
theorem wml_L_23 : Cond.methodLink RL 23 yX4_pass ∈ wAll := wAll_in (i := 464) (by decide +kernel) (by decide +kernel)
theorem wm_L_23 : Wv RL 23 RX4 yX4_pass cX4_pass 6 (some .int) 3 := ⟨by decide +kernel, wml_L_23, wi_X4_pass, wse_X4_pass, wini_X4, wc_X4_pass⟩
theorem wml_L_26 : Cond.methodLink RL 26 yX4_written ∈ wAll := wAll_in (i := 476) (by decide +kernel) (by decide +kernel)
theorem wm_L_26 : Wv RL 26 RX4 yX4_written cX4_written 5 (some .int) 3 := ⟨by decide +kernel, wml_L_26, wi_X4_written, wse_X4_written, wini_X4, wc_X4_written⟩
theorem wml_L_29 : Cond.methodLink RL 29 yX4_make ∈ wAll := wAll_in (i := 487) (by decide +kernel) (by decide +kernel)
theorem wm_L_29 : Wv RL 29 RX4 yX4_make cX4_make 2 (some .int) 1 := ⟨by decide +kernel, wml_L_29, wi_X4_make, wse_X4_make, wini_X4, wc_X4_make⟩
theorem wml_L_32 : Cond.methodLink RL 32 yX4_give ∈ wAll := wAll_in (i := 500) (by decide +kernel) (by decide +kernel)
theorem wm_L_32 : Wv RL 32 RX4 yX4_give cX4_give 4 (some .int) 3 := ⟨by decide +kernel, wml_L_32, wi_X4_give, wse_X4_give, wini_X4, wc_X4_give⟩
theorem wml_L_35 : Cond.methodLink RL 35 yX4_thing ∈ wAll := wAll_in (i := 521) (by decide +kernel) (by decide +kernel)
theorem wm_L_35 : Wv RL 35 RX4 yX4_thing cX4_thing 3 (some .int) 2 := ⟨by decide +kernel, wml_L_35, wi_X4_thing, wse_X4_thing, wini_X4, wc_X4_thing⟩
theorem wml_L_39 : Cond.methodLink RL 39 yX4_juggler ∈ wAll := wAll_in (i := 528) (by decide +kernel) (by decide +kernel)
theorem wm_L_39 : Wv RL 39 RX4 yX4_juggler cX4_juggler 3 (some .int) 2 := ⟨by decide +kernel, wml_L_39, wi_X4_juggler, wse_X4_juggler, wini_X4, wc_X4_juggler⟩
theorem wml_L_42 : Cond.methodLink RL 42 yX4_lasts ∈ wAll := wAll_in (i := 535) (by decide +kernel) (by decide +kernel)
theorem wm_L_42 : Wv RL 42 RX4 yX4_lasts cX4_lasts 2 (some .boolean) 1 := ⟨by decide +kernel, wml_L_42, wi_X4_lasts, wse_X4_lasts, wini_X4, wc_X4_lasts⟩
theorem wml_L_46 : Cond.methodLink RL 46 yX4_asks ∈ wAll := wAll_in (i := 546) (by decide +kernel) (by decide +kernel)
theorem wm_L_46 : Wv RL 46 RX4 yX4_asks cX4_asks 2 (some .int) 1 := ⟨by decide +kernel, wml_L_46, wi_X4_asks, wse_X4_asks, wini_X4, wc_X4_asks⟩
theorem wml_L_49 : Cond.methodLink RL 49 yX4_shortest ∈ wAll := wAll_in (i := 557) (by decide +kernel) (by decide +kernel)
theorem wm_L_49 : Wv RL 49 RX4 yX4_shortest cX4_shortest 2 (some .int) 1 := ⟨by decide +kernel, wml_L_49, wi_X4_shortest, wse_X4_shortest, wini_X4, wc_X4_shortest⟩
theorem wml_L_52 : Cond.methodLink RL 52 yX4_go ∈ wAll := wAll_in (i := 572) (by decide +kernel) (by decide +kernel)
theorem wm_L_52 : Wv RL 52 RX4 yX4_go cX4_go 2 (some .int) 1 := ⟨by decide +kernel, wml_L_52, wi_X4_go, wse_X4_go, wini_X4, wc_X4_go⟩
theorem wml_L_55 : Cond.methodLink RL 55 yX4_count ∈ wAll := wAll_in (i := 588) (by decide +kernel) (by decide +kernel)
theorem wm_L_55 : Wv RL 55 RX4 yX4_count cX4_count 2 (some .int) 1 := ⟨by decide +kernel, wml_L_55, wi_X4_count, wse_X4_count, wini_X4, wc_X4_count⟩
theorem wml_L_58 : Cond.methodLink RL 58 yX4_foresee ∈ wAll := wAll_in (i := 595) (by decide +kernel) (by decide +kernel)
theorem wm_L_58 : Wv RL 58 RX4 yX4_foresee cX4_foresee 4 (some .int) 2 := ⟨by decide +kernel, wml_L_58, wi_X4_foresee, wse_X4_foresee, wini_X4, wc_X4_foresee⟩
theorem wml_L_61 : Cond.methodLink RL 61 yX4_advise ∈ wAll := wAll_in (i := 607) (by decide +kernel) (by decide +kernel)
theorem wm_L_61 : Wv RL 61 RX4 yX4_advise cX4_advise 9 (some .int) 2 := ⟨by decide +kernel, wml_L_61, wi_X4_advise, wse_X4_advise, wini_X4, wc_X4_advise⟩
theorem wml_L_64 : Cond.methodLink RL 64 yX4_init ∈ wAll := wAll_in (i := 71) (by decide +kernel) (by decide +kernel)
theorem wcl_L_65 : Cond.classLink RL 65 RX6 ∈ wAll := wAll_in (i := 615) (by decide +kernel) (by decide +kernel)
theorem wml_L_67 : Cond.methodLink RL 67 yX6_init ∈ wAll := wAll_in (i := 617) (by decide +kernel) (by decide +kernel)
theorem wml_L_68 : Cond.methodLink RL 68 yL_come ∈ wAll := wAll_in (i := 325) (by decide +kernel) (by decide +kernel)
theorem wml_L_73 : Cond.methodLink RL 73 yX6_come ∈ wAll := wAll_in (i := 712) (by decide +kernel) (by decide +kernel)
theorem wm_L_73 : Wv RL 73 RX6 yX6_come cX6_come 2 (some .int) 1 := ⟨by decide +kernel, wml_L_73, wi_X6_come, wse_X6_come, wini_X6, wc_X6_come⟩
theorem wml_L_74 : Cond.methodLink RL 74 yX6_thrown ∈ wAll := wAll_in (i := 708) (by decide +kernel) (by decide +kernel)
theorem wm_L_74 : Wv RL 74 RX6 yX6_thrown cX6_thrown 1 (some .int) 0 := ⟨by decide +kernel, wml_L_74, wi_X6_thrown, wse_X6_thrown, wini_X6, wc_X6_thrown⟩
theorem wml_L_78 : Cond.methodLink RL 78 yL_setPattern ∈ wAll := wAll_in (i := 426) (by decide +kernel) (by decide +kernel)
theorem wml_L_81 : Cond.methodLink RL 81 yX6_setPattern ∈ wAll := wAll_in (i := 723) (by decide +kernel) (by decide +kernel)
theorem wm_L_81 : Wv RL 81 RX6 yX6_setPattern cX6_setPattern 8 (some .int) 3 := ⟨by decide +kernel, wml_L_81, wi_X6_setPattern, wse_X6_setPattern, wini_X6, wc_X6_setPattern⟩
theorem wml_L_82 : Cond.methodLink RL 82 yL_pass ∈ wAll := wAll_in (i := 461) (by decide +kernel) (by decide +kernel)
theorem wml_L_84 : Cond.methodLink RL 84 yX6_pass ∈ wAll := wAll_in (i := 731) (by decide +kernel) (by decide +kernel)
theorem wm_L_84 : Wv RL 84 RX6 yX6_pass cX6_pass 5 (some .int) 3 := ⟨by decide +kernel, wml_L_84, wi_X6_pass, wse_X6_pass, wini_X6, wc_X6_pass⟩
theorem wml_L_85 : Cond.methodLink RL 85 yL_written ∈ wAll := wAll_in (i := 473) (by decide +kernel) (by decide +kernel)
theorem wml_L_87 : Cond.methodLink RL 87 yX6_written ∈ wAll := wAll_in (i := 739) (by decide +kernel) (by decide +kernel)
theorem wm_L_87 : Wv RL 87 RX6 yX6_written cX6_written 4 (some .int) 3 := ⟨by decide +kernel, wml_L_87, wi_X6_written, wse_X6_written, wini_X6, wc_X6_written⟩
theorem wml_L_88 : Cond.methodLink RL 88 yL_make ∈ wAll := wAll_in (i := 484) (by decide +kernel) (by decide +kernel)
theorem wml_L_90 : Cond.methodLink RL 90 yX6_make ∈ wAll := wAll_in (i := 743) (by decide +kernel) (by decide +kernel)
theorem wm_L_90 : Wv RL 90 RX6 yX6_make cX6_make 2 (some .int) 1 := ⟨by decide +kernel, wml_L_90, wi_X6_make, wse_X6_make, wini_X6, wc_X6_make⟩
theorem wml_L_91 : Cond.methodLink RL 91 yL_give ∈ wAll := wAll_in (i := 497) (by decide +kernel) (by decide +kernel)
theorem wml_L_93 : Cond.methodLink RL 93 yX6_give ∈ wAll := wAll_in (i := 747) (by decide +kernel) (by decide +kernel)
theorem wm_L_93 : Wv RL 93 RX6 yX6_give cX6_give 4 (some .int) 3 := ⟨by decide +kernel, wml_L_93, wi_X6_give, wse_X6_give, wini_X6, wc_X6_give⟩
theorem wml_L_94 : Cond.methodLink RL 94 yL_thing ∈ wAll := wAll_in (i := 518) (by decide +kernel) (by decide +kernel)
theorem wml_L_97 : Cond.methodLink RL 97 yX6_thing ∈ wAll := wAll_in (i := 759) (by decide +kernel) (by decide +kernel)
theorem wm_L_97 : Wv RL 97 RX6 yX6_thing cX6_thing 3 (some .int) 2 := ⟨by decide +kernel, wml_L_97, wi_X6_thing, wse_X6_thing, wini_X6, wc_X6_thing⟩
theorem wml_L_98 : Cond.methodLink RL 98 yL_juggler ∈ wAll := wAll_in (i := 525) (by decide +kernel) (by decide +kernel)
theorem wml_L_100 : Cond.methodLink RL 100 yX6_juggler ∈ wAll := wAll_in (i := 771) (by decide +kernel) (by decide +kernel)
theorem wm_L_100 : Wv RL 100 RX6 yX6_juggler cX6_juggler 3 (some .int) 2 := ⟨by decide +kernel, wml_L_100, wi_X6_juggler, wse_X6_juggler, wini_X6, wc_X6_juggler⟩
theorem wml_L_101 : Cond.methodLink RL 101 yL_lasts ∈ wAll := wAll_in (i := 532) (by decide +kernel) (by decide +kernel)
theorem wml_L_103 : Cond.methodLink RL 103 yX6_lasts ∈ wAll := wAll_in (i := 779) (by decide +kernel) (by decide +kernel)
theorem wm_L_103 : Wv RL 103 RX6 yX6_lasts cX6_lasts 4 (some .boolean) 1 := ⟨by decide +kernel, wml_L_103, wi_X6_lasts, wse_X6_lasts, wini_X6, wc_X6_lasts⟩
theorem wml_L_104 : Cond.methodLink RL 104 yL_asks ∈ wAll := wAll_in (i := 543) (by decide +kernel) (by decide +kernel)
theorem wml_L_106 : Cond.methodLink RL 106 yX6_asks ∈ wAll := wAll_in (i := 783) (by decide +kernel) (by decide +kernel)
theorem wm_L_106 : Wv RL 106 RX6 yX6_asks cX6_asks 4 (some .int) 1 := ⟨by decide +kernel, wml_L_106, wi_X6_asks, wse_X6_asks, wini_X6, wc_X6_asks⟩
theorem wml_L_107 : Cond.methodLink RL 107 yL_shortest ∈ wAll := wAll_in (i := 554) (by decide +kernel) (by decide +kernel)
theorem wml_L_109 : Cond.methodLink RL 109 yX6_shortest ∈ wAll := wAll_in (i := 787) (by decide +kernel) (by decide +kernel)
theorem wm_L_109 : Wv RL 109 RX6 yX6_shortest cX6_shortest 3 (some .int) 1 := ⟨by decide +kernel, wml_L_109, wi_X6_shortest, wse_X6_shortest, wini_X6, wc_X6_shortest⟩
theorem wml_L_110 : Cond.methodLink RL 110 yL_go ∈ wAll := wAll_in (i := 569) (by decide +kernel) (by decide +kernel)
theorem wml_L_112 : Cond.methodLink RL 112 yX6_go ∈ wAll := wAll_in (i := 795) (by decide +kernel) (by decide +kernel)
theorem wm_L_112 : Wv RL 112 RX6 yX6_go cX6_go 4 (some .int) 1 := ⟨by decide +kernel, wml_L_112, wi_X6_go, wse_X6_go, wini_X6, wc_X6_go⟩
theorem wml_L_113 : Cond.methodLink RL 113 yL_count ∈ wAll := wAll_in (i := 585) (by decide +kernel) (by decide +kernel)
theorem wml_L_115 : Cond.methodLink RL 115 yX6_count ∈ wAll := wAll_in (i := 818) (by decide +kernel) (by decide +kernel)
theorem wm_L_115 : Wv RL 115 RX6 yX6_count cX6_count 2 (some .int) 1 := ⟨by decide +kernel, wml_L_115, wi_X6_count, wse_X6_count, wini_X6, wc_X6_count⟩
theorem wml_L_116 : Cond.methodLink RL 116 yX4_falls ∈ wAll := wAll_in (i := 206) (by decide +kernel) (by decide +kernel)
theorem wm_L_116 : Wv RL 116 RX4 yX4_falls cX4_falls 2 (some .int) 0 := ⟨by decide +kernel, wml_L_116, wi_X4_falls, wse_X4_falls, wini_X4, wc_X4_falls⟩
theorem wml_L_119 : Cond.methodLink RL 119 yX6_falls ∈ wAll := wAll_in (i := 830) (by decide +kernel) (by decide +kernel)
theorem wm_L_119 : Wv RL 119 RX6 yX6_falls cX6_falls 3 (some .int) 0 := ⟨by decide +kernel, wml_L_119, wi_X6_falls, wse_X6_falls, wini_X6, wc_X6_falls⟩
theorem wml_L_120 : Cond.methodLink RL 120 yL_foresee ∈ wAll := wAll_in (i := 592) (by decide +kernel) (by decide +kernel)
theorem wml_L_122 : Cond.methodLink RL 122 yX6_foresee ∈ wAll := wAll_in (i := 845) (by decide +kernel) (by decide +kernel)
theorem wm_L_122 : Wv RL 122 RX6 yX6_foresee cX6_foresee 4 (some .int) 2 := ⟨by decide +kernel, wml_L_122, wi_X6_foresee, wse_X6_foresee, wini_X6, wc_X6_foresee⟩
theorem wml_L_123 : Cond.methodLink RL 123 yL_advise ∈ wAll := wAll_in (i := 604) (by decide +kernel) (by decide +kernel)
theorem wml_L_125 : Cond.methodLink RL 125 yX6_advise ∈ wAll := wAll_in (i := 853) (by decide +kernel) (by decide +kernel)
theorem wm_L_125 : Wv RL 125 RX6 yX6_advise cX6_advise 10 (some .int) 2 := ⟨by decide +kernel, wml_L_125, wi_X6_advise, wse_X6_advise, wini_X6, wc_X6_advise⟩
theorem wml_L_126 : Cond.methodLink RL 126 yX4_mean ∈ wAll := wAll_in (i := 281) (by decide +kernel) (by decide +kernel)
theorem wm_L_126 : Wv RL 126 RX4 yX4_mean cX4_mean 1 (some .double) 0 := ⟨by decide +kernel, wml_L_126, wi_X4_mean, wse_X4_mean, wini_X4, wc_X4_mean⟩
theorem wml_L_130 : Cond.methodLink RL 130 yX6_mean ∈ wAll := wAll_in (i := 857) (by decide +kernel) (by decide +kernel)
theorem wm_L_130 : Wv RL 130 RX6 yX6_mean cX6_mean 1 (some .double) 0 := ⟨by decide +kernel, wml_L_130, wi_X6_mean, wse_X6_mean, wini_X6, wc_X6_mean⟩
theorem wml_L_131 : Cond.methodLink RL 131 yX4_digest ∈ wAll := wAll_in (i := 289) (by decide +kernel) (by decide +kernel)
theorem wm_L_131 : Wv RL 131 RX4 yX4_digest cX4_digest 5 (some .long) 0 := ⟨by decide +kernel, wml_L_131, wi_X4_digest, wse_X4_digest, wini_X4, wc_X4_digest⟩
theorem wml_L_135 : Cond.methodLink RL 135 yX6_digest ∈ wAll := wAll_in (i := 861) (by decide +kernel) (by decide +kernel)
theorem wm_L_135 : Wv RL 135 RX6 yX6_digest cX6_digest 5 (some .long) 0 := ⟨by decide +kernel, wml_L_135, wi_X6_digest, wse_X6_digest, wini_X6, wc_X6_digest⟩
theorem wf_X6_9 : Cond.fieldLink RX6 9 RX6 "skill" "[I" ∈ wAll := wAll_in (i := 675) (by decide +kernel) (by decide +kernel)
theorem wf_X6_13 : Cond.fieldLink RX6 13 RX6 "length" "[I" ∈ wAll := wAll_in (i := 677) (by decide +kernel) (by decide +kernel)
theorem wf_X6_16 : Cond.fieldLink RX6 16 RX6 "height" "[I" ∈ wAll := wAll_in (i := 679) (by decide +kernel) (by decide +kernel)
theorem wf_X6_19 : Cond.fieldLink RX6 19 RX6 "to" "[I" ∈ wAll := wAll_in (i := 681) (by decide +kernel) (by decide +kernel)
theorem wf_X6_22 : Cond.fieldLink RX6 22 RX6 "kind" "[I" ∈ wAll := wAll_in (i := 683) (by decide +kernel) (by decide +kernel)
theorem wcl_X6_25 : Cond.classLink RX6 25 RX5 ∈ wAll := wAll_in (i := 621) (by decide +kernel) (by decide +kernel)
theorem wml_X6_27 : Cond.methodLinkNest RX6 27 yX5_init "HammerEggsModel" ∈ nestW := nest_in (i := 570) (by decide +kernel) rfl
theorem wf_X6_30 : Cond.fieldLink RX6 30 RX6 "s" "LHammerEggsModel$State;" ∈ wAll := wAll_in (i := 685) (by decide +kernel) (by decide +kernel)
theorem wf_X6_34 : Cond.fieldLink RX6 34 RX6 "ahead" "LHammerEggsModel$State;" ∈ wAll := wAll_in (i := 686) (by decide +kernel) (by decide +kernel)
theorem wf_X6_37 : Cond.fieldLink RX6 37 RX6 "thrown" "I" ∈ wAll := wAll_in (i := 670) (by decide +kernel) (by decide +kernel)
theorem wf_X6_41 : Cond.fieldLink RX6 41 RX6 "jugglers" "I" ∈ wAll := wAll_in (i := 671) (by decide +kernel) (by decide +kernel)
theorem wml_X6_44 : Cond.methodLink RX6 44 yX6_isIn ∈ wAll := wAll_in (i := 716) (by decide +kernel) (by decide +kernel)
theorem wm_X6_44 : Ws RX6 44 yX6_isIn cX6_isIn 3 (some .boolean) 3 := ⟨by decide +kernel, wml_X6_44, wst_X6_isIn, wini_X6, wc_X6_isIn⟩
theorem wf_X6_48 : Cond.fieldLink RX6 48 RX6 "things" "I" ∈ wAll := wAll_in (i := 673) (by decide +kernel) (by decide +kernel)
theorem wml_X6_51 : Cond.methodLink RX6 51 yX6_isJuggler ∈ wAll := wAll_in (i := 727) (by decide +kernel) (by decide +kernel)
theorem wm_X6_51 : Wv RX6 51 RX6 yX6_isJuggler cX6_isJuggler 2 (some .boolean) 1 := ⟨by decide +kernel, wml_X6_51, wi_X6_isJuggler, wse_X6_isJuggler, wini_X6, wc_X6_isJuggler⟩
theorem wml_X6_55 : Cond.methodLink RX6 55 yX6_no ∈ wAll := wAll_in (i := 719) (by decide +kernel) (by decide +kernel)
theorem wm_X6_55 : Wv RX6 55 RX6 yX6_no cX6_no 2 (some .int) 1 := ⟨by decide +kernel, wml_X6_55, wi_X6_no, wse_X6_no, wini_X6, wc_X6_no⟩
theorem wml_X6_59 : Cond.methodLink RX6 59 yX6_isPlace ∈ wAll := wAll_in (i := 735) (by decide +kernel) (by decide +kernel)
theorem wm_X6_59 : Wv RX6 59 RX6 yX6_isPlace cX6_isPlace 3 (some .boolean) 2 := ⟨by decide +kernel, wml_X6_59, wi_X6_isPlace, wse_X6_isPlace, wini_X6, wc_X6_isPlace⟩
theorem wf_X6_63 : Cond.fieldLinkNest RX6 63 RX5 "held" "[I" "HammerEggsModel" ∈ nestW := nest_in (i := 581) (by decide +kernel) rfl
theorem wml_X6_66 : Cond.methodLink RX6 66 yX6_isThing ∈ wAll := wAll_in (i := 751) (by decide +kernel) (by decide +kernel)
theorem wm_X6_66 : Wv RX6 66 RX6 yX6_isThing cX6_isThing 2 (some .boolean) 1 := ⟨by decide +kernel, wml_X6_66, wi_X6_isThing, wse_X6_isThing, wini_X6, wc_X6_isThing⟩
theorem wf_X6_69 : Cond.fieldLinkNest RX6 69 RX5 "where" "[I" "HammerEggsModel" ∈ nestW := nest_in (i := 583) (by decide +kernel) rfl
theorem wml_X6_72 : Cond.methodLink RX6 72 yX6_holds ∈ wAll := wAll_in (i := 755) (by decide +kernel) (by decide +kernel)
theorem wm_X6_72 : Wv RX6 72 RX6 yX6_holds cX6_holds 2 (some .int) 1 := ⟨by decide +kernel, wml_X6_72, wi_X6_holds, wse_X6_holds, wini_X6, wc_X6_holds⟩
theorem wml_X6_75 : Cond.methodLink RX6 75 yX5_handOf ∈ wAll := wAll_in (i := 767) (by decide +kernel) (by decide +kernel)
theorem wm_X6_75 : Wv RX6 75 RX5 yX5_handOf cX5_handOf 3 (some .int) 1 := ⟨by decide +kernel, wml_X6_75, wi_X5_handOf, wse_X5_handOf, wini_X5, wc_X5_handOf⟩
theorem wf_X6_78 : Cond.fieldLinkNest RX6 78 RX5 "whose" "[I" "HammerEggsModel" ∈ nestW := nest_in (i := 585) (by decide +kernel) rfl
theorem wf_X6_81 : Cond.fieldLinkNest RX6 81 RX5 "down" "[I" "HammerEggsModel" ∈ nestW := nest_in (i := 587) (by decide +kernel) rfl
theorem wf_X6_84 : Cond.fieldLinkNest RX6 84 RX5 "beat" "I" "HammerEggsModel" ∈ nestW := nest_in (i := 575) (by decide +kernel) rfl
theorem wf_X6_87 : Cond.fieldLinkNest RX6 87 RX5 "throwsOf" "[I" "HammerEggsModel" ∈ nestW := nest_in (i := 590) (by decide +kernel) rfl
theorem wf_X6_90 : Cond.fieldLinkNest RX6 90 RX5 "fallsOf" "[I" "HammerEggsModel" ∈ nestW := nest_in (i := 592) (by decide +kernel) rfl
theorem wml_X6_93 : Cond.methodLink RX6 93 yX6_thingTold ∈ wAll := wAll_in (i := 763) (by decide +kernel) (by decide +kernel)
theorem wm_X6_93 : Wv RX6 93 RX6 yX6_thingTold cX6_thingTold 6 (some .int) 2 := ⟨by decide +kernel, wml_X6_93, wi_X6_thingTold, wse_X6_thingTold, wini_X6, wc_X6_thingTold⟩
theorem wf_X6_97 : Cond.fieldLinkNest RX6 97 RX5 "bruises" "[I" "HammerEggsModel" ∈ nestW := nest_in (i := 577) (by decide +kernel) rfl
theorem wf_X6_100 : Cond.fieldLinkNest RX6 100 RX5 "caught" "[I" "HammerEggsModel" ∈ nestW := nest_in (i := 579) (by decide +kernel) rfl
theorem wml_X6_103 : Cond.methodLink RX6 103 yX6_jugglerTold ∈ wAll := wAll_in (i := 775) (by decide +kernel) (by decide +kernel)
theorem wm_X6_103 : Wv RX6 103 RX6 yX6_jugglerTold cX6_jugglerTold 5 (some .int) 2 := ⟨by decide +kernel, wml_X6_103, wi_X6_jugglerTold, wse_X6_jugglerTold, wini_X6, wc_X6_jugglerTold⟩
theorem wml_X6_106 : Cond.methodLink RX6 106 yX6_isWritten ∈ wAll := wAll_in (i := 791) (by decide +kernel) (by decide +kernel)
theorem wm_X6_106 : Wv RX6 106 RX6 yX6_isWritten cX6_isWritten 5 (some .boolean) 2 := ⟨by decide +kernel, wml_X6_106, wi_X6_isWritten, wse_X6_isWritten, wini_X6, wc_X6_isWritten⟩
theorem wml_X6_109 : Cond.methodLink RX6 109 yX5_sum ∈ wAll := wAll_in (i := 799) (by decide +kernel) (by decide +kernel)
theorem wm_X6_109 : Wv RX6 109 RX5 yX5_sum cX5_sum 7 (some .int) 1 := ⟨by decide +kernel, wml_X6_109, wi_X5_sum, wse_X5_sum, wini_X5, wc_X5_sum⟩
theorem wml_X6_113 : Cond.methodLink RX6 113 yX5_go ∈ wAll := wAll_in (i := 803) (by decide +kernel) (by decide +kernel)
theorem wm_X6_113 : Wv RX6 113 RX5 yX5_go cX5_go 2 none 0 := ⟨by decide +kernel, wml_X6_113, wi_X5_go, wse_X5_go, wini_X5, wc_X5_go⟩
theorem wml_X6_116 : Cond.methodLink RX6 116 yX5_are ∈ wAll := wAll_in (i := 826) (by decide +kernel) (by decide +kernel)
theorem wm_X6_116 : Wv RX6 116 RX5 yX5_are cX5_are 4 (some .int) 1 := ⟨by decide +kernel, wml_X6_116, wi_X5_are, wse_X5_are, wini_X5, wc_X5_are⟩
theorem wml_X6_119 : Cond.methodLink RX6 119 yX6_counted ∈ wAll := wAll_in (i := 822) (by decide +kernel) (by decide +kernel)
theorem wm_X6_119 : Wv RX6 119 RX6 yX6_counted cX6_counted 3 (some .int) 1 := ⟨by decide +kernel, wml_X6_119, wi_X6_counted, wse_X6_counted, wini_X6, wc_X6_counted⟩
theorem wml_X6_122 : Cond.methodLink RX6 122 yX5_become ∈ wAll := wAll_in (i := 834) (by decide +kernel) (by decide +kernel)
theorem wm_X6_122 : Wv RX6 122 RX5 yX5_become cX5_become 2 none 1 := ⟨by decide +kernel, wml_X6_122, wi_X5_become, wse_X5_become, wini_X5, wc_X5_become⟩
theorem wml_X6_126 : Cond.methodLink RX6 126 yX6_fallsIn ∈ wAll := wAll_in (i := 849) (by decide +kernel) (by decide +kernel)
theorem wm_X6_126 : Wv RX6 126 RX6 yX6_fallsIn cX6_fallsIn 3 (some .int) 1 := ⟨by decide +kernel, wml_X6_126, wi_X6_fallsIn, wse_X6_fallsIn, wini_X6, wc_X6_fallsIn⟩
theorem wk_X6_129 : Cond.constantLong RX6 129 953 ∈ wAll := wAll_in (i := 865) (by decide +kernel) (by decide +kernel)
theorem wk_X6_131 : Cond.constantLong RX6 131 31 ∈ wAll := wAll_in (i := 866) (by decide +kernel) (by decide +kernel)
theorem wf_X5_3 : Cond.fieldLink RX5 3 RX5 "this$0" "LHammerEggsModel;" ∈ wAll := wAll_in (i := 646) (by decide +kernel) (by decide +kernel)
theorem wf_X5_15 : Cond.fieldLink RX5 15 RX5 "bruises" "[I" ∈ wAll := wAll_in (i := 629) (by decide +kernel) (by decide +kernel)
theorem wf_X5_19 : Cond.fieldLink RX5 19 RX5 "caught" "[I" ∈ wAll := wAll_in (i := 631) (by decide +kernel) (by decide +kernel)
theorem wf_X5_22 : Cond.fieldLink RX5 22 RX5 "held" "[I" ∈ wAll := wAll_in (i := 633) (by decide +kernel) (by decide +kernel)
theorem wf_X5_25 : Cond.fieldLink RX5 25 RX5 "where" "[I" ∈ wAll := wAll_in (i := 635) (by decide +kernel) (by decide +kernel)
theorem wf_X5_28 : Cond.fieldLink RX5 28 RX5 "whose" "[I" ∈ wAll := wAll_in (i := 637) (by decide +kernel) (by decide +kernel)
theorem wf_X5_31 : Cond.fieldLink RX5 31 RX5 "down" "[I" ∈ wAll := wAll_in (i := 639) (by decide +kernel) (by decide +kernel)
theorem wf_X5_34 : Cond.fieldLink RX5 34 RX5 "high" "[I" ∈ wAll := wAll_in (i := 641) (by decide +kernel) (by decide +kernel)
theorem wf_X5_37 : Cond.fieldLink RX5 37 RX5 "throwsOf" "[I" ∈ wAll := wAll_in (i := 642) (by decide +kernel) (by decide +kernel)
theorem wf_X5_40 : Cond.fieldLink RX5 40 RX5 "fallsOf" "[I" ∈ wAll := wAll_in (i := 644) (by decide +kernel) (by decide +kernel)
theorem wf_X5_49 : Cond.fieldLink RX5 49 RX5 "beat" "I" ∈ wAll := wAll_in (i := 627) (by decide +kernel) (by decide +kernel)
theorem wml_X5_53 : Cond.methodLink RX5 53 yX5_copy ∈ wAll := wAll_in (i := 838) (by decide +kernel) (by decide +kernel)
theorem wm_X5_53 : Wv RX5 53 RX5 yX5_copy cX5_copy 3 none 2 := ⟨by decide +kernel, wml_X5_53, wi_X5_copy, wse_X5_copy, wini_X5, wc_X5_copy⟩
theorem wf_X5_57 : Cond.fieldLinkNest RX5 57 RX6 "skill" "[I" "HammerEggsModel" ∈ nestW := nest_in (i := 623) (by decide +kernel) rfl
theorem wf_X5_60 : Cond.fieldLinkNest RX5 60 RX6 "kind" "[I" "HammerEggsModel" ∈ nestW := nest_in (i := 631) (by decide +kernel) rfl
theorem wf_X5_63 : Cond.fieldLinkNest RX5 63 RX6 "length" "[I" "HammerEggsModel" ∈ nestW := nest_in (i := 625) (by decide +kernel) rfl
theorem wf_X5_66 : Cond.fieldLinkNest RX5 66 RX6 "height" "[I" "HammerEggsModel" ∈ nestW := nest_in (i := 627) (by decide +kernel) rfl
theorem wf_X5_69 : Cond.fieldLinkNest RX5 69 RX6 "to" "[I" "HammerEggsModel" ∈ nestW := nest_in (i := 629) (by decide +kernel) rfl
theorem wml_X5_72 : Cond.methodLinkNest RX5 72 yX6_beatsOf "HammerEggsModel" ∈ nestW := nest_in (i := 762) (by decide +kernel) rfl
theorem wf_X5_76 : Cond.fieldLinkNest RX5 76 RX6 "things" "I" "HammerEggsModel" ∈ nestW := nest_in (i := 621) (by decide +kernel) rfl
theorem wml_X5_79 : Cond.methodLink RX5 79 yX5_comeDown ∈ wAll := wAll_in (i := 807) (by decide +kernel) (by decide +kernel)
theorem wm_X5_79 : Wv RX5 79 RX5 yX5_comeDown cX5_comeDown 4 none 1 := ⟨by decide +kernel, wml_X5_79, wi_X5_comeDown, wse_X5_comeDown, wini_X5, wc_X5_comeDown⟩
theorem wf_X5_83 : Cond.fieldLinkNest RX5 83 RX6 "jugglers" "I" "HammerEggsModel" ∈ nestW := nest_in (i := 619) (by decide +kernel) rfl
theorem wml_X5_86 : Cond.methodLink RX5 86 yX5_throwFrom ∈ wAll := wAll_in (i := 811) (by decide +kernel) (by decide +kernel)
theorem wm_X5_86 : Wv RX5 86 RX5 yX5_throwFrom cX5_throwFrom 5 none 1 := ⟨by decide +kernel, wml_X5_86, wi_X5_throwFrom, wse_X5_throwFrom, wini_X5, wc_X5_throwFrom⟩
theorem wit_X4 : Cond.instantiable RX4 2 ∈ wAll := wAll_in (i := 70) (by decide +kernel) (by decide +kernel)
theorem wit_X2 : Cond.instantiable RX2 5 ∈ wAll := wAll_in (i := 78) (by decide +kernel) (by decide +kernel)
theorem wit_X0 : Cond.instantiable RX0 5 ∈ wAll := wAll_in (i := 85) (by decide +kernel) (by decide +kernel)
theorem wit_X1 : Cond.instantiable RX1 3 ∈ wAll := wAll_in (i := 91) (by decide +kernel) (by decide +kernel)
theorem wit_X3 : Cond.instantiable RX3 8 ∈ wAll := wAll_in (i := 138) (by decide +kernel) (by decide +kernel)
theorem wit_X5 : Cond.instantiable RX5 11 ∈ wAll := wAll_in (i := 622) (by decide +kernel) (by decide +kernel)
theorem wit_X6 : Cond.instantiable RX6 10 ∈ wAll := wAll_in (i := 616) (by decide +kernel) (by decide +kernel)
end
section
/-! ===== further rows: layered memories, temporary arrays, whole copies ===== -/
section VM
variable {p : Program} {l : Launch} {e : Env} {R : Room} {s : State} {m : MethodId} {args : Array Value} {below : List Frame} {meth : Method} {c : Code} {Q : State → Prop} {X : Cx} {nL : Nat} {ex : va_W} {M M' : Mem} {lf lf' : Lf} {cells slots pc : Nat} {lv : List (Nat × Value)} {st : List Value} {cc : ByteArray} {own : String}
theorem heR {r k i : Nat} {σ : Sg} (hr : r < 2) : celD X lf r k i ((uC M r σ) r k i) = celR (X.2.1 r) X.2.2.1 k i (σ k i) := by rw [uC_at]; exact celD_R hr
theorem heS {r k i : Nat} {σ : Sg} (hr : r = 3 ∨ r = 4) : celD X lf r k i ((uC M r σ) r k i) = celS (fun z => X.2.1 r z 0) (X.2.1 2 0 0) X.2.2.1 k (σ k i) := by rw [uC_at]; exact celD_S hr
theorem heQ {k i : Nat} {σ : Sg} : celD X lf 2 k i ((uC M 2 σ) 2 k i) = celQ X.2.1 X.2.2.1 k (σ k i) := by rw [uC_at]; rfl
theorem heO {r t k i : Nat} {σ : Sg} (h : t ≠ r) : celD X lf t k i ((uC M r σ) t k i) = celD X lf t k i (M t k i) := by rw [uC_ne h]
theorem v_putC (F : Fx p l s m args meth c cc nL own X) {r k i ci : Nat} {σ : Sg} {fs : List Value} {C : String} {T : u_T} {N : Nat} (ty0 : Nat → FieldType) (hty : ∀ k, k < N → parseFieldDescriptor (T k).2.2.1 = some (ty0 k)) (hnm : ∀ a, a < N → ∀ b, b < N → a ≠ b → (T a).2.1 ≠ (T b).2.1) (hid : (r, k, i) ∈ ids) (he : celD X lf r k i (σ k i) = .inr (ci, fs)) (hc : vwCl[ci]? = some (C, T, N)) (hin : ∀ w, w ∈ u_ws C T N → w ∈ wAll) (j : Nat) (hj : j < N) (hT : (T j).1 = C) (hF : (T j).2.2.2 = false) (hd : parseFieldDescriptor (T j).2.2.1 = some .int) {v : Int32} (he2 : celD X lf r k i (upd (σ k i) j v) = .inr (ci, fs.set j (.int v))) (hl0 : j < fs.length) {index : Nat} (hlink : Cond.fieldLink own index C (T j).2.1 (T j).2.2.1 ∈ wAll) (hdg : decode cc pc = .ok (.putfield index, 3)) (K : V p l e R s m args below meth c Q X nL ex (uC M r (u3 σ k i j v)) lf cells slots (pc + 3) lv st) : V p l e R s m args below meth c Q X nL ex (uC M r σ) lf cells slots pc lv (.int v :: .ref (X.2.1 r k i) :: st) :=
  v_put F ty0 hty hnm hid (by rw [uC_at]; exact he) hc hin j hj hT hF hd (by rw [uC_at]; exact he2) hl0 hlink hdg (v_mem (by rw [uC_at, uC_uC]) K)
theorem v_putNC (F : Fx p l s m args meth c cc nL own X) {r k i ci : Nat} {σ : Sg} {fs : List Value} {C host : String} {T : u_T} {N : Nat} (ty0 : Nat → FieldType) (hty : ∀ k, k < N → parseFieldDescriptor (T k).2.2.1 = some (ty0 k)) (hnm : ∀ a, a < N → ∀ b, b < N → a ≠ b → (T a).2.1 ≠ (T b).2.1) (hid : (r, k, i) ∈ ids) (he : celD X lf r k i (σ k i) = .inr (ci, fs)) (hc : vwCl[ci]? = some (C, T, N)) (hin : ∀ w, w ∈ u_ws C T N → w ∈ wAll) (j : Nat) (hj : j < N) (hT : (T j).1 = C) (hF : (T j).2.2.2 = false) (hd : parseFieldDescriptor (T j).2.2.1 = some .int) {v : Int32} (he2 : celD X lf r k i (upd (σ k i) j v) = .inr (ci, fs.set j (.int v))) (hl0 : j < fs.length) {index : Nat} (hlink : Cond.fieldLinkNest own index C (T j).2.1 (T j).2.2.1 host ∈ nestW) (hdg : decode cc pc = .ok (.putfield index, 3)) (K : V p l e R s m args below meth c Q X nL ex (uC M r (u3 σ k i j v)) lf cells slots (pc + 3) lv st) : V p l e R s m args below meth c Q X nL ex (uC M r σ) lf cells slots pc lv (.int v :: .ref (X.2.1 r k i) :: st) :=
  v_putN F ty0 hty hnm hid (by rw [uC_at]; exact he) hc hin j hj hT hF hd (by rw [uC_at]; exact he2) hl0 hlink hdg (v_mem (by rw [uC_at, uC_uC]) K)
theorem v_iastC (F : Fx p l s m args meth c cc nL own X) {r k i n : Nat} {σ : Sg} {cA : ClassId} (hid : (r, k, i) ∈ ids) (he : celD X lf r k i (σ k i) = .inl (cA, n, .inl (σ k i))) (hcA : cA = X.2.2.1 0) {x v : Int32} (j : Nat) (hx : Ix x j n) (he2 : celD X lf r k i (upd (σ k i) j v) = .inl (cA, n, .inl (upd (σ k i) j v))) (hdg : decode cc pc = .ok (.iastore, 1)) (K : V p l e R s m args below meth c Q X nL ex (uC M r (u3 σ k i j v)) lf cells slots (pc + 1) lv st) : V p l e R s m args below meth c Q X nL ex (uC M r σ) lf cells slots pc lv (.int v :: .int x :: .ref (X.2.1 r k i) :: st) :=
  v_iast F hid (by rw [uC_at]; exact he) hcA j hx (by rw [uC_at]; exact he2) hdg (v_mem (by rw [uC_at, uC_uC]) K)
theorem iinc_nI (i : Nat) : nI i + Int32.ofInt 1 = nI (i + 1) := (nI_succ i).symm
theorem v_open (r : Nat) (σ : Sg) (h : M r = σ) (K : V p l e R s m args below meth c Q X nL ex (uC M r σ) lf cells slots pc lv st) : V p l e R s m args below meth c Q X nL ex M lf cells slots pc lv st := v_mem (by rw [← h]; exact uC_self M r) K
/-- a static call of a nest mate -/
def Wt (own : String) (index : Nat) (y : MethodName) (bytes : ByteArray) (maxL : Nat) (ret : Option FieldType) (n : Nat) : Prop := (y.cls ≠ "java/lang/invoke/MethodHandle" ∧ y.cls ≠ "java/lang/invoke/VarHandle" ∧ (parseMethodDescriptor y.desc).map (fun d => d.parameters.length) = some n) ∧ (∃ host, Cond.methodLinkNest own index y host ∈ nestW) ∧ Cond.static y ∈ wAll ∧ Cond.initialized y.cls ∈ wAll ∧ Cond.code y bytes maxL ret ∈ wAll
theorem v_callTi (F : Fx p l s m args meth c cc nL own X) {y : MethodName} {bytes : ByteArray} {maxL n index mc ms : Nat} {ret : Option FieldType} {rm : Room} {As rest : List Value} {r : Int32} (hst : st = As.reverse ++ rest) (hM : CI X l y (wsc y bytes maxL ret) rm As M lf r M' lf' mc ms) (w : Wt own index y bytes maxL ret n) (hn : As.length = n) (hr : Rr R rm maxL cells slots mc ms rest) (hdg : decode cc pc = .ok (.invokestatic index, 3)) (K : V p l e R s m args below meth c Q X nL ex M' lf' (cells + mc) (slots + ms) (pc + 3) lv (.int r :: rest)) : V p l e R s m args below meth c Q X nL ex M lf cells slots pc lv st := by
  intro H locs ls hP hE hS hl
  subst hst
  obtain ⟨host, hh⟩ := w.2.1
  refine va_calli (va_runSN (As := As) (rest := rest) F.1 (hM H.size) ⟨va_cnB n F.1.2.2.2.2 (good_c w.2.2.2.2) rfl hr.1 hr.2.1 (F.2.1.2.2.1 _ hh) (F.1.2.2.2.2 _ w.2.2.2.1) w.1 ⟨hr.2.2.1, hr.2.2.2.1⟩, F.1.2.2.2.2 _ w.2.2.1, trivial⟩ ⟨PreW_blind, fun U hU hW => v_pre F hP hS U hU hW⟩ rfl hn hl.1 rfl (lv_room hr.2.2.2.2.2.2) hdg ⟨hr.2.2.2.2.1, hr.2.2.2.2.2.1⟩) hS (fun q _ h => xA_mono hS.1 q h) (xA_mono hS.1) (fun x u t H1 locs1 ht hvm hx hB hz hk hS1 => ?_)
  subst hx
  exact K H1 locs1 ls (v_post hP hE ht hB hk) hE hS1 hl
/-- a temporary array of ints -/
abbrev exI (X : Cx) (a n : Nat) (f : Nat → Int32) : va_W := [(a, .inl (X.2.2.1 0, n, .inl f))]
theorem v_newt (F : Fx p l s m args meth c cc nL own X) {x : Int32} (n : Nat) (hw : Cond.arrayClass .int ∈ wAll) (h0 : ¬ x < 0) (hx : x.toNatClampNeg = n) (hb : n * componentBytes .int ≤ 536870912) (h1 : cells + 1 ≤ R.cells) (h2 : slots + n ≤ R.slots) (hdg : decode cc pc = .ok (.newarray .int, 2)) (K : ∀ a : Nat, V p l e R s m args below meth c Q X nL (exI X a n (fun _ => 0)) M lf (cells + 1) (slots + n) (pc + 2) lv (.ref a :: st)) : V p l e R s m args below meth c Q X nL [] M lf cells slots pc lv (.int x :: st) := by
  intro H locs ls hP hE hS hl
  refine va_newa (atype := .int) (ty := .int) (a0 := (n, .inl (fun _ => 0))) F.1.1 F.1.2.1 (F.1.2.2.2.2 _ hw) rfl F.2.1.2.1 hP (wl_DE F.2.2.1 M lf hE) hS (fun q h => xA_sz h) (fun cA => rfl) h0 hx hb h1 h2 hdg (fun a cA H1 hK1 hP1 hD1 hS1 => ?_)
  have hcA : cA = X.2.2.1 0 := by
    have e1 : s.vm.findClass ("[" ++ (FieldType.int).toString) = some cA := (hK1.2 4 (cA, .int) rfl).2
    have e2 : s.vm.findClass ("[" ++ (FieldType.int).toString) = some (X.2.2.1 0) := (F.2.1.2.1.2 0 _ rfl).2
    exact Option.some.inj (e1.symm.trans e2)
  subst hcA
  rw [List.append_nil] at hP1 hD1
  have hne : ∀ p, p ∈ ids → a ≠ xad X p := by
    intro p hp ha
    obtain ⟨j, hj⟩ := List.getElem?_of_mem hp
    have h3 : (wl X M lf)[j]? = some (xad X p, celD X lf p.1 p.2.1 p.2.2 (M p.1 p.2.1 p.2.2)) := by
      unfold wl
      rw [List.getElem?_map, hj]
      rfl
    have hjl : j < (wl X M lf).length := (List.getElem?_eq_some_iff.mp h3).1
    have h4 := hD1.1 j (wl X M lf).length _ (a, .inl (X.2.2.1 0, n, .inl (fun _ => 0))) (by rw [List.getElem?_append_left hjl]; exact h3) (by rw [List.getElem?_append_right (Nat.le_refl _), Nat.sub_self]; rfl) ha.symm
    omega
  have hsz : s.heap.size ≤ a := by
    have h3 := hD1.2 (wl X M lf).length (a, .inl (X.2.2.1 0, n, .inl (fun _ => 0))) (by rw [List.getElem?_append_right (Nat.le_refl _), Nat.sub_self]; rfl)
    rcases h3 with ⟨p, hp, h4⟩ | h3
    · exact absurd h4 (hne p hp)
    · exact h3
  refine K a H1 locs ls hP1 ⟨⟨fun i j x y hi hj _ => ?_, fun k q hk => ?_⟩, fun k q hk p hp => ?_⟩ hS1 hl
  · have h3 := (List.getElem?_eq_some_iff.mp hi).1
    have h4 := (List.getElem?_eq_some_iff.mp hj).1
    simp only [List.length_cons, List.length_nil] at h3 h4
    omega
  · rcases List.mem_singleton.mp (List.mem_of_getElem? hk) with rfl
    exact hsz
  · rcases List.mem_singleton.mp (List.mem_of_getElem? hk) with rfl
    exact hne p hp
theorem v_eald (F : Fx p l s m args meth c cc nL own X) {a n : Nat} {f : Nat → Int32} {x : Int32} (j : Nat) (hx : Ix x j n) (hdg : decode cc pc = .ok (.iaload, 1)) (K : V p l e R s m args below meth c Q X nL (exI X a n f) M lf cells slots (pc + 1) lv (.int (f j) :: st)) : V p l e R s m args below meth c Q X nL (exI X a n f) M lf cells slots pc lv (.int x :: .ref a :: st) := by
  intro H locs ls hP hE hS hl
  have hK := K H locs ls hP hE hS hl
  rw [← hx.2.1] at hK
  exact va_iald F.1.1 F.1.2.1 F.2.1.2.1 (va_P_spl hP).2 0 0 rfl rfl (Ix_in hx) hdg hK
theorem v_east (F : Fx p l s m args meth c cc nL own X) {a n : Nat} {f : Nat → Int32} {x v : Int32} (j : Nat) (hx : Ix x j n) (hdg : decode cc pc = .ok (.iastore, 1)) (K : V p l e R s m args below meth c Q X nL (exI X a n (upd f j v)) M lf cells slots (pc + 1) lv st) : V p l e R s m args below meth c Q X nL (exI X a n f) M lf cells slots pc lv (.int v :: .int x :: .ref a :: st) := by
  intro H locs ls hP hE hS hl
  have hq : (wl X M lf ++ exI X a n f)[(wl X M lf).length]? = some (a, .inl (X.2.2.1 0, n, .inl f)) := by
    rw [List.getElem?_append_right (Nat.le_refl _), Nat.sub_self]; rfl
  refine va_iast F.1.1 F.1.2.1 F.2.1.2.1 hP (wl_DE F.2.2.1 M lf hE) hS (wl X M lf).length 0 hq rfl (Ix_in hx) hdg (fun H1 locs1 hP1 hD1 hS1 => ?_)
  rw [hx.2.1, List.set_append_right _ _ (Nat.le_refl _), Nat.sub_self] at hP1
  refine K H1 locs1 ls hP1 ⟨⟨fun i j x y hi hj _ => ?_, fun k q hk => ?_⟩, fun k q hk p hp => ?_⟩ hS1 hl
  · have h3 := (List.getElem?_eq_some_iff.mp hi).1
    have h4 := (List.getElem?_eq_some_iff.mp hj).1
    simp only [List.length_cons, List.length_nil] at h3 h4
    omega
  · rcases List.mem_singleton.mp (List.mem_of_getElem? hk) with rfl
    exact hE.1.2 0 (a, .inl (X.2.2.1 0, n, .inl f)) rfl
  · rcases List.mem_singleton.mp (List.mem_of_getElem? hk) with rfl
    exact hE.2 0 (a, .inl (X.2.2.1 0, n, .inl f)) rfl p hp
/-- System.arraycopy of a row of one part into a row of another -/
theorem v_copy (F : Fx p l s m args meth c cc nL own X) {r k i n r1 k1 i1 n1 index : Nat} {σ : Sg} {cA cB : ClassId} {f g : Nat → Int32} {sp dp z : Int32} (hw1 : Cond.methodLink own index arraycopyName ∈ wAll) (hw2 : Cond.native arraycopyName ∈ wAll) (hw3 : Cond.static arraycopyName ∈ wAll) (hw4 : Cond.initialized "java/lang/System" ∈ wAll) (hid : (r, k, i) ∈ ids) (hid1 : (r1, k1, i1) ∈ ids) (he : celD X lf r k i (M r k i) = .inl (cA, n, .inl f)) (hcA : cA = X.2.2.1 0) (he1 : celD X lf r1 k1 i1 (M r1 k1 i1) = .inl (cB, n1, .inl g)) (hcB : cB = X.2.2.1 0)
    (hsp : sp = 0) (hdp : dp = 0) (hz : Int32.ofNat n = z) (hz0 : ¬ z < 0) (hz1 : z.toNatClampNeg = n) (hn : n ≤ n1) (he2 : celD X lf r1 k1 i1 (va_cpy f g 0 0 n) = .inl (cB, n1, .inl (va_cpy f g 0 0 n))) (hframes : 1 ≤ R.frames) (hlocals : (st.map fun v => v.category).sum + (nativeFrameWords "java/lang/System" "arraycopy" 5 + 11) ≤ R.locals) (hdg : decode cc pc = .ok (.invokestatic index, 3)) (K : V p l e R s m args below meth c Q X nL ex (uC M r1 (uS (M r1) k1 i1 (va_cpy f g 0 0 n))) lf cells slots (pc + 3) lv st) : V p l e R s m args below meth c Q X nL ex M lf cells slots pc lv (.int z :: .int dp :: .ref (X.2.1 r1 k1 i1) :: .int sp :: .ref (X.2.1 r k i) :: st) := by
  intro H locs ls hP hE hS hl
  subst hcA; subst hcB; subst hsp; subst hdp
  obtain ⟨q0, h0, hq⟩ := wl_get (X := X) (M := M) (lf := lf) (ex := ex) hid
  obtain ⟨q1, h1, hq1⟩ := wl_get (X := X) (M := M) (lf := lf) (ex := ex) hid1
  rw [he] at hq
  rw [he1] at hq1
  refine va_copyi F.1.1 F.1.2.1 (F.1.2.2.1.trans hl.1.symm) F.1.2.2.2.1 (F.1.2.2.2.2 _ hw1) (F.1.2.2.2.2 _ hw2) (F.1.2.2.2.2 _ hw3) (F.1.2.2.2.2 _ hw4) F.2.1.2.1 hP (wl_DE F.2.2.1 M lf hE) hS q0 q1 0 0 hq hq1 rfl rfl rfl (by decide) (by decide) hz0 (by rw [hz1]; show 0 + n ≤ n; omega) (by rw [hz1]; show 0 + n ≤ n1; omega) (fun i _ => rfl) hframes hlocals hdg (fun H1 locs1 hP1 hD1 hS1 => ?_)
  rw [hz1, show (0 : Int32).toNatClampNeg = 0 from rfl, ← he2, wl_set h1] at hP1
  exact K H1 locs1 ls hP1 hE hS1 hl
end VM
end
section
/-! ===== numbers ===== -/
theorem iinc_m1 (x : Int32) : x + Int32.ofInt (-1) = x - 1 := by
  rw [Int32.sub_eq_add_neg]
  rfl
theorem iinc_1 (x : Int32) : x + Int32.ofInt 1 = x + 1 := rfl
theorem xorI (a b : Nat) : nI a ^^^ nI b = nI (a ^^^ b) := by
  apply Int32.toBitVec_inj.1
  show BitVec.ofNat 32 a ^^^ BitVec.ofNat 32 b = BitVec.ofNat 32 (a ^^^ b)
  apply BitVec.eq_of_getLsbD_eq
  intro i hi
  simp [hi]
theorem xor_pos {a b : Nat} (ha : a < 2 ^ 31) (hb : b < 2 ^ 31) : 0 ≤ nI a ^^^ nI b := by
  rw [xorI]
  exact nI_pos' (Nat.xor_lt_two_pow ha hb)
theorem cle {x : Int32} {a b : Nat} (hx : x = nI a) (h : a ≤ b) (hb : b < 2 ^ 31) : x ≤ nI b := by
  rw [hx]; exact nI_le h hb
theorem nI_lt0 {x : Int32} (h : ¬ x < 0) : x = nI x.toNatClampNeg := by
  obtain ⟨j, hj, rfl⟩ := nI_of h
  rw [nI_clamp hj]
theorem Ix_of {x : Int32} {n : Nat} (h0 : ¬ x < 0) (h1 : ¬ nI n ≤ x) (hn : n < 2 ^ 31) : Ix x x.toNatClampNeg n := by
  obtain ⟨j, hj, rfl⟩ := nI_of h0
  have : j < n := by
    rcases Nat.lt_or_ge j n with q | q
    · exact q
    · exact absurd (nI_le q hj) h1
  exact ⟨h0, rfl, by rw [nI_clamp hj]; exact this⟩
theorem Ix_mono {x : Int32} {j a b : Nat} (h : Ix x j a) (hab : a ≤ b) : Ix x j b := ⟨h.1, h.2.1, Nat.lt_of_lt_of_le h.2.2 hab⟩
/-- a method of a class of which other methods are run by entries of the machine's own -/
theorem Met_ofWF {l : Launch} {y : MethodName} {ws ws' : List Cond} {rm : Room} {Pc : Array Value → State → Prop} {Qc : Array Value → State → Outcome → State → Prop} {mc ms : Nat} {free : Addr → Prop} {cc : ByteArray} {maxL : Nat} {ret : Option FieldType}
    (hy : plainFor y = true) (hw : ws = Cond.code y cc maxL ret :: ws')
    (body : ∀ p e s m args below meth c s₁, BodyLoose p l y (headSpec ws rm) cc maxL ret e s m args below meth c s₁ → c.maxLocals = maxL → Pc args s →
      W p l e (headSpec ws rm).room s m args below meth c s.heap [] 0 0 (MQ below Qc args s mc ms free) (entryFrame m args maxL)) : Met l y ws rm Pc Qc mc ms free := by
  refine MetFree.of_bodySF (code := cc) (maxLocals := maxL) (ret := ret) hy ?_ ?_
  · intro args s m h hn
    obtain ⟨meth, c, h1, h2, h3, h4, h5, h6, -, -⟩ := Cond.code_spec hn (atoms_spec (ws := ws) h _ (by rw [hw]; exact List.mem_cons_self))
    exact ⟨meth, c, h1, h2, h3, h4, h5, h6⟩
  · intro p e s m args below meth c s₁ B hml hP _
    have hh0 : s₁.heap = s.heap := by rw [B.state]; rfl
    obtain ⟨t, a1, o, b1, b2, b3⟩ := body p e s m args below meth c s₁ B hml hP s₁ hh0 (Stand.of_body B)
    exact ⟨t, o, a1, b1, b2, ⟨b3.1, b3.2⟩⟩
theorem CI_ofF {X : Cx} {l : Launch} {y : MethodName} {cc : ByteArray} {nL : Nat} {rm : Room} {av : List Value} {M M' : Mem} {lf lf' : Lf} {mc ms : Nat} {lv : List (Nat × Value)} {ty : FieldType} {r : Int32} (G : Gx X l) (hy : plainFor y = true) (hn : (lg_sl av).length ≤ nL) (hlv : lv_args 0 av = lv)
    (body : ∀ p e s m args below meth c, Fx p l s m args meth c cc nL y.cls X → meth.sig.returnType = some ty → V p l e rm s m args below meth c (QI X below args s r M' lf' mc ms) X nL [] M lf 0 0 0 lv []) : CI X l y (wsc y cc nL (some ty)) rm av M lf r M' lf' mc ms := by
  intro sz
  refine Met_ofWF (cc := cc) (maxL := nL) (ret := some ty) hy rfl ?_
  intro p e s m args below meth c s₁ B hml hv
  obtain ⟨rfl, hsz, hK, hP⟩ := hv
  subst hsz
  have h := body p e s m _ below meth c (Fx_of G B hml hK) B.returns
  rw [lg_entry_eq]
  exact h s.heap [] _ (by rw [List.append_nil]; exact hP) exOk_nil va_S.rf (hlv ▸ lv_entry av hn)
section VJ
variable {p : Program} {l : Launch} {e : Env} {R : Room} {s : State} {m : MethodId} {args : Array Value} {below : List Frame} {meth : Method} {c : Code} {Q : State → Prop} {X : Cx} {nL : Nat} {ex : va_W} {M : Mem} {lf : Lf} {cells slots pc : Nat} {lv : List (Nat × Value)} {st : List Value} {cc : ByteArray} {own : String}
theorem v_aaldJ (F : Fx p l s m args meth c cc nL own X) {r : Nat} (hr : r < 2) {x : Int32} (j : Nat) (hx : Ix x j 4) (hdg : decode cc pc = .ok (.aaload, 1)) (K : V p l e R s m args below meth c Q X nL ex M lf cells slots (pc + 1) lv (.ref (X.2.1 r 2 j) :: st)) : V p l e R s m args below meth c Q X nL ex M lf cells slots pc lv (.int x :: .ref (X.2.1 r 1 0) :: st) :=
  v_aald F (t0 := 1) (n := 4) (f := fun j => some (X.2.1 r 2 j)) (id_R hr (by decide) (by decide)) (celD_R hr) rfl j hx rfl hdg K
theorem v_aaldT (F : Fx p l s m args meth c cc nL own X) {r : Nat} (hr : r < 2) {x : Int32} (j : Nat) (hx : Ix x j 12) (hdg : decode cc pc = .ok (.aaload, 1)) (K : V p l e R s m args below meth c Q X nL ex M lf cells slots (pc + 1) lv (.ref (X.2.1 r 8 j) :: st)) : V p l e R s m args below meth c Q X nL ex M lf cells slots pc lv (.int x :: .ref (X.2.1 r 7 0) :: st) :=
  v_aald F (t0 := 2) (n := 12) (f := fun j => some (X.2.1 r 8 j)) (id_R hr (by decide) (by decide)) (celD_R hr) rfl j hx rfl hdg K
theorem v_gen {r : Nat} {σ : Sg} (K : ∀ τ : Sg, τ = σ → V p l e R s m args below meth c Q X nL ex (uC M r τ) lf cells slots pc lv st) : V p l e R s m args below meth c Q X nL ex (uC M r σ) lf cells slots pc lv st := K σ rfl
end VJ
end
section
/-! ===== what the class's methods do, over a ring's numbers ===== -/
def sI (f : Nat → Int32) : Nat → Int32
  | 0 => 0
  | n + 1 => sI f n + f n
def cI (p : Nat → Bool) : Nat → Int32
  | 0 => 0
  | n + 1 => if p n = true then cI p n + 1 else cI p n
theorem cI_t {p : Nat → Bool} {n : Nat} (h : p n = true) : cI p (n + 1) = cI p n + 1 := if_pos h
theorem cI_f {p : Nat → Bool} {n : Nat} (h : ¬ p n = true) : cI p (n + 1) = cI p n := if_neg h
-- a pattern
def wrL (i : Nat) (ow : Int32) : Nat → Int32 → Sg → Sg
  | 0, _, σ => σ
  | n + 1, rest, σ => wrL i ow n (rest / 10) (u3 (u3 σ 4 i n (rest - rest / 10 * 10)) 5 i n ow)
def fWrite (σ : Sg) (i : Nat) (ow : Int32) (n : Nat) (dg : Int32) : Sg := wrL i ow n dg (u3 σ 3 i 2 (nI n))
def cpPL (i : Nat) (ρ : Sg) (σ : Sg) : Nat → Sg
  | 0 => σ
  | n + 1 => u3 (u3 (cpPL i ρ σ n) 4 i n (ρ 4 i n)) 5 i n (ρ 5 i n)
def fCopyP (σ ρ : Sg) (i n : Nat) : Sg := cpPL i ρ (u3 σ 3 i 2 (ρ 3 i 2)) n
theorem cpPL_k {i : Nat} {ρ σ : Sg} {k a b : Nat} (h4 : k ≠ 4) (h5 : k ≠ 5) : ∀ n, cpPL i ρ σ n k a b = σ k a b
  | 0 => rfl
  | n + 1 => by
    show u3 (u3 (cpPL i ρ σ n) 4 i n (ρ 4 i n)) 5 i n (ρ 5 i n) k a b = σ k a b
    rw [u3_ne (fun z => h5 z.1), u3_ne (fun z => h4 z.1)]
    exact cpPL_k h4 h5 n
def laL (σ : Sg) (i n : Nat) : Nat → Nat → Int32 → Int32
  | 0, _, _ => 1
  | k + 1, p, acc => if acc &&& (1 <<< ((nI p + σ 4 i p - (nI p + σ 4 i p) / nI n * nI n) &&& 31)) = 0 then laL σ i n k (p + 1) (acc ||| (1 <<< ((nI p + σ 4 i p - (nI p + σ 4 i p) / nI n * nI n) &&& 31))) else 0
def fLands (σ : Sg) (i n : Nat) : Int32 := laL σ i n n 0 0
def fAsks (σ : Sg) (i n : Nat) : Int32 := if sI (σ 4 i) n - sI (σ 4 i) n / nI n * nI n = 0 then sI (σ 4 i) n / nI n else -1
def reL (σ : Sg) (i d : Nat) : Nat → Nat → Int32
  | 0, _ => 1
  | k + 1, p => if σ 4 i p = σ 4 i (p - d) ∧ σ 5 i p = σ 5 i (p - d) then reL σ i d k (p + 1) else 0
def fRep (σ : Sg) (i n d : Nat) : Int32 := reL σ i d (n - d) d
def shL (σ : Sg) (i n : Nat) : Nat → Nat → Nat
  | 0, p => p
  | k + 1, p => if n % p = 0 ∧ fRep σ i n p = 1 then p else shL σ i n k (p + 1)
def fShort (σ : Sg) (i n : Nat) : Nat := shL σ i n (n - 1) 1
def adL (σ : Sg) (i : Nat) (d : Int64) : Nat → Int64
  | 0 => d
  | n + 1 => (adL σ i d n * 31 + (σ 4 i n).toInt64) * 31 + (σ 5 i n).toInt64
-- a thing
def fDown (σ : Sg) (k : Nat) (b : Int32) : Int32 := if σ 8 k 1 = 2 ∧ σ 8 k 4 = b then 1 else 0
def fAir (kd h : Int32) : Int32 := if kd = 1 ∧ ¬ h < 3 then h - 1 else if kd = 2 ∧ ¬ h < 5 then h + 1 else h
def fFly (σ : Sg) (k : Nat) (to h b : Int32) : Sg := u3 (u3 (u3 (u3 (u3 (u3 σ 8 k 1 2) 8 k 2 to) 8 k 3 (-1)) 8 k 5 h) 8 k 4 (b + fAir (σ 8 k 0) h)) 8 k 6 (σ 8 k 6 + 1)
def fFall (σ : Sg) (k : Nat) : Sg := u3 (u3 (u3 σ 8 k 1 (if σ 8 k 0 = 2 then 3 else 0)) 8 k 2 (-1)) 8 k 7 (σ 8 k 7 + 1)
def fCopyT (σ ρ : Sg) (k : Nat) : Sg := u3 (u3 (u3 (u3 (u3 (u3 (u3 (u3 σ 8 k 0 (ρ 8 k 0)) 8 k 1 (ρ 8 k 1)) 8 k 2 (ρ 8 k 2)) 8 k 3 (ρ 8 k 3)) 8 k 4 (ρ 8 k 4)) 8 k 5 (ρ 8 k 5)) 8 k 6 (ρ 8 k 6)) 8 k 7 (ρ 8 k 7)
-- a juggler
def fCopyJ (σ ρ : Sg) (i n : Nat) : Sg := u3 (u3 (u3 (u3 (u3 (fCopyP σ ρ i n) 6 i 0 (ρ 6 i 0)) 6 i 1 (ρ 6 i 1)) 2 i 2 (ρ 2 i 2)) 2 i 3 (ρ 2 i 3)) 2 i 4 (ρ 2 i 4)
def fCan (σ : Sg) (i : Nat) (h : Int32) (hd : Nat) : Int32 := if σ 6 i hd = -1 ∧ ¬ σ 2 i 2 + 2 < h then 1 else 0
def fMiss (σ : Sg) (i k : Nat) : Sg := fFall (if σ 8 k 0 = 1 then u3 σ 2 i 3 (σ 2 i 3 + 1) else σ) k
def fHeld (σ : Sg) (i : Nat) : Int32 := cI (fun h => !decide (σ 6 i h = -1)) 2
-- a ring
def cpJL (ρ : Sg) (ln : Nat → Nat) (σ : Sg) : Nat → Sg
  | 0 => σ
  | n + 1 => fCopyJ (cpJL ρ ln σ n) ρ n (ln n)
def cpTL (ρ : Sg) (σ : Sg) : Nat → Sg
  | 0 => σ
  | n + 1 => fCopyT (cpTL ρ σ n) ρ n
def fCopyR (σ ρ : Sg) (jc tc : Nat) (ln : Nat → Nat) : Sg := cpTL ρ (cpJL ρ ln (u3 (u3 (u3 σ 0 0 2 (ρ 0 0 2)) 0 0 3 (ρ 0 0 3)) 0 0 4 (ρ 0 0 4)) jc) tc
def fHasJ (σ : Sg) (x : Int32) : Int32 := if ¬ x < 0 ∧ ¬ σ 0 0 2 ≤ x then 1 else 0
def fHasT (σ : Sg) (x : Int32) : Int32 := if ¬ x < 0 ∧ ¬ σ 0 0 3 ≤ x then 1 else 0
def fAddJ (σ : Sg) (j : Nat) (sk : Int32) : Sg := u3 (fWrite (u3 σ 2 j 2 sk) j (nI j) 1 0) 0 0 2 (nI j + 1)
def fAddT (σ : Sg) (k : Nat) (kd : Int32) : Sg := u3 (u3 σ 8 k 0 kd) 0 0 3 (nI k + 1)
def fPut (σ : Sg) (k : Nat) (to : Int32) (j hd : Nat) : Sg := u3 (u3 (u3 (u3 σ 6 j hd (nI k)) 8 k 1 1) 8 k 2 to) 8 k 3 (nI hd)
/-- one thing that may come down -/
def fDown1 (σ : Sg) (k hd : Nat) : Sg := if fDown σ k (σ 0 0 4) = 0 then σ else if fHasJ σ (σ 8 k 2) = 0 then σ else if fCan σ (σ 8 k 2).toNatClampNeg (σ 8 k 5) hd = 0 then fMiss σ (σ 8 k 2).toNatClampNeg k else u3 (fPut σ k (σ 8 k 2) (σ 8 k 2).toNatClampNeg hd) 2 (σ 8 k 2).toNatClampNeg 4 (fPut σ k (σ 8 k 2) (σ 8 k 2).toNatClampNeg hd 2 (σ 8 k 2).toNatClampNeg 4 + 1)
def fDown1r (σ : Sg) (k hd : Nat) : Int32 := if fDown σ k (σ 0 0 4) = 0 then 0 else if fHasJ σ (σ 8 k 2) = 0 then 0 else if fCan σ (σ 8 k 2).toNatClampNeg (σ 8 k 5) hd = 0 then 1 else 0
def dnL (hd : Nat) (σ : Sg) : Nat → Sg
  | 0 => σ
  | n + 1 => fDown1 (dnL hd σ n) n hd
def dnR (hd : Nat) (σ : Sg) : Nat → Int32
  | 0 => 0
  | n + 1 => dnR hd σ n + fDown1r (dnL hd σ n) n hd
/-- a juggler's throw, with the pattern's place q -/
def fThrow (σ : Sg) (j q hd : Nat) : Sg := if fHasT σ (σ 6 j hd) = 0 then σ else if σ 4 j q ≤ 0 then σ else u3 (fFly σ (σ 6 j hd).toNatClampNeg (σ 5 j q) (σ 4 j q) (σ 0 0 4)) 6 j hd (-1)
def thL (b : Nat) (ln : Nat → Nat) (σ : Sg) : Nat → Sg
  | 0 => σ
  | n + 1 => fThrow (thL b ln σ n) n (b % ln n) (b % 2)
def fBeat (σ : Sg) (b jc tc : Nat) (ln : Nat → Nat) : Sg := u3 (thL b ln (dnL (b % 2) σ tc) jc) 0 0 4 (nI (b + 1))
def fBeatR (σ : Sg) (b tc : Nat) : Int32 := dnR (b % 2) σ tc
def plL (b jc tc : Nat) (ln : Nat → Nat) (σ : Sg) : Nat → Sg
  | 0 => σ
  | n + 1 => fBeat (plL b jc tc ln σ n) (b + n) jc tc ln
def plR (b jc tc : Nat) (ln : Nat → Nat) (σ : Sg) : Nat → Int32
  | 0 => 0
  | n + 1 => plR b jc tc ln σ n + fBeatR (plL b jc tc ln σ n) (b + n) tc
/-- what a ring keeps to -/
def Shp (σ : Sg) (jc tc : Nat) (ln : Nat → Nat) : Prop := jc ≤ 4 ∧ tc ≤ 12 ∧ σ 0 0 2 = nI jc ∧ σ 0 0 3 = nI tc ∧ ∀ i, i < jc → 1 ≤ ln i ∧ ln i ≤ 8 ∧ σ 3 i 2 = nI (ln i)
theorem Shp_of {σ τ : Sg} {jc tc : Nat} {ln : Nat → Nat} (h : Shp σ jc tc ln) (hk : ∀ a b c, a = 3 ∨ (a = 0 ∧ c ≠ 4) → τ a b c = σ a b c) : Shp τ jc tc ln := ⟨h.1, h.2.1, (hk _ _ _ (Or.inr ⟨rfl, by decide⟩)).trans h.2.2.1, (hk _ _ _ (Or.inr ⟨rfl, by decide⟩)).trans h.2.2.2.1, fun i hi => ⟨(h.2.2.2.2 i hi).1, (h.2.2.2.2 i hi).2.1, (hk _ _ _ (Or.inl rfl)).trans (h.2.2.2.2 i hi).2.2⟩⟩
theorem fFall_k {σ : Sg} {k a b c : Nat} (h : a ≠ 8) : fFall σ k a b c = σ a b c := by
  unfold fFall
  rw [u3_ne (fun z => h z.1), u3_ne (fun z => h z.1), u3_ne (fun z => h z.1)]
theorem fFly_k {σ : Sg} {k a b c : Nat} {to h0 bt : Int32} (h : a ≠ 8) : fFly σ k to h0 bt a b c = σ a b c := by
  unfold fFly
  rw [u3_ne (fun z => h z.1), u3_ne (fun z => h z.1), u3_ne (fun z => h z.1), u3_ne (fun z => h z.1), u3_ne (fun z => h z.1), u3_ne (fun z => h z.1)]
theorem fMiss_k {σ : Sg} {i k a b c : Nat} (h2 : a ≠ 2) (h8 : a ≠ 8) : fMiss σ i k a b c = σ a b c := by
  unfold fMiss
  rw [fFall_k h8]
  split
  · exact u3_ne (fun z => h2 z.1)
  · rfl
theorem fPut_k {σ : Sg} {k j hd a b c : Nat} {to : Int32} (h6 : a ≠ 6) (h8 : a ≠ 8) : fPut σ k to j hd a b c = σ a b c := by
  unfold fPut
  rw [u3_ne (fun z => h8 z.1), u3_ne (fun z => h8 z.1), u3_ne (fun z => h8 z.1), u3_ne (fun z => h6 z.1)]
theorem fDown1_k {σ : Sg} {k hd a b c : Nat} (h2 : a ≠ 2) (h6 : a ≠ 6) (h8 : a ≠ 8) : fDown1 σ k hd a b c = σ a b c := by
  unfold fDown1
  split
  · rfl
  · split
    · rfl
    · split
      · exact fMiss_k h2 h8
      · rw [u3_ne (fun z => h2 z.1)]; exact fPut_k h6 h8
theorem dnL_k {σ : Sg} {hd a b c : Nat} (h2 : a ≠ 2) (h6 : a ≠ 6) (h8 : a ≠ 8) : ∀ n, dnL hd σ n a b c = σ a b c
  | 0 => rfl
  | n + 1 => (fDown1_k h2 h6 h8).trans (dnL_k h2 h6 h8 n)
theorem fThrow_k {σ : Sg} {j q hd a b c : Nat} (h6 : a ≠ 6) (h8 : a ≠ 8) : fThrow σ j q hd a b c = σ a b c := by
  unfold fThrow
  split
  · rfl
  · split
    · rfl
    · rw [u3_ne (fun z => h6 z.1)]; exact fFly_k h8
theorem thL_k {σ : Sg} {bt : Nat} {ln : Nat → Nat} {a b c : Nat} (h6 : a ≠ 6) (h8 : a ≠ 8) : ∀ n, thL bt ln σ n a b c = σ a b c
  | 0 => rfl
  | n + 1 => (fThrow_k h6 h8).trans (thL_k h6 h8 n)
theorem fBeat_k {σ : Sg} {bt jc tc : Nat} {ln : Nat → Nat} {a b c : Nat} (h2 : a ≠ 2) (h6 : a ≠ 6) (h8 : a ≠ 8) (h0 : ¬ (a = 0 ∧ c = 4)) : fBeat σ bt jc tc ln a b c = σ a b c := by
  unfold fBeat
  rw [u3_ne (fun z => h0 ⟨z.1, z.2.2⟩), thL_k h6 h8, dnL_k h2 h6 h8]
theorem fBeat_b {σ : Sg} {bt jc tc : Nat} {ln : Nat → Nat} : fBeat σ bt jc tc ln 0 0 4 = nI (bt + 1) := u3_at _ _ _ _ _
theorem plL_k {σ : Sg} {bt jc tc : Nat} {ln : Nat → Nat} {a b c : Nat} (h2 : a ≠ 2) (h6 : a ≠ 6) (h8 : a ≠ 8) (h0 : ¬ (a = 0 ∧ c = 4)) : ∀ n, plL bt jc tc ln σ n a b c = σ a b c
  | 0 => rfl
  | n + 1 => (fBeat_k h2 h6 h8 h0).trans (plL_k h2 h6 h8 h0 n)
theorem plL_b {σ : Sg} {bt jc tc : Nat} {ln : Nat → Nat} (h : σ 0 0 4 = nI bt) : ∀ n, plL bt jc tc ln σ n 0 0 4 = nI (bt + n)
  | 0 => h
  | n + 1 => fBeat_b
theorem Shp_dn {σ : Sg} {jc tc hd : Nat} {ln : Nat → Nat} (h : Shp σ jc tc ln) (n : Nat) : Shp (dnL hd σ n) jc tc ln := Shp_of h (fun a b c z => dnL_k (by omega) (by omega) (by omega) n)
theorem Shp_th {σ : Sg} {jc tc b : Nat} {ln ln' : Nat → Nat} (h : Shp σ jc tc ln) (n : Nat) : Shp (thL b ln' σ n) jc tc ln := Shp_of h (fun a b c z => thL_k (by omega) (by omega) n)
theorem Shp_pl {σ : Sg} {jc tc b : Nat} {ln : Nat → Nat} (h : Shp σ jc tc ln) (n : Nat) : Shp (plL b jc tc ln σ n) jc tc ln := Shp_of h (fun a b c z => plL_k (by omega) (by omega) (by omega) (by omega) n)
def fTellT (σ : Sg) (k : Nat) : Nat → Int32
  | 0 => σ 8 k 0
  | 1 => σ 8 k 1
  | 2 => σ 8 k 2
  | 3 => σ 8 k 3
  | 4 => if σ 8 k 1 = 2 then σ 8 k 4 - σ 0 0 4 else -1
  | 5 => σ 8 k 6
  | _ => σ 8 k 7
def fFlies (σ : Sg) (tc : Nat) (j : Int32) : Int32 := cI (fun k => decide (σ 8 k 1 = 2) && decide (σ 8 k 2 = j)) tc
def fIn (σ : Sg) (tc : Nat) (x : Int32) : Int32 := cI (fun k => decide (σ 8 k 1 = x)) tc
def fTellJ (σ : Sg) (tc i : Nat) : Nat → Int32
  | 0 => σ 2 i 2
  | 1 => σ 2 i 3
  | 2 => σ 6 i 0
  | 3 => σ 6 i 1
  | 4 => σ 3 i 2
  | 5 => fFlies σ tc (nI i)
  | _ => σ 2 i 4
def fTellC (σ : Sg) (tc : Nat) : Nat → Int32
  | 0 => σ 0 0 4
  | 1 => σ 0 0 2
  | 2 => σ 0 0 3
  | 3 => fIn σ tc 1
  | 4 => fIn σ tc 2
  | 5 => fIn σ tc 0
  | 6 => fIn σ tc 3
  | 7 => sI (fun k => σ 8 k 7) tc
  | _ => sI (fun k => σ 8 k 6) tc
theorem cpTL_k {ρ σ : Sg} {a b c : Nat} (h8 : a ≠ 8) : ∀ n, cpTL ρ σ n a b c = σ a b c
  | 0 => rfl
  | n + 1 => by
    show fCopyT (cpTL ρ σ n) ρ n a b c = σ a b c
    unfold fCopyT
    rw [u3_ne (fun z => h8 z.1), u3_ne (fun z => h8 z.1), u3_ne (fun z => h8 z.1), u3_ne (fun z => h8 z.1), u3_ne (fun z => h8 z.1), u3_ne (fun z => h8 z.1), u3_ne (fun z => h8 z.1), u3_ne (fun z => h8 z.1)]
    exact cpTL_k h8 n
theorem fCopyJ_k {σ ρ : Sg} {i n a b c : Nat} (h : a = 0 ∨ a = 8) : fCopyJ σ ρ i n a b c = σ a b c := by
  unfold fCopyJ fCopyP
  rw [u3_ne (by omega), u3_ne (by omega), u3_ne (by omega), u3_ne (by omega), u3_ne (by omega), cpPL_k (by omega) (by omega), u3_ne (by omega)]
theorem cpJL_k {ρ σ : Sg} {ln : Nat → Nat} {a b c : Nat} (h : a = 0 ∨ a = 8) : ∀ n, cpJL ρ ln σ n a b c = σ a b c
  | 0 => rfl
  | n + 1 => (fCopyJ_k h).trans (cpJL_k h n)
theorem fHasJ_ix {σ : Sg} {x : Int32} {jc : Nat} (hJ : σ 0 0 2 = nI jc) (h4 : jc ≤ 4) (h : ¬ fHasJ σ x = 0) : Ix x x.toNatClampNeg jc := by
  unfold fHasJ at h
  split at h
  · rename_i z
    rw [hJ] at z
    exact Ix_of z.1 z.2 (by omega)
  · exact absurd rfl h
theorem fHasT_ix {σ : Sg} {x : Int32} {tc : Nat} (hT : σ 0 0 3 = nI tc) (h12 : tc ≤ 12) (h : ¬ fHasT σ x = 0) : Ix x x.toNatClampNeg tc := by
  unfold fHasT at h
  split at h
  · rename_i z
    rw [hT] at z
    exact Ix_of z.1 z.2 (by omega)
  · exact absurd rfl h
theorem wrL_k {i a b c : Nat} {ow : Int32} (h4 : a ≠ 4) (h5 : a ≠ 5) : ∀ (n : Nat) (dg : Int32) (σ : Sg), wrL i ow n dg σ a b c = σ a b c
  | 0, _, _ => rfl
  | n + 1, dg, σ => by
    show wrL i ow n (dg / 10) (u3 (u3 σ 4 i n (dg - dg / 10 * 10)) 5 i n ow) a b c = σ a b c
    rw [wrL_k h4 h5 n, u3_ne (fun z => h5 z.1), u3_ne (fun z => h4 z.1)]
theorem fWrite_k {σ : Sg} {i n a b c : Nat} {ow dg : Int32} (h3 : a ≠ 3) (h4 : a ≠ 4) (h5 : a ≠ 5) : fWrite σ i ow n dg a b c = σ a b c := by
  unfold fWrite
  rw [wrL_k h4 h5, u3_ne (fun z => h3 z.1)]
end
section
/-! ===== contracts of a pattern, a thing, a juggler ===== -/
abbrev rm_X3_comesDownIn : Room := { frames := 0, cells := 0, slots := 0, locals := 0 }
abbrev rm_X3_beatsInAir : Room := { frames := 0, cells := 0, slots := 0, locals := 0 }
abbrev rm_X3_fly : Room := { frames := 1, cells := 0, slots := 0, locals := 21 }
abbrev rm_X3_fall : Room := { frames := 0, cells := 0, slots := 0, locals := 0 }
abbrev rm_X3_copyFrom : Room := { frames := 0, cells := 0, slots := 0, locals := 0 }
set_option maxHeartbeats 4000000 in
set_option maxRecDepth 100000 in
theorem c_X3_comesDownIn {X : Cx} {l : Launch} (G : Gx X l) {M : Mem} {lf : Lf} {r : Nat} (hr0 : r < 2) {σ : Sg} {k : Nat} (hk : k < 12) (b : Int32) : CI X l yX3_comesDownIn (wsc yX3_comesDownIn cX3_comesDownIn 2 (some .boolean)) rm_X3_comesDownIn [.ref (X.2.1 r 8 k), .int b] (uC M r σ) lf (fDown σ k b) (uC M r σ) lf 0 0 := by
  refine CI_of (lv := [(0, .ref _), (1, .int _)]) G (by decide) (Nat.le_of_ble_eq_true rfl) rfl (fun p e s m args below meth c F hr => ?_)
  have F : Fx p l s m args meth c cX3_comesDownIn 2 RX3 X := F
  refine v_aload_n F dX3_comesDownIn_0 rfl 0 rfl ?_
  refine v_get F (id_R hr0 (by decide) hk) (heR hr0) rfl uw_X3 1 (by decide) rfl rfl wf_X3_9 dX3_comesDownIn_1 ?_
  refine v_iconst F (v := 2) dX3_comesDownIn_4 (by decide) ?_
  refine v_icmp_ne F (tgt := 20) dX3_comesDownIn_5 (by decide) (fun c5 => ?_) (fun c5 => ?_)
  · have := c5
    refine v_iconst F (v := 0) dX3_comesDownIn_20 (by decide) ?_
    refine v_zret F hr dX3_comesDownIn_21 rfl ?_ rfl rfl
    simp_all [fDown]
  · have := c5
    refine v_aload_n F dX3_comesDownIn_8 rfl 0 rfl ?_
    refine v_get F (id_R hr0 (by decide) hk) (heR hr0) rfl uw_X3 4 (by decide) rfl rfl wf_X3_24 dX3_comesDownIn_9 ?_
    refine v_iload_n F dX3_comesDownIn_12 rfl 1 rfl ?_
    refine v_icmp_ne F (tgt := 20) dX3_comesDownIn_13 (by decide) (fun c13 => ?_) (fun c13 => ?_)
    · have := c13
      refine v_iconst F (v := 0) dX3_comesDownIn_20 (by decide) ?_
      refine v_zret F hr dX3_comesDownIn_21 rfl ?_ rfl rfl
      simp_all [fDown]
    · have := c13
      refine v_iconst F (v := 1) dX3_comesDownIn_16 (by decide) ?_
      refine v_goto F (tgt := 21) dX3_comesDownIn_17 (by decide) ?_
      refine v_zret F hr dX3_comesDownIn_21 rfl ?_ rfl rfl
      simp_all [fDown]
set_option maxHeartbeats 4000000 in
set_option maxRecDepth 100000 in
theorem c_X3_beatsInAir {X : Cx} {l : Launch} (G : Gx X l) {M : Mem} {lf : Lf} {r : Nat} (hr0 : r < 2) {σ : Sg} {k : Nat} (hk : k < 12) (h : Int32) : CI X l yX3_beatsInAir (wsc yX3_beatsInAir cX3_beatsInAir 2 (some .int)) rm_X3_beatsInAir [.ref (X.2.1 r 8 k), .int h] (uC M r σ) lf (fAir (σ 8 k 0) h) (uC M r σ) lf 0 0 := by
  refine CI_of (lv := [(0, .ref _), (1, .int _)]) G (by decide) (Nat.le_of_ble_eq_true rfl) rfl (fun p e s m args below meth c F hr => ?_)
  have F : Fx p l s m args meth c cX3_beatsInAir 2 RX3 X := F
  refine v_aload_n F dX3_beatsInAir_0 rfl 0 rfl ?_
  refine v_get F (id_R hr0 (by decide) hk) (heR hr0) rfl uw_X3 0 (by decide) rfl rfl wf_X3_21 dX3_beatsInAir_1 ?_
  refine v_iconst F (v := 1) dX3_beatsInAir_4 (by decide) ?_
  refine v_icmp_ne F (tgt := 17) dX3_beatsInAir_5 (by decide) (fun c5 => ?_) (fun c5 => ?_)
  · have := c5
    refine v_aload_n F dX3_beatsInAir_17 rfl 0 rfl ?_
    refine v_get F (id_R hr0 (by decide) hk) (heR hr0) rfl uw_X3 0 (by decide) rfl rfl wf_X3_21 dX3_beatsInAir_18 ?_
    refine v_iconst F (v := 2) dX3_beatsInAir_21 (by decide) ?_
    refine v_icmp_ne F (tgt := 34) dX3_beatsInAir_22 (by decide) (fun c22 => ?_) (fun c22 => ?_)
    · have := c22
      refine v_iload_n F dX3_beatsInAir_34 rfl 1 rfl ?_
      refine v_iret F hr dX3_beatsInAir_35 ?_ rfl rfl
      simp_all [fAir]
    · have := c22
      refine v_iload_n F dX3_beatsInAir_25 rfl 1 rfl ?_
      refine v_iconst F (v := 5) dX3_beatsInAir_26 (by decide) ?_
      refine v_icmp_lt F (tgt := 34) dX3_beatsInAir_27 (by decide) (fun c27 => ?_) (fun c27 => ?_)
      · have := c27
        refine v_iload_n F dX3_beatsInAir_34 rfl 1 rfl ?_
        refine v_iret F hr dX3_beatsInAir_35 ?_ rfl rfl
        simp_all [fAir]
      · have := c27
        refine v_iload_n F dX3_beatsInAir_30 rfl 1 rfl ?_
        refine v_iconst F (v := 1) dX3_beatsInAir_31 (by decide) ?_
        refine v_iadd F dX3_beatsInAir_32 ?_
        refine v_iret F hr dX3_beatsInAir_33 ?_ rfl rfl
        simp_all [fAir]
  · have := c5
    refine v_iload_n F dX3_beatsInAir_8 rfl 1 rfl ?_
    refine v_iconst F (v := 3) dX3_beatsInAir_9 (by decide) ?_
    refine v_icmp_lt F (tgt := 17) dX3_beatsInAir_10 (by decide) (fun c10 => ?_) (fun c10 => ?_)
    · have := c10
      refine v_aload_n F dX3_beatsInAir_17 rfl 0 rfl ?_
      refine v_get F (id_R hr0 (by decide) hk) (heR hr0) rfl uw_X3 0 (by decide) rfl rfl wf_X3_21 dX3_beatsInAir_18 ?_
      refine v_iconst F (v := 2) dX3_beatsInAir_21 (by decide) ?_
      refine v_icmp_ne F (tgt := 34) dX3_beatsInAir_22 (by decide) (fun c22 => ?_) (fun c22 => ?_)
      · have := c22
        refine v_iload_n F dX3_beatsInAir_34 rfl 1 rfl ?_
        refine v_iret F hr dX3_beatsInAir_35 ?_ rfl rfl
        simp_all [fAir]
      · have := c22
        refine v_iload_n F dX3_beatsInAir_25 rfl 1 rfl ?_
        refine v_iconst F (v := 5) dX3_beatsInAir_26 (by decide) ?_
        refine v_icmp_lt F (tgt := 34) dX3_beatsInAir_27 (by decide) (fun c27 => ?_) (fun c27 => ?_)
        · have := c27
          refine v_iload_n F dX3_beatsInAir_34 rfl 1 rfl ?_
          refine v_iret F hr dX3_beatsInAir_35 ?_ rfl rfl
          simp_all [fAir]
        · have := c27
          refine v_iload_n F dX3_beatsInAir_30 rfl 1 rfl ?_
          refine v_iconst F (v := 1) dX3_beatsInAir_31 (by decide) ?_
          refine v_iadd F dX3_beatsInAir_32 ?_
          refine v_iret F hr dX3_beatsInAir_33 ?_ rfl rfl
          simp_all [fAir]
    · have := c10
      refine v_iload_n F dX3_beatsInAir_13 rfl 1 rfl ?_
      refine v_iconst F (v := 1) dX3_beatsInAir_14 (by decide) ?_
      refine v_isub F dX3_beatsInAir_15 ?_
      refine v_iret F hr dX3_beatsInAir_16 ?_ rfl rfl
      simp_all [fAir]
set_option maxHeartbeats 4000000 in
set_option maxRecDepth 100000 in
theorem c_X3_fly {X : Cx} {l : Launch} (G : Gx X l) {M : Mem} {lf : Lf} {r : Nat} (hr0 : r < 2) {σ : Sg} {k : Nat} (hk : k < 12) (to h b : Int32) : CV X l yX3_fly (wsc yX3_fly cX3_fly 4 none) rm_X3_fly [.ref (X.2.1 r 8 k), .int to, .int h, .int b] (uC M r σ) lf (uC M r (fFly σ k to h b)) lf 0 0 := by
  refine CV_of (lv := [(0, .ref _), (1, .int _), (2, .int _), (3, .int _)]) G (by decide) (Nat.le_of_ble_eq_true rfl) rfl (fun p e s m args below meth c F hr => ?_)
  have F : Fx p l s m args meth c cX3_fly 4 RX3 X := F
  refine v_aload_n F dX3_fly_0 rfl 0 rfl ?_
  refine v_iconst F (v := 2) dX3_fly_1 (by decide) ?_
  refine v_putC F tyX3 tyX3_ok nmX3 (id_R hr0 (by decide) hk) (celD_R hr0) rfl uw_X3 1 (by decide) rfl rfl (by decide +kernel) (celD_R hr0) (Nat.le_of_ble_eq_true rfl) wf_X3_9 dX3_fly_2 ?_
  refine v_aload_n F dX3_fly_5 rfl 0 rfl ?_
  refine v_iload_n F dX3_fly_6 rfl 1 rfl ?_
  refine v_putC F tyX3 tyX3_ok nmX3 (id_R hr0 (by decide) hk) (celD_R hr0) rfl uw_X3 2 (by decide) rfl rfl (by decide +kernel) (celD_R hr0) (Nat.le_of_ble_eq_true rfl) wf_X3_15 dX3_fly_7 ?_
  refine v_aload_n F dX3_fly_10 rfl 0 rfl ?_
  refine v_iconst F (v := (-1)) dX3_fly_11 (by decide) ?_
  refine v_putC F tyX3 tyX3_ok nmX3 (id_R hr0 (by decide) hk) (celD_R hr0) rfl uw_X3 3 (by decide) rfl rfl (by decide +kernel) (celD_R hr0) (Nat.le_of_ble_eq_true rfl) wf_X3_18 dX3_fly_12 ?_
  refine v_aload_n F dX3_fly_15 rfl 0 rfl ?_
  refine v_iload_n F dX3_fly_16 rfl 2 rfl ?_
  refine v_putC F tyX3 tyX3_ok nmX3 (id_R hr0 (by decide) hk) (celD_R hr0) rfl uw_X3 5 (by decide) rfl rfl (by decide +kernel) (celD_R hr0) (Nat.le_of_ble_eq_true rfl) wf_X3_27 dX3_fly_17 ?_
  refine v_aload_n F dX3_fly_20 rfl 0 rfl ?_
  refine v_iload_n F dX3_fly_21 rfl 3 rfl ?_
  refine v_aload_n F dX3_fly_22 rfl 0 rfl ?_
  refine v_iload_n F dX3_fly_23 rfl 2 rfl ?_
  refine v_callVi F (As := [_]) (rest := [.int _, .ref _]) rfl (c_X3_beatsInAir G hr0 hk _) (Rv_T hr0 hk) wm_X3_36 rfl ⟨rfl, rfl, Nat.le_of_ble_eq_true rfl, Nat.le_of_ble_eq_true rfl, Nat.le_of_ble_eq_true rfl, Nat.le_of_ble_eq_true rfl, Nat.le_of_ble_eq_true rfl⟩ dX3_fly_24 ?_
  refine v_iadd F dX3_fly_27 ?_
  refine v_putC F tyX3 tyX3_ok nmX3 (id_R hr0 (by decide) hk) (celD_R hr0) rfl uw_X3 4 (by decide) rfl rfl (by decide +kernel) (celD_R hr0) (Nat.le_of_ble_eq_true rfl) wf_X3_24 dX3_fly_28 ?_
  refine v_aload_n F dX3_fly_31 rfl 0 rfl ?_
  refine v_dup F dX3_fly_32 rfl ?_
  refine v_get F (id_R hr0 (by decide) hk) (heR hr0) rfl uw_X3 6 (by decide) rfl rfl wf_X3_30 dX3_fly_33 ?_
  refine v_iconst F (v := 1) dX3_fly_36 (by decide) ?_
  refine v_iadd F dX3_fly_37 ?_
  refine v_putC F tyX3 tyX3_ok nmX3 (id_R hr0 (by decide) hk) (celD_R hr0) rfl uw_X3 6 (by decide) rfl rfl (by decide +kernel) (celD_R hr0) (Nat.le_of_ble_eq_true rfl) wf_X3_30 dX3_fly_38 ?_
  refine v_vret F hr dX3_fly_41 ?_ rfl
  simp [fFly, u3_eq]
set_option maxHeartbeats 4000000 in
set_option maxRecDepth 100000 in
theorem c_X3_fall {X : Cx} {l : Launch} (G : Gx X l) {M : Mem} {lf : Lf} {r : Nat} (hr0 : r < 2) {σ : Sg} {k : Nat} (hk : k < 12) : CV X l yX3_fall (wsc yX3_fall cX3_fall 1 none) rm_X3_fall [.ref (X.2.1 r 8 k)] (uC M r σ) lf (uC M r (fFall σ k)) lf 0 0 := by
  refine CV_of (lv := [(0, .ref _)]) G (by decide) (Nat.le_of_ble_eq_true rfl) rfl (fun p e s m args below meth c F hr => ?_)
  have F : Fx p l s m args meth c cX3_fall 1 RX3 X := F
  refine v_aload_n F dX3_fall_0 rfl 0 rfl ?_
  refine v_aload_n F dX3_fall_1 rfl 0 rfl ?_
  refine v_get F (id_R hr0 (by decide) hk) (heR hr0) rfl uw_X3 0 (by decide) rfl rfl wf_X3_21 dX3_fall_2 ?_
  refine v_iconst F (v := 2) dX3_fall_5 (by decide) ?_
  refine v_icmp_ne F (tgt := 13) dX3_fall_6 (by decide) (fun c6 => ?_) (fun c6 => ?_)
  · have := c6
    refine v_iconst F (v := 0) dX3_fall_13 (by decide) ?_
    refine v_putC F tyX3 tyX3_ok nmX3 (id_R hr0 (by decide) hk) (celD_R hr0) rfl uw_X3 1 (by decide) rfl rfl (by decide +kernel) (celD_R hr0) (Nat.le_of_ble_eq_true rfl) wf_X3_9 dX3_fall_14 ?_
    refine v_aload_n F dX3_fall_17 rfl 0 rfl ?_
    refine v_iconst F (v := (-1)) dX3_fall_18 (by decide) ?_
    refine v_putC F tyX3 tyX3_ok nmX3 (id_R hr0 (by decide) hk) (celD_R hr0) rfl uw_X3 2 (by decide) rfl rfl (by decide +kernel) (celD_R hr0) (Nat.le_of_ble_eq_true rfl) wf_X3_15 dX3_fall_19 ?_
    refine v_aload_n F dX3_fall_22 rfl 0 rfl ?_
    refine v_dup F dX3_fall_23 rfl ?_
    refine v_get F (id_R hr0 (by decide) hk) (heR hr0) rfl uw_X3 7 (by decide) rfl rfl wf_X3_33 dX3_fall_24 ?_
    refine v_iconst F (v := 1) dX3_fall_27 (by decide) ?_
    refine v_iadd F dX3_fall_28 ?_
    refine v_putC F tyX3 tyX3_ok nmX3 (id_R hr0 (by decide) hk) (celD_R hr0) rfl uw_X3 7 (by decide) rfl rfl (by decide +kernel) (celD_R hr0) (Nat.le_of_ble_eq_true rfl) wf_X3_33 dX3_fall_29 ?_
    refine v_vret F hr dX3_fall_32 ?_ rfl
    simp_all [fFall, u3_eq]
  · have := c6
    refine v_iconst F (v := 3) dX3_fall_9 (by decide) ?_
    refine v_goto F (tgt := 14) dX3_fall_10 (by decide) ?_
    refine v_putC F tyX3 tyX3_ok nmX3 (id_R hr0 (by decide) hk) (celD_R hr0) rfl uw_X3 1 (by decide) rfl rfl (by decide +kernel) (celD_R hr0) (Nat.le_of_ble_eq_true rfl) wf_X3_9 dX3_fall_14 ?_
    refine v_aload_n F dX3_fall_17 rfl 0 rfl ?_
    refine v_iconst F (v := (-1)) dX3_fall_18 (by decide) ?_
    refine v_putC F tyX3 tyX3_ok nmX3 (id_R hr0 (by decide) hk) (celD_R hr0) rfl uw_X3 2 (by decide) rfl rfl (by decide +kernel) (celD_R hr0) (Nat.le_of_ble_eq_true rfl) wf_X3_15 dX3_fall_19 ?_
    refine v_aload_n F dX3_fall_22 rfl 0 rfl ?_
    refine v_dup F dX3_fall_23 rfl ?_
    refine v_get F (id_R hr0 (by decide) hk) (heR hr0) rfl uw_X3 7 (by decide) rfl rfl wf_X3_33 dX3_fall_24 ?_
    refine v_iconst F (v := 1) dX3_fall_27 (by decide) ?_
    refine v_iadd F dX3_fall_28 ?_
    refine v_putC F tyX3 tyX3_ok nmX3 (id_R hr0 (by decide) hk) (celD_R hr0) rfl uw_X3 7 (by decide) rfl rfl (by decide +kernel) (celD_R hr0) (Nat.le_of_ble_eq_true rfl) wf_X3_33 dX3_fall_29 ?_
    refine v_vret F hr dX3_fall_32 ?_ rfl
    simp_all [fFall, u3_eq]
set_option maxHeartbeats 4000000 in
set_option maxRecDepth 100000 in
theorem c_X3_copyFrom {X : Cx} {l : Launch} (G : Gx X l) {M : Mem} {lf : Lf} {r t : Nat} (hr0 : r < 2) (ht0 : t < 2) (htr : t ≠ r) {σ : Sg} {k : Nat} (hk : k < 12) : CV X l yX3_copyFrom (wsc yX3_copyFrom cX3_copyFrom 2 none) rm_X3_copyFrom [.ref (X.2.1 r 8 k), .ref (X.2.1 t 8 k)] (uC M r σ) lf (uC M r (fCopyT σ (M t) k)) lf 0 0 := by
  refine CV_of (lv := [(0, .ref _), (1, .ref _)]) G (by decide) (Nat.le_of_ble_eq_true rfl) rfl (fun p e s m args below meth c F hr => ?_)
  have F : Fx p l s m args meth c cX3_copyFrom 2 RX3 X := F
  refine v_aload_n F dX3_copyFrom_0 rfl 0 rfl ?_
  refine v_aload_n F dX3_copyFrom_1 rfl 1 rfl ?_
  refine v_get F (id_R ht0 (by decide) hk) ((heO htr).trans ((celD_R ht0))) rfl uw_X3 0 (by decide) rfl rfl wf_X3_21 dX3_copyFrom_2 ?_
  refine v_putC F tyX3 tyX3_ok nmX3 (id_R hr0 (by decide) hk) (celD_R hr0) rfl uw_X3 0 (by decide) rfl rfl (by decide +kernel) (celD_R hr0) (Nat.le_of_ble_eq_true rfl) wf_X3_21 dX3_copyFrom_5 ?_
  refine v_aload_n F dX3_copyFrom_8 rfl 0 rfl ?_
  refine v_aload_n F dX3_copyFrom_9 rfl 1 rfl ?_
  refine v_get F (id_R ht0 (by decide) hk) ((heO htr).trans ((celD_R ht0))) rfl uw_X3 1 (by decide) rfl rfl wf_X3_9 dX3_copyFrom_10 ?_
  refine v_putC F tyX3 tyX3_ok nmX3 (id_R hr0 (by decide) hk) (celD_R hr0) rfl uw_X3 1 (by decide) rfl rfl (by decide +kernel) (celD_R hr0) (Nat.le_of_ble_eq_true rfl) wf_X3_9 dX3_copyFrom_13 ?_
  refine v_aload_n F dX3_copyFrom_16 rfl 0 rfl ?_
  refine v_aload_n F dX3_copyFrom_17 rfl 1 rfl ?_
  refine v_get F (id_R ht0 (by decide) hk) ((heO htr).trans ((celD_R ht0))) rfl uw_X3 2 (by decide) rfl rfl wf_X3_15 dX3_copyFrom_18 ?_
  refine v_putC F tyX3 tyX3_ok nmX3 (id_R hr0 (by decide) hk) (celD_R hr0) rfl uw_X3 2 (by decide) rfl rfl (by decide +kernel) (celD_R hr0) (Nat.le_of_ble_eq_true rfl) wf_X3_15 dX3_copyFrom_21 ?_
  refine v_aload_n F dX3_copyFrom_24 rfl 0 rfl ?_
  refine v_aload_n F dX3_copyFrom_25 rfl 1 rfl ?_
  refine v_get F (id_R ht0 (by decide) hk) ((heO htr).trans ((celD_R ht0))) rfl uw_X3 3 (by decide) rfl rfl wf_X3_18 dX3_copyFrom_26 ?_
  refine v_putC F tyX3 tyX3_ok nmX3 (id_R hr0 (by decide) hk) (celD_R hr0) rfl uw_X3 3 (by decide) rfl rfl (by decide +kernel) (celD_R hr0) (Nat.le_of_ble_eq_true rfl) wf_X3_18 dX3_copyFrom_29 ?_
  refine v_aload_n F dX3_copyFrom_32 rfl 0 rfl ?_
  refine v_aload_n F dX3_copyFrom_33 rfl 1 rfl ?_
  refine v_get F (id_R ht0 (by decide) hk) ((heO htr).trans ((celD_R ht0))) rfl uw_X3 4 (by decide) rfl rfl wf_X3_24 dX3_copyFrom_34 ?_
  refine v_putC F tyX3 tyX3_ok nmX3 (id_R hr0 (by decide) hk) (celD_R hr0) rfl uw_X3 4 (by decide) rfl rfl (by decide +kernel) (celD_R hr0) (Nat.le_of_ble_eq_true rfl) wf_X3_24 dX3_copyFrom_37 ?_
  refine v_aload_n F dX3_copyFrom_40 rfl 0 rfl ?_
  refine v_aload_n F dX3_copyFrom_41 rfl 1 rfl ?_
  refine v_get F (id_R ht0 (by decide) hk) ((heO htr).trans ((celD_R ht0))) rfl uw_X3 5 (by decide) rfl rfl wf_X3_27 dX3_copyFrom_42 ?_
  refine v_putC F tyX3 tyX3_ok nmX3 (id_R hr0 (by decide) hk) (celD_R hr0) rfl uw_X3 5 (by decide) rfl rfl (by decide +kernel) (celD_R hr0) (Nat.le_of_ble_eq_true rfl) wf_X3_27 dX3_copyFrom_45 ?_
  refine v_aload_n F dX3_copyFrom_48 rfl 0 rfl ?_
  refine v_aload_n F dX3_copyFrom_49 rfl 1 rfl ?_
  refine v_get F (id_R ht0 (by decide) hk) ((heO htr).trans ((celD_R ht0))) rfl uw_X3 6 (by decide) rfl rfl wf_X3_30 dX3_copyFrom_50 ?_
  refine v_putC F tyX3 tyX3_ok nmX3 (id_R hr0 (by decide) hk) (celD_R hr0) rfl uw_X3 6 (by decide) rfl rfl (by decide +kernel) (celD_R hr0) (Nat.le_of_ble_eq_true rfl) wf_X3_30 dX3_copyFrom_53 ?_
  refine v_aload_n F dX3_copyFrom_56 rfl 0 rfl ?_
  refine v_aload_n F dX3_copyFrom_57 rfl 1 rfl ?_
  refine v_get F (id_R ht0 (by decide) hk) ((heO htr).trans ((celD_R ht0))) rfl uw_X3 7 (by decide) rfl rfl wf_X3_33 dX3_copyFrom_58 ?_
  refine v_putC F tyX3 tyX3_ok nmX3 (id_R hr0 (by decide) hk) (celD_R hr0) rfl uw_X3 7 (by decide) rfl rfl (by decide +kernel) (celD_R hr0) (Nat.le_of_ble_eq_true rfl) wf_X3_33 dX3_copyFrom_61 ?_
  exact v_vret F hr dX3_copyFrom_64 rfl rfl
abbrev rm_X1_write : Room := { frames := 0, cells := 0, slots := 0, locals := 0 }
abbrev rm_X1_copyFrom : Room := { frames := 0, cells := 0, slots := 0, locals := 0 }
abbrev rm_X1_landsApart : Room := { frames := 0, cells := 0, slots := 0, locals := 0 }
abbrev rm_X1_ballsAsked : Room := { frames := 0, cells := 0, slots := 0, locals := 0 }
abbrev rm_X1_repeatsAfter : Room := { frames := 0, cells := 0, slots := 0, locals := 0 }
abbrev rm_X1_addTo : Room := { frames := 0, cells := 0, slots := 0, locals := 0 }
abbrev rm_J9_floorMod_7cf53 : Room := { frames := 0, cells := 0, slots := 0, locals := 0 }
abbrev rm_X1_placeIn : Room := { frames := 1, cells := 0, slots := 0, locals := 22 }
abbrev rm_X1_shortestLength : Room := { frames := 1, cells := 0, slots := 0, locals := 23 }
section RP
variable {p : Program} {l : Launch} {e : Env} {R : Room} {s : State} {m : MethodId} {args : Array Value} {below : List Frame} {meth : Method} {c : Code} {Q : State → Prop} {X : Cx} {nL : Nat} {ex : va_W} {M : Mem} {lf : Lf} {cells slots : Nat}
set_option maxHeartbeats 4000000 in
set_option maxRecDepth 100000 in
theorem L_X1_write (F : Fx p l s m args meth c cX1_write 6 RX1 X) {r : Nat} (hr0 : r < 2) {i : Nat} (hi : i < 4) {ow dg : Int32} {n0 : Nat} {τ : Sg} (K : ∀ (rest : Int32) (pl : Int32), V p l e R s m args below meth c Q X 6 ex (uC M r τ) lf cells slots 54 [(5, .int pl), (4, .int rest), (0, .ref (X.2.1 r 3 i)), (1, .int ow), (2, .int (nI n0)), (3, .int dg)] []) : ∀ (n : Nat), n ≤ 8 → ∀ (σ : Sg) (rest : Int32), wrL i ow n rest σ = τ → V p l e R s m args below meth c Q X 6 ex (uC M r σ) lf cells slots 16 [(5, .int (nI n - 1)), (4, .int rest), (0, .ref (X.2.1 r 3 i)), (1, .int ow), (2, .int (nI n0)), (3, .int dg)] [] := by
  intro n
  induction n with
  | zero =>
    intro hn8 σ rest hτ
    subst hτ
    refine v_iload F dX1_write_16 0 rfl ?_
    refine v_if_lt F (tgt := 54) dX1_write_18 (by decide) (fun c18 => ?_) (fun h => absurd ((by decide : (nI 0 - 1 : Int32) < 0)) h)
    exact K _ _
  | succ n ih =>
    intro hn8 σ rest hτ
    have e1 : nI (n + 1) - 1 = nI n := nI_pred n
    rw [e1]
    refine v_iload F dX1_write_16 0 rfl ?_
    refine v_if_lt F (tgt := 54) dX1_write_18 (by decide) (fun h => absurd h (nI_pos (by omega))) (fun c18 => ?_)
    refine v_aload_n F dX1_write_21 rfl 2 rfl ?_
    refine v_get F (id_R hr0 (by decide) hi) (heR hr0) rfl uw_X1 0 (by decide) rfl rfl wf_X1_9 dX1_write_22 ?_
    refine v_iload F dX1_write_25 0 rfl ?_
    refine v_iload F dX1_write_27 1 rfl ?_
    refine v_bipush F (v := 10) dX1_write_29 (by decide) ?_
    refine v_irem F dX1_write_31 (by decide) ?_
    refine v_iastC F (id_R hr0 (by decide) hi) (celD_R hr0) rfl (n) (Ix_nI (by omega)) (celD_R hr0) dX1_write_32 ?_
    refine v_aload_n F dX1_write_33 rfl 2 rfl ?_
    refine v_get F (id_R hr0 (by decide) hi) (heR hr0) rfl uw_X1 1 (by decide) rfl rfl wf_X1_15 dX1_write_34 ?_
    refine v_iload F dX1_write_37 0 rfl ?_
    refine v_iload_n F dX1_write_39 rfl 3 rfl ?_
    refine v_iastC F (id_R hr0 (by decide) hi) (celD_R hr0) rfl (n) (Ix_nI (by omega)) (celD_R hr0) dX1_write_40 ?_
    refine v_iload F dX1_write_41 1 rfl ?_
    refine v_bipush F (v := 10) dX1_write_43 (by decide) ?_
    refine v_idiv F dX1_write_45 (by decide) ?_
    refine v_istore F dX1_write_46 (by decide) (lv' := [(4, .int _), (5, .int _), (0, .ref _), (1, .int _), (2, .int _), (3, .int _)]) rfl ?_
    refine v_iinc F (k := 1) (nI n - 1) dX1_write_48 rfl (iinc_m1 _) (by decide) (lv' := [(5, .int _), (4, .int _), (0, .ref _), (1, .int _), (2, .int _), (3, .int _)]) rfl ?_
    refine v_goto F (tgt := 16) dX1_write_51 (by decide) ?_
    exact v_locs [0, 1, 2, 3, 4, 5] rfl (ih (by omega) _ _ hτ)
set_option maxHeartbeats 4000000 in
set_option maxRecDepth 100000 in
theorem c_X1_write {X : Cx} {l : Launch} (G : Gx X l) {M : Mem} {lf : Lf} {r : Nat} (hr0 : r < 2) {σ : Sg} {i : Nat} (hi : i < 4) (ow dg : Int32) {n : Nat} (h1 : 1 ≤ n) (h8 : n ≤ 8) : CV X l yX1_write (wsc yX1_write cX1_write 6 none) rm_X1_write [.ref (X.2.1 r 3 i), .int ow, .int (nI n), .int dg] (uC M r σ) lf (uC M r (fWrite σ i ow n dg)) lf 0 0 := by
  refine CV_of (lv := [(0, .ref _), (1, .int _), (2, .int _), (3, .int _)]) G (by decide) (Nat.le_of_ble_eq_true rfl) rfl (fun p e s m args below meth c F hr => ?_)
  have F : Fx p l s m args meth c cX1_write 6 RX1 X := F
  refine v_aload_n F dX1_write_0 rfl 0 rfl ?_
  refine v_iload_n F dX1_write_1 rfl 2 rfl ?_
  refine v_putC F tyX1 tyX1_ok nmX1 (id_R hr0 (by decide) hi) (celD_R hr0) rfl uw_X1 2 (by decide) rfl rfl (by decide +kernel) (celD_R hr0) (Nat.le_of_ble_eq_true rfl) wf_X1_18 dX1_write_2 ?_
  refine v_iload_n F dX1_write_5 rfl 3 rfl ?_
  refine v_istore F dX1_write_6 (by decide) (lv' := [(4, .int _), (0, .ref _), (1, .int _), (2, .int _), (3, .int _)]) rfl ?_
  refine v_aload_n F dX1_write_8 rfl 1 rfl ?_
  refine v_get F (id_R hr0 (by decide) hi) (heR hr0) rfl uw_X1 2 (by decide) rfl rfl wf_X1_18 dX1_write_9 ?_
  refine v_topr (nI n) (u3_at _ _ _ _ _) ?_
  refine v_iconst F (v := 1) dX1_write_12 (by decide) ?_
  refine v_isub F dX1_write_13 ?_
  refine v_istore F dX1_write_14 (by decide) (lv' := [(5, .int _), (4, .int _), (0, .ref _), (1, .int _), (2, .int _), (3, .int _)]) rfl ?_
  refine v_locs [0, 1, 2, 3, 4, 5] rfl ?_
  exact L_X1_write F hr0 hi (fun rest pl => v_vret F hr dX1_write_54 rfl rfl) n h8 _ dg rfl
set_option maxHeartbeats 4000000 in
set_option maxRecDepth 100000 in
theorem L_X1_copyFrom (F : Fx p l s m args meth c cX1_copyFrom 3 RX1 X) {r t : Nat} (hr0 : r < 2) (ht0 : t < 2) (htr : t ≠ r) {i : Nat} (hi : i < 4) {n : Nat} (h8 : n ≤ 8) {σ : Sg} (hσ : σ 3 i 2 = nI n) (K : V p l e R s m args below meth c Q X 3 ex (uC M r (cpPL i (M t) σ n)) lf cells slots 48 [(2, .int (nI n)), (0, .ref (X.2.1 r 3 i)), (1, .ref (X.2.1 t 3 i))] []) : ∀ (k q : Nat), k + q = n → V p l e R s m args below meth c Q X 3 ex (uC M r (cpPL i (M t) σ q)) lf cells slots 10 [(2, .int (nI q)), (0, .ref (X.2.1 r 3 i)), (1, .ref (X.2.1 t 3 i))] [] := by
  intro k
  induction k with
  | zero =>
    intro q hq
    obtain rfl : q = n := by omega
    have e0 : cpPL i (M t) σ q 3 i 2 = nI q := (cpPL_k (by decide) (by decide) q).trans hσ
    refine v_iload_n F dX1_copyFrom_10 rfl 0 rfl ?_
    refine v_aload_n F dX1_copyFrom_11 rfl 1 rfl ?_
    refine v_get F (id_R hr0 (by decide) hi) (heR hr0) rfl uw_X1 2 (by decide) rfl rfl wf_X1_18 dX1_copyFrom_12 ?_
    refine v_topr (nI q) e0 ?_
    refine v_icmp_ge F (tgt := 48) dX1_copyFrom_15 (by decide) (fun c15 => ?_) (fun h => absurd (nI_le (Nat.le_refl _) (by omega)) h)
    exact K
  | succ k ih =>
    intro q hq
    have e0 : cpPL i (M t) σ q 3 i 2 = nI n := (cpPL_k (by decide) (by decide) q).trans hσ
    refine v_iload_n F dX1_copyFrom_10 rfl 0 rfl ?_
    refine v_aload_n F dX1_copyFrom_11 rfl 1 rfl ?_
    refine v_get F (id_R hr0 (by decide) hi) (heR hr0) rfl uw_X1 2 (by decide) rfl rfl wf_X1_18 dX1_copyFrom_12 ?_
    refine v_topr (nI n) e0 ?_
    refine v_icmp_ge F (tgt := 48) dX1_copyFrom_15 (by decide) (fun h => absurd h (nI_ge (by omega) (by omega))) (fun c15 => ?_)
    refine v_aload_n F dX1_copyFrom_18 rfl 1 rfl ?_
    refine v_get F (id_R hr0 (by decide) hi) (heR hr0) rfl uw_X1 0 (by decide) rfl rfl wf_X1_9 dX1_copyFrom_19 ?_
    refine v_iload_n F dX1_copyFrom_22 rfl 0 rfl ?_
    refine v_aload_n F dX1_copyFrom_23 rfl 2 rfl ?_
    refine v_get F (id_R ht0 (by decide) hi) ((heO htr).trans ((celD_R ht0))) rfl uw_X1 0 (by decide) rfl rfl wf_X1_9 dX1_copyFrom_24 ?_
    refine v_iload_n F dX1_copyFrom_27 rfl 0 rfl ?_
    refine v_iald F (id_R ht0 (by decide) hi) ((heO htr).trans ((celD_R ht0))) rfl (q) (Ix_nI (by omega)) dX1_copyFrom_28 ?_
    refine v_iastC F (id_R hr0 (by decide) hi) (celD_R hr0) rfl (q) (Ix_nI (by omega)) (celD_R hr0) dX1_copyFrom_29 ?_
    refine v_aload_n F dX1_copyFrom_30 rfl 1 rfl ?_
    refine v_get F (id_R hr0 (by decide) hi) (heR hr0) rfl uw_X1 1 (by decide) rfl rfl wf_X1_15 dX1_copyFrom_31 ?_
    refine v_iload_n F dX1_copyFrom_34 rfl 0 rfl ?_
    refine v_aload_n F dX1_copyFrom_35 rfl 2 rfl ?_
    refine v_get F (id_R ht0 (by decide) hi) ((heO htr).trans ((celD_R ht0))) rfl uw_X1 1 (by decide) rfl rfl wf_X1_15 dX1_copyFrom_36 ?_
    refine v_iload_n F dX1_copyFrom_39 rfl 0 rfl ?_
    refine v_iald F (id_R ht0 (by decide) hi) ((heO htr).trans ((celD_R ht0))) rfl (q) (Ix_nI (by omega)) dX1_copyFrom_40 ?_
    refine v_iastC F (id_R hr0 (by decide) hi) (celD_R hr0) rfl (q) (Ix_nI (by omega)) (celD_R hr0) dX1_copyFrom_41 ?_
    refine v_iinc F (k := 0) (nI (q + 1)) dX1_copyFrom_42 rfl (iinc_nI q) (by decide) (lv' := [(2, .int _), (0, .ref _), (1, .ref _)]) rfl ?_
    refine v_goto F (tgt := 10) dX1_copyFrom_45 (by decide) ?_
    exact ih (q + 1) (by omega)
set_option maxHeartbeats 4000000 in
set_option maxRecDepth 100000 in
theorem c_X1_copyFrom {X : Cx} {l : Launch} (G : Gx X l) {M : Mem} {lf : Lf} {r t : Nat} (hr0 : r < 2) (ht0 : t < 2) (htr : t ≠ r) {σ : Sg} {i : Nat} (hi : i < 4) {n : Nat} (h8 : n ≤ 8) (hn : M t 3 i 2 = nI n) : CV X l yX1_copyFrom (wsc yX1_copyFrom cX1_copyFrom 3 none) rm_X1_copyFrom [.ref (X.2.1 r 3 i), .ref (X.2.1 t 3 i)] (uC M r σ) lf (uC M r (fCopyP σ (M t) i n)) lf 0 0 := by
  refine CV_of (lv := [(0, .ref _), (1, .ref _)]) G (by decide) (Nat.le_of_ble_eq_true rfl) rfl (fun p e s m args below meth c F hr => ?_)
  have F : Fx p l s m args meth c cX1_copyFrom 3 RX1 X := F
  refine v_aload_n F dX1_copyFrom_0 rfl 0 rfl ?_
  refine v_aload_n F dX1_copyFrom_1 rfl 1 rfl ?_
  refine v_get F (id_R ht0 (by decide) hi) ((heO htr).trans ((celD_R ht0))) rfl uw_X1 2 (by decide) rfl rfl wf_X1_18 dX1_copyFrom_2 ?_
  refine v_putC F tyX1 tyX1_ok nmX1 (id_R hr0 (by decide) hi) (celD_R hr0) rfl uw_X1 2 (by decide) rfl rfl (by decide +kernel) (celD_R hr0) (Nat.le_of_ble_eq_true rfl) wf_X1_18 dX1_copyFrom_5 ?_
  refine v_iconst F (v := nI 0) dX1_copyFrom_8 (by decide) ?_
  refine v_istore_n F dX1_copyFrom_9 rfl (by decide) (lv' := [(2, .int _), (0, .ref _), (1, .ref _)]) rfl ?_
  exact L_X1_copyFrom F hr0 ht0 htr hi h8 (by rw [u3_at]; exact hn) (v_vret F hr dX1_copyFrom_48 rfl rfl) n 0 rfl
end RP
theorem reL_01 (σ : Sg) (i d : Nat) : ∀ k p : Nat, reL σ i d k p = 0 ∨ reL σ i d k p = 1
  | 0, p => Or.inr rfl
  | k + 1, p => by
    unfold reL
    split
    · exact reL_01 σ i d k (p + 1)
    · exact Or.inl rfl
theorem fRep_01 (σ : Sg) (i n d : Nat) : fRep σ i n d = 0 ∨ fRep σ i n d = 1 := reL_01 σ i d (n - d) d
section RQ
variable {p : Program} {l : Launch} {e : Env} {R : Room} {s : State} {m : MethodId} {args : Array Value} {below : List Frame} {meth : Method} {c : Code} {Q : State → Prop} {X : Cx} {nL : Nat} {ex : va_W} {M : Mem} {lf : Lf} {cells slots : Nat}
set_option maxHeartbeats 4000000 in
set_option maxRecDepth 100000 in
theorem c_floorMod {X : Cx} {l : Launch} (G : Gx X l) {M : Mem} {lf : Lf} {b n : Nat} (hb : b < 2 ^ 31) (h1 : 1 ≤ n) (hn : n < 2 ^ 31) : CI X l yJ9_floorMod_7cf53 (wsc yJ9_floorMod_7cf53 cJ9_floorMod_7cf53 3 (some .int)) rm_J9_floorMod_7cf53 [.int (nI b), .int (nI n)] (M) lf (nI (b % n)) (M) lf 0 0 := by
  refine CI_ofF (lv := [(0, .int _), (1, .int _)]) G (by decide +kernel) (Nat.le_of_ble_eq_true rfl) rfl (fun p e s m args below meth c F hr => ?_)
  have F : Fx p l s m args meth c cJ9_floorMod_7cf53 3 RJ9 X := F
  refine v_iload_n F dJ9_floorMod_7cf53_0 rfl 0 rfl ?_
  refine v_iload_n F dJ9_floorMod_7cf53_1 rfl 1 rfl ?_
  refine v_irem F dJ9_floorMod_7cf53_2 (nI_ne0 h1 hn) ?_
  refine v_topr (nI (b % n)) (pk_rem hb h1 hn) ?_
  refine v_istore_n F dJ9_floorMod_7cf53_3 rfl (by decide) (lv' := [(2, .int _), (0, .int _), (1, .int _)]) rfl ?_
  refine v_iload_n F dJ9_floorMod_7cf53_4 rfl 1 rfl ?_
  refine v_iload_n F dJ9_floorMod_7cf53_5 rfl 2 rfl ?_
  refine v_ixor F dJ9_floorMod_7cf53_6 ?_
  refine v_if_ge F (tgt := 18) dJ9_floorMod_7cf53_7 (by decide) (fun c7 => ?_) (fun h => absurd (xor_pos hb hn) h)
  refine v_iload_n F dJ9_floorMod_7cf53_18 rfl 0 rfl ?_
  exact v_iret F hr dJ9_floorMod_7cf53_19 rfl rfl rfl
set_option maxHeartbeats 4000000 in
set_option maxRecDepth 100000 in
theorem c_X1_placeIn {X : Cx} {l : Launch} (G : Gx X l) {M : Mem} {lf : Lf} {r : Nat} (hr0 : r < 2) {σ : Sg} {i : Nat} (hi : i < 4) {b n : Nat} (hb : b < 2 ^ 31) (h1 : 1 ≤ n) (h8 : n ≤ 8) (hn : σ 3 i 2 = nI n) : CI X l yX1_placeIn (wsc yX1_placeIn cX1_placeIn 2 (some .int)) rm_X1_placeIn [.ref (X.2.1 r 3 i), .int (nI b)] (uC M r σ) lf (nI (b % n)) (uC M r σ) lf 0 0 := by
  refine CI_of (lv := [(0, .ref _), (1, .int _)]) G (by decide) (Nat.le_of_ble_eq_true rfl) rfl (fun p e s m args below meth c F hr => ?_)
  have F : Fx p l s m args meth c cX1_placeIn 2 RX1 X := F
  refine v_iload_n F dX1_placeIn_0 rfl 1 rfl ?_
  refine v_aload_n F dX1_placeIn_1 rfl 0 rfl ?_
  refine v_get F (id_R hr0 (by decide) hi) (heR hr0) rfl uw_X1 2 (by decide) rfl rfl wf_X1_18 dX1_placeIn_2 ?_
  refine v_topr (nI n) hn ?_
  refine v_callSi F (As := [_, _]) (rest := []) rfl (c_floorMod G hb h1 (by omega)) wm_X1_22 rfl ⟨rfl, rfl, Nat.le_of_ble_eq_true rfl, Nat.le_of_ble_eq_true rfl, Nat.le_of_ble_eq_true rfl, Nat.le_of_ble_eq_true rfl, Nat.le_of_ble_eq_true rfl⟩ dX1_placeIn_5 ?_
  exact v_iret F hr dX1_placeIn_8 rfl rfl rfl
set_option maxHeartbeats 4000000 in
set_option maxRecDepth 100000 in
theorem L_X1_landsApart (F : Fx p l s m args meth c cX1_landsApart 4 RX1 X) {r : Nat} (hr0 : r < 2) {i : Nat} (hi : i < 4) {n : Nat} (h1 : 1 ≤ n) (h8 : n ≤ 8) {σ : Sg} (hσ : σ 3 i 2 = nI n) {ρ : Int32} (K0 : ρ = 0 → V p l e R s m args below meth c Q X 4 ex (uC M r σ) lf cells slots 34 [(0, .ref (X.2.1 r 3 i))] []) (K1 : ρ = 1 → V p l e R s m args below meth c Q X 4 ex (uC M r σ) lf cells slots 46 [(0, .ref (X.2.1 r 3 i))] []) : ∀ (k q : Nat) (acc : Int32), k + q = n → laL σ i n k q acc = ρ → V p l e R s m args below meth c Q X 4 ex (uC M r σ) lf cells slots 4 [(2, .int (nI q)), (1, .int acc), (0, .ref (X.2.1 r 3 i))] [] := by
  intro k
  induction k with
  | zero =>
    intro q acc hq hρ
    obtain rfl : q = n := by omega
    refine v_iload_n F dX1_landsApart_4 rfl 0 rfl ?_
    refine v_aload_n F dX1_landsApart_5 rfl 2 rfl ?_
    refine v_get F (id_R hr0 (by decide) hi) (heR hr0) rfl uw_X1 2 (by decide) rfl rfl wf_X1_18 dX1_landsApart_6 ?_
    refine v_topr (nI q) hσ ?_
    refine v_icmp_ge F (tgt := 46) dX1_landsApart_9 (by decide) (fun c9 => ?_) (fun h => absurd (nI_le (Nat.le_refl _) (by omega)) h)
    exact v_locs [2] rfl (K1 hρ.symm)
  | succ k ih =>
    intro q acc hq hρ
    refine v_iload_n F dX1_landsApart_4 rfl 0 rfl ?_
    refine v_aload_n F dX1_landsApart_5 rfl 2 rfl ?_
    refine v_get F (id_R hr0 (by decide) hi) (heR hr0) rfl uw_X1 2 (by decide) rfl rfl wf_X1_18 dX1_landsApart_6 ?_
    refine v_topr (nI n) hσ ?_
    refine v_icmp_ge F (tgt := 46) dX1_landsApart_9 (by decide) (fun h => absurd h (nI_ge (by omega) (by omega))) (fun c9 => ?_)
    refine v_iconst F (v := 1) dX1_landsApart_12 (by decide) ?_
    refine v_iload_n F dX1_landsApart_13 rfl 0 rfl ?_
    refine v_aload_n F dX1_landsApart_14 rfl 2 rfl ?_
    refine v_get F (id_R hr0 (by decide) hi) (heR hr0) rfl uw_X1 0 (by decide) rfl rfl wf_X1_9 dX1_landsApart_15 ?_
    refine v_iload_n F dX1_landsApart_18 rfl 0 rfl ?_
    refine v_iald F (id_R hr0 (by decide) hi) (heR hr0) rfl (q) (Ix_nI (by omega)) dX1_landsApart_19 ?_
    refine v_iadd F dX1_landsApart_20 ?_
    refine v_aload_n F dX1_landsApart_21 rfl 2 rfl ?_
    refine v_get F (id_R hr0 (by decide) hi) (heR hr0) rfl uw_X1 2 (by decide) rfl rfl wf_X1_18 dX1_landsApart_22 ?_
    refine v_topr (nI n) hσ ?_
    refine v_irem F dX1_landsApart_25 (nI_ne0 h1 (by omega)) ?_
    refine v_ishl F dX1_landsApart_26 ?_
    refine v_istore_n F dX1_landsApart_27 rfl (by decide) (lv' := [(3, .int _), (2, .int _), (1, .int _), (0, .ref _)]) rfl ?_
    refine v_iload_n F dX1_landsApart_28 rfl 2 rfl ?_
    refine v_iload_n F dX1_landsApart_29 rfl 0 rfl ?_
    refine v_iand F dX1_landsApart_30 ?_
    refine v_if_eq F (tgt := 36) dX1_landsApart_31 (by decide) (fun c31 => ?_) (fun c31 => ?_)
    · have := c31
      rw [laL, if_pos c31] at hρ
      refine v_iload_n F dX1_landsApart_36 rfl 2 rfl ?_
      refine v_iload_n F dX1_landsApart_37 rfl 0 rfl ?_
      refine v_ior F dX1_landsApart_38 ?_
      refine v_istore_n F dX1_landsApart_39 rfl (by decide) (lv' := [(1, .int _), (3, .int _), (2, .int _), (0, .ref _)]) rfl ?_
      refine v_iinc F (k := 2) (nI (q + 1)) dX1_landsApart_40 rfl (iinc_nI q) (by decide) (lv' := [(2, .int _), (1, .int _), (3, .int _), (0, .ref _)]) rfl ?_
      refine v_goto F (tgt := 4) dX1_landsApart_43 (by decide) ?_
      exact v_locs [0, 1, 3] rfl (ih (q + 1) _ (by omega) hρ)
    · have := c31
      rw [laL, if_neg c31] at hρ
      exact v_locs [3] rfl (K0 hρ.symm)
set_option maxHeartbeats 4000000 in
set_option maxRecDepth 100000 in
theorem c_X1_landsApart {X : Cx} {l : Launch} (G : Gx X l) {M : Mem} {lf : Lf} {r : Nat} (hr0 : r < 2) {σ : Sg} {i : Nat} (hi : i < 4) {n : Nat} (h1 : 1 ≤ n) (h8 : n ≤ 8) (hn : σ 3 i 2 = nI n) : CI X l yX1_landsApart (wsc yX1_landsApart cX1_landsApart 4 (some .boolean)) rm_X1_landsApart [.ref (X.2.1 r 3 i)] (uC M r σ) lf (fLands σ i n) (uC M r σ) lf 0 0 := by
  refine CI_of (lv := [(0, .ref _)]) G (by decide) (Nat.le_of_ble_eq_true rfl) rfl (fun p e s m args below meth c F hr => ?_)
  have F : Fx p l s m args meth c cX1_landsApart 4 RX1 X := F
  refine v_iconst F (v := 0) dX1_landsApart_0 (by decide) ?_
  refine v_istore_n F dX1_landsApart_1 rfl (by decide) (lv' := [(1, .int _), (0, .ref _)]) rfl ?_
  refine v_iconst F (v := nI 0) dX1_landsApart_2 (by decide) ?_
  refine v_istore_n F dX1_landsApart_3 rfl (by decide) (lv' := [(2, .int _), (1, .int _), (0, .ref _)]) rfl ?_
  refine L_X1_landsApart F hr0 hi h1 h8 hn (fun hρ => ?_) (fun hρ => ?_) n 0 0 rfl rfl
  · skip
    refine v_iconst F (v := 0) dX1_landsApart_34 (by decide) ?_
    exact v_zret F hr dX1_landsApart_35 rfl hρ.symm rfl rfl
  · skip
    refine v_iconst F (v := 1) dX1_landsApart_46 (by decide) ?_
    exact v_zret F hr dX1_landsApart_47 rfl hρ.symm rfl rfl
set_option maxHeartbeats 4000000 in
set_option maxRecDepth 100000 in
theorem L_X1_ballsAsked (F : Fx p l s m args meth c cX1_ballsAsked 3 RX1 X) {r : Nat} (hr0 : r < 2) {i : Nat} (hi : i < 4) {n : Nat} (h8 : n ≤ 8) {σ : Sg} (hσ : σ 3 i 2 = nI n) (K : V p l e R s m args below meth c Q X 3 ex (uC M r σ) lf cells slots 27 [(2, .int (nI n)), (1, .int (sI (σ 4 i) n)), (0, .ref (X.2.1 r 3 i))] []) : ∀ (k q : Nat), k + q = n → V p l e R s m args below meth c Q X 3 ex (uC M r σ) lf cells slots 4 [(2, .int (nI q)), (1, .int (sI (σ 4 i) q)), (0, .ref (X.2.1 r 3 i))] [] := by
  intro k
  induction k with
  | zero =>
    intro q hq
    obtain rfl : q = n := by omega
    refine v_iload_n F dX1_ballsAsked_4 rfl 0 rfl ?_
    refine v_aload_n F dX1_ballsAsked_5 rfl 2 rfl ?_
    refine v_get F (id_R hr0 (by decide) hi) (heR hr0) rfl uw_X1 2 (by decide) rfl rfl wf_X1_18 dX1_ballsAsked_6 ?_
    refine v_topr (nI q) hσ ?_
    refine v_icmp_ge F (tgt := 27) dX1_ballsAsked_9 (by decide) (fun c9 => ?_) (fun h => absurd (nI_le (Nat.le_refl _) (by omega)) h)
    exact K
  | succ k ih =>
    intro q hq
    refine v_iload_n F dX1_ballsAsked_4 rfl 0 rfl ?_
    refine v_aload_n F dX1_ballsAsked_5 rfl 2 rfl ?_
    refine v_get F (id_R hr0 (by decide) hi) (heR hr0) rfl uw_X1 2 (by decide) rfl rfl wf_X1_18 dX1_ballsAsked_6 ?_
    refine v_topr (nI n) hσ ?_
    refine v_icmp_ge F (tgt := 27) dX1_ballsAsked_9 (by decide) (fun h => absurd h (nI_ge (by omega) (by omega))) (fun c9 => ?_)
    refine v_iload_n F dX1_ballsAsked_12 rfl 1 rfl ?_
    refine v_aload_n F dX1_ballsAsked_13 rfl 2 rfl ?_
    refine v_get F (id_R hr0 (by decide) hi) (heR hr0) rfl uw_X1 0 (by decide) rfl rfl wf_X1_9 dX1_ballsAsked_14 ?_
    refine v_iload_n F dX1_ballsAsked_17 rfl 0 rfl ?_
    refine v_iald F (id_R hr0 (by decide) hi) (heR hr0) rfl (q) (Ix_nI (by omega)) dX1_ballsAsked_18 ?_
    refine v_iadd F dX1_ballsAsked_19 ?_
    refine v_istore_n F dX1_ballsAsked_20 rfl (by decide) (lv' := [(1, .int _), (2, .int _), (0, .ref _)]) rfl ?_
    refine v_iinc F (k := 1) (nI (q + 1)) dX1_ballsAsked_21 rfl (iinc_nI q) (by decide) (lv' := [(2, .int _), (1, .int _), (0, .ref _)]) rfl ?_
    refine v_goto F (tgt := 4) dX1_ballsAsked_24 (by decide) ?_
    exact ih (q + 1) (by omega)
set_option maxHeartbeats 4000000 in
set_option maxRecDepth 100000 in
theorem c_X1_ballsAsked {X : Cx} {l : Launch} (G : Gx X l) {M : Mem} {lf : Lf} {r : Nat} (hr0 : r < 2) {σ : Sg} {i : Nat} (hi : i < 4) {n : Nat} (h1 : 1 ≤ n) (h8 : n ≤ 8) (hn : σ 3 i 2 = nI n) : CI X l yX1_ballsAsked (wsc yX1_ballsAsked cX1_ballsAsked 3 (some .int)) rm_X1_ballsAsked [.ref (X.2.1 r 3 i)] (uC M r σ) lf (fAsks σ i n) (uC M r σ) lf 0 0 := by
  refine CI_of (lv := [(0, .ref _)]) G (by decide) (Nat.le_of_ble_eq_true rfl) rfl (fun p e s m args below meth c F hr => ?_)
  have F : Fx p l s m args meth c cX1_ballsAsked 3 RX1 X := F
  refine v_iconst F (v := 0) dX1_ballsAsked_0 (by decide) ?_
  refine v_istore_n F dX1_ballsAsked_1 rfl (by decide) (lv' := [(1, .int _), (0, .ref _)]) rfl ?_
  refine v_iconst F (v := nI 0) dX1_ballsAsked_2 (by decide) ?_
  refine v_istore_n F dX1_ballsAsked_3 rfl (by decide) (lv' := [(2, .int _), (1, .int _), (0, .ref _)]) rfl ?_
  refine L_X1_ballsAsked F hr0 hi h8 hn ?_ n 0 (Nat.add_zero n)
  · skip
    refine v_iload_n F dX1_ballsAsked_27 rfl 1 rfl ?_
    refine v_aload_n F dX1_ballsAsked_28 rfl 2 rfl ?_
    refine v_get F (id_R hr0 (by decide) hi) (heR hr0) rfl uw_X1 2 (by decide) rfl rfl wf_X1_18 dX1_ballsAsked_29 ?_
    refine v_topr (nI n) hn ?_
    refine v_irem F dX1_ballsAsked_32 (nI_ne0 h1 (by omega)) ?_
    refine v_if_ne F (tgt := 45) dX1_ballsAsked_33 (by decide) (fun c33 => ?_) (fun c33 => ?_)
    · have := c33
      refine v_iconst F (v := (-1)) dX1_ballsAsked_45 (by decide) ?_
      refine v_iret F hr dX1_ballsAsked_46 ?_ rfl rfl
      unfold fAsks
      first | (rw [if_pos c33]) | (rw [if_neg c33])
    · have := c33
      refine v_iload_n F dX1_ballsAsked_36 rfl 1 rfl ?_
      refine v_aload_n F dX1_ballsAsked_37 rfl 2 rfl ?_
      refine v_get F (id_R hr0 (by decide) hi) (heR hr0) rfl uw_X1 2 (by decide) rfl rfl wf_X1_18 dX1_ballsAsked_38 ?_
      refine v_topr (nI n) hn ?_
      refine v_idiv F dX1_ballsAsked_41 (nI_ne0 h1 (by omega)) ?_
      refine v_goto F (tgt := 46) dX1_ballsAsked_42 (by decide) ?_
      refine v_iret F hr dX1_ballsAsked_46 ?_ rfl rfl
      unfold fAsks
      first | (rw [if_pos c33]) | (rw [if_neg c33])
set_option maxHeartbeats 4000000 in
set_option maxRecDepth 100000 in
theorem L_X1_repeatsAfter (F : Fx p l s m args meth c cX1_repeatsAfter 4 RX1 X) {r : Nat} (hr0 : r < 2) {i : Nat} (hi : i < 4) {n d : Nat} (h8 : n ≤ 8) {σ : Sg} (hσ : σ 3 i 2 = nI n) {ρ : Int32} (K0 : ρ = 0 → V p l e R s m args below meth c Q X 4 ex (uC M r σ) lf cells slots 44 [(0, .ref (X.2.1 r 3 i))] []) (K1 : ρ = 1 → V p l e R s m args below meth c Q X 4 ex (uC M r σ) lf cells slots 52 [(0, .ref (X.2.1 r 3 i))] []) : ∀ (k q : Nat), k + q = n → d ≤ q → reL σ i d k q = ρ → V p l e R s m args below meth c Q X 4 ex (uC M r σ) lf cells slots 2 [(2, .int (nI q)), (0, .ref (X.2.1 r 3 i)), (1, .int (nI d))] [] := by
  intro k
  induction k with
  | zero =>
    intro q hq hd hρ
    obtain rfl : q = n := by omega
    refine v_iload_n F dX1_repeatsAfter_2 rfl 0 rfl ?_
    refine v_aload_n F dX1_repeatsAfter_3 rfl 1 rfl ?_
    refine v_get F (id_R hr0 (by decide) hi) (heR hr0) rfl uw_X1 2 (by decide) rfl rfl wf_X1_18 dX1_repeatsAfter_4 ?_
    refine v_topr (nI q) hσ ?_
    refine v_icmp_ge F (tgt := 52) dX1_repeatsAfter_7 (by decide) (fun c7 => ?_) (fun h => absurd (nI_le (Nat.le_refl _) (by omega)) h)
    exact v_locs [1] rfl (K1 hρ.symm)
  | succ k ih =>
    intro q hq hd hρ
    refine v_iload_n F dX1_repeatsAfter_2 rfl 0 rfl ?_
    refine v_aload_n F dX1_repeatsAfter_3 rfl 1 rfl ?_
    refine v_get F (id_R hr0 (by decide) hi) (heR hr0) rfl uw_X1 2 (by decide) rfl rfl wf_X1_18 dX1_repeatsAfter_4 ?_
    refine v_topr (nI n) hσ ?_
    refine v_icmp_ge F (tgt := 52) dX1_repeatsAfter_7 (by decide) (fun h => absurd h (nI_ge (by omega) (by omega))) (fun c7 => ?_)
    refine v_iload_n F dX1_repeatsAfter_10 rfl 0 rfl ?_
    refine v_iload_n F dX1_repeatsAfter_11 rfl 2 rfl ?_
    refine v_isub F dX1_repeatsAfter_12 ?_
    refine v_topr (nI (q - d)) (pk_sub hd) ?_
    refine v_istore_n F dX1_repeatsAfter_13 rfl (by decide) (lv' := [(3, .int _), (2, .int _), (0, .ref _), (1, .int _)]) rfl ?_
    refine v_aload_n F dX1_repeatsAfter_14 rfl 2 rfl ?_
    refine v_get F (id_R hr0 (by decide) hi) (heR hr0) rfl uw_X1 0 (by decide) rfl rfl wf_X1_9 dX1_repeatsAfter_15 ?_
    refine v_iload_n F dX1_repeatsAfter_18 rfl 1 rfl ?_
    refine v_iald F (id_R hr0 (by decide) hi) (heR hr0) rfl (q) (Ix_nI (by omega)) dX1_repeatsAfter_19 ?_
    refine v_aload_n F dX1_repeatsAfter_20 rfl 2 rfl ?_
    refine v_get F (id_R hr0 (by decide) hi) (heR hr0) rfl uw_X1 0 (by decide) rfl rfl wf_X1_9 dX1_repeatsAfter_21 ?_
    refine v_iload_n F dX1_repeatsAfter_24 rfl 0 rfl ?_
    refine v_iald F (id_R hr0 (by decide) hi) (heR hr0) rfl (q - d) (Ix_nI (by omega)) dX1_repeatsAfter_25 ?_
    refine v_icmp_ne F (tgt := 44) dX1_repeatsAfter_26 (by decide) (fun c26 => ?_) (fun c26 => ?_)
    · have := c26
      rw [reL, if_neg (fun z => c26 z.1)] at hρ
      exact v_locs [2] rfl (K0 hρ.symm)
    · have := c26
      refine v_aload_n F dX1_repeatsAfter_29 rfl 2 rfl ?_
      refine v_get F (id_R hr0 (by decide) hi) (heR hr0) rfl uw_X1 1 (by decide) rfl rfl wf_X1_15 dX1_repeatsAfter_30 ?_
      refine v_iload_n F dX1_repeatsAfter_33 rfl 1 rfl ?_
      refine v_iald F (id_R hr0 (by decide) hi) (heR hr0) rfl (q) (Ix_nI (by omega)) dX1_repeatsAfter_34 ?_
      refine v_aload_n F dX1_repeatsAfter_35 rfl 2 rfl ?_
      refine v_get F (id_R hr0 (by decide) hi) (heR hr0) rfl uw_X1 1 (by decide) rfl rfl wf_X1_15 dX1_repeatsAfter_36 ?_
      refine v_iload_n F dX1_repeatsAfter_39 rfl 0 rfl ?_
      refine v_iald F (id_R hr0 (by decide) hi) (heR hr0) rfl (q - d) (Ix_nI (by omega)) dX1_repeatsAfter_40 ?_
      refine v_icmp_eq F (tgt := 46) dX1_repeatsAfter_41 (by decide) (fun c41 => ?_) (fun c41 => ?_)
      · have := c41
        rw [reL, if_pos ⟨c26, c41⟩] at hρ
        refine v_iinc F (k := 1) (nI (q + 1)) dX1_repeatsAfter_46 rfl (iinc_nI q) (by decide) (lv' := [(2, .int _), (3, .int _), (0, .ref _), (1, .int _)]) rfl ?_
        refine v_goto F (tgt := 2) dX1_repeatsAfter_49 (by decide) ?_
        exact v_locs [0, 2, 3] rfl (ih (q + 1) (by omega) (by omega) hρ)
      · have := c41
        rw [reL, if_neg (fun z => c41 z.2)] at hρ
        exact v_locs [2] rfl (K0 hρ.symm)
set_option maxHeartbeats 4000000 in
set_option maxRecDepth 100000 in
theorem c_X1_repeatsAfter {X : Cx} {l : Launch} (G : Gx X l) {M : Mem} {lf : Lf} {r : Nat} (hr0 : r < 2) {σ : Sg} {i : Nat} (hi : i < 4) {n d : Nat} (h8 : n ≤ 8) (hd : d ≤ n) (hn : σ 3 i 2 = nI n) : CI X l yX1_repeatsAfter (wsc yX1_repeatsAfter cX1_repeatsAfter 4 (some .boolean)) rm_X1_repeatsAfter [.ref (X.2.1 r 3 i), .int (nI d)] (uC M r σ) lf (fRep σ i n d) (uC M r σ) lf 0 0 := by
  refine CI_of (lv := [(0, .ref _), (1, .int _)]) G (by decide) (Nat.le_of_ble_eq_true rfl) rfl (fun p e s m args below meth c F hr => ?_)
  have F : Fx p l s m args meth c cX1_repeatsAfter 4 RX1 X := F
  refine v_iload_n F dX1_repeatsAfter_0 rfl 1 rfl ?_
  refine v_istore_n F dX1_repeatsAfter_1 rfl (by decide) (lv' := [(2, .int _), (0, .ref _), (1, .int _)]) rfl ?_
  refine L_X1_repeatsAfter F hr0 hi h8 hn (fun hρ => ?_) (fun hρ => ?_) (n - d) d (by omega) (Nat.le_refl d) rfl
  · skip
    refine v_iconst F (v := 0) dX1_repeatsAfter_44 (by decide) ?_
    exact v_zret F hr dX1_repeatsAfter_45 rfl hρ.symm rfl rfl
  · skip
    refine v_iconst F (v := 1) dX1_repeatsAfter_52 (by decide) ?_
    exact v_zret F hr dX1_repeatsAfter_53 rfl hρ.symm rfl rfl
set_option maxHeartbeats 4000000 in
set_option maxRecDepth 100000 in
theorem L_X1_shortestLength (F : Fx p l s m args meth c cX1_shortestLength 2 RX1 X) (G : Gx X l) {r : Nat} (hr0 : r < 2) {i : Nat} (hi : i < 4) {n : Nat} (h8 : n ≤ 8) {σ : Sg} (hσ : σ 3 i 2 = nI n) {ρ : Nat} (K0 : ∀ q : Nat, ρ = q → V p l e rm_X1_shortestLength s m args below meth c Q X 2 ex (uC M r σ) lf 0 0 27 [(1, .int (nI q)), (0, .ref (X.2.1 r 3 i))] []) (K1 : ρ = n → V p l e rm_X1_shortestLength s m args below meth c Q X 2 ex (uC M r σ) lf 0 0 35 [(0, .ref (X.2.1 r 3 i))] []) : ∀ (k q : Nat), k + q = n → 1 ≤ q → shL σ i n k q = ρ → V p l e rm_X1_shortestLength s m args below meth c Q X 2 ex (uC M r σ) lf 0 0 2 [(1, .int (nI q)), (0, .ref (X.2.1 r 3 i))] [] := by
  intro k
  induction k with
  | zero =>
    intro q hq hd hρ
    obtain rfl : q = n := by omega
    refine v_iload_n F dX1_shortestLength_2 rfl 0 rfl ?_
    refine v_aload_n F dX1_shortestLength_3 rfl 1 rfl ?_
    refine v_get F (id_R hr0 (by decide) hi) (heR hr0) rfl uw_X1 2 (by decide) rfl rfl wf_X1_18 dX1_shortestLength_4 ?_
    refine v_topr (nI q) hσ ?_
    refine v_icmp_ge F (tgt := 35) dX1_shortestLength_7 (by decide) (fun c7 => ?_) (fun h => absurd (nI_le (Nat.le_refl _) (by omega)) h)
    exact v_locs [1] rfl (K1 hρ.symm)
  | succ k ih =>
    intro q hq hd hρ
    refine v_iload_n F dX1_shortestLength_2 rfl 0 rfl ?_
    refine v_aload_n F dX1_shortestLength_3 rfl 1 rfl ?_
    refine v_get F (id_R hr0 (by decide) hi) (heR hr0) rfl uw_X1 2 (by decide) rfl rfl wf_X1_18 dX1_shortestLength_4 ?_
    refine v_topr (nI n) hσ ?_
    refine v_icmp_ge F (tgt := 35) dX1_shortestLength_7 (by decide) (fun h => absurd h (nI_ge (by omega) (by omega))) (fun c7 => ?_)
    refine v_aload_n F dX1_shortestLength_10 rfl 1 rfl ?_
    refine v_get F (id_R hr0 (by decide) hi) (heR hr0) rfl uw_X1 2 (by decide) rfl rfl wf_X1_18 dX1_shortestLength_11 ?_
    refine v_topr (nI n) hσ ?_
    refine v_iload_n F dX1_shortestLength_14 rfl 0 rfl ?_
    refine v_irem F dX1_shortestLength_15 (nI_ne0 hd (by omega)) ?_
    refine v_topr (nI (n % q)) (pk_rem (by omega) hd (by omega)) ?_
    refine v_if_ne F (tgt := 29) dX1_shortestLength_16 (by decide) (fun c16 => ?_) (fun c16 => ?_)
    · have := c16
      rw [shL, if_neg (fun z => c16 (by rw [z.1]; rfl))] at hρ
      refine v_iinc F (k := 0) (nI (q + 1)) dX1_shortestLength_29 rfl (iinc_nI q) (by decide) (lv' := [(1, .int _), (0, .ref _)]) rfl ?_
      refine v_goto F (tgt := 2) dX1_shortestLength_32 (by decide) ?_
      exact ih (q + 1) (by omega) (by omega) hρ
    · have := c16
      have c16 : n % q = 0 := (nI_eq (by have := Nat.mod_lt n hd; omega) (by decide)).mp c16
      refine v_aload_n F dX1_shortestLength_19 rfl 1 rfl ?_
      refine v_iload_n F dX1_shortestLength_20 rfl 0 rfl ?_
      refine v_callVi F (As := [_]) (rest := []) rfl (c_X1_repeatsAfter G hr0 hi h8 (by omega) hσ) (Rv_P hr0 hi) wm_X1_28 rfl ⟨rfl, rfl, Nat.le_of_ble_eq_true rfl, Nat.le_of_ble_eq_true rfl, Nat.le_of_ble_eq_true rfl, Nat.le_of_ble_eq_true rfl, Nat.le_of_ble_eq_true rfl⟩ dX1_shortestLength_21 ?_
      refine v_if_eq F (tgt := 29) dX1_shortestLength_24 (by decide) (fun c24 => ?_) (fun c24 => ?_)
      · have := c24
        rw [shL, if_neg (fun z => by rw [z.2] at c24; exact absurd c24 (by decide))] at hρ
        refine v_iinc F (k := 0) (nI (q + 1)) dX1_shortestLength_29 rfl (iinc_nI q) (by decide) (lv' := [(1, .int _), (0, .ref _)]) rfl ?_
        refine v_goto F (tgt := 2) dX1_shortestLength_32 (by decide) ?_
        exact ih (q + 1) (by omega) (by omega) hρ
      · have := c24
        have c24 : fRep σ i n q = 1 := (fRep_01 σ i n q).resolve_left c24
        rw [shL, if_pos ⟨c16, c24⟩] at hρ
        exact K0 q hρ.symm
set_option maxHeartbeats 4000000 in
set_option maxRecDepth 100000 in
theorem c_X1_shortestLength {X : Cx} {l : Launch} (G : Gx X l) {M : Mem} {lf : Lf} {r : Nat} (hr0 : r < 2) {σ : Sg} {i : Nat} (hi : i < 4) {n : Nat} (h1 : 1 ≤ n) (h8 : n ≤ 8) (hn : σ 3 i 2 = nI n) : CI X l yX1_shortestLength (wsc yX1_shortestLength cX1_shortestLength 2 (some .int)) rm_X1_shortestLength [.ref (X.2.1 r 3 i)] (uC M r σ) lf (nI (fShort σ i n)) (uC M r σ) lf 0 0 := by
  refine CI_of (lv := [(0, .ref _)]) G (by decide) (Nat.le_of_ble_eq_true rfl) rfl (fun p e s m args below meth c F hr => ?_)
  have F : Fx p l s m args meth c cX1_shortestLength 2 RX1 X := F
  refine v_iconst F (v := nI 1) dX1_shortestLength_0 (by decide) ?_
  refine v_istore_n F dX1_shortestLength_1 rfl (by decide) (lv' := [(1, .int _), (0, .ref _)]) rfl ?_
  refine L_X1_shortestLength F G hr0 hi h8 hn (fun q hρ => ?_) (fun hρ => ?_) (n - 1) 1 (by omega) (Nat.le_refl 1) rfl
  · skip
    refine v_iload_n F dX1_shortestLength_27 rfl 0 rfl ?_
    exact v_iret F hr dX1_shortestLength_28 (congrArg nI hρ.symm) rfl rfl
  · skip
    refine v_aload_n F dX1_shortestLength_35 rfl 0 rfl ?_
    refine v_get F (id_R hr0 (by decide) hi) (heR hr0) rfl uw_X1 2 (by decide) rfl rfl wf_X1_18 dX1_shortestLength_36 ?_
    refine v_topr (nI n) hn ?_
    exact v_iret F hr dX1_shortestLength_39 (congrArg nI hρ.symm) rfl rfl
set_option maxHeartbeats 4000000 in
set_option maxRecDepth 100000 in
theorem L_X1_addTo (F : Fx p l s m args meth c cX1_addTo 6 RX1 X) {r : Nat} (hr0 : r < 2) {i : Nat} (hi : i < 4) {n : Nat} (h8 : n ≤ 8) {σ : Sg} (hσ : σ 3 i 2 = nI n) {dg : Int64} (K : V p l e R s m args below meth c Q X 6 ex (uC M r σ) lf cells slots 50 [(5, .int (nI n)), (3, .long (adL σ i dg n)), (0, .ref (X.2.1 r 3 i)), (1, .long dg)] []) : ∀ (k q : Nat), k + q = n → V p l e R s m args below meth c Q X 6 ex (uC M r σ) lf cells slots 5 [(5, .int (nI q)), (3, .long (adL σ i dg q)), (0, .ref (X.2.1 r 3 i)), (1, .long dg)] [] := by
  intro k
  induction k with
  | zero =>
    intro q hq
    obtain rfl : q = n := by omega
    refine v_iload F dX1_addTo_5 0 rfl ?_
    refine v_aload_n F dX1_addTo_7 rfl 2 rfl ?_
    refine v_get F (id_R hr0 (by decide) hi) (heR hr0) rfl uw_X1 2 (by decide) rfl rfl wf_X1_18 dX1_addTo_8 ?_
    refine v_topr (nI q) hσ ?_
    refine v_icmp_ge F (tgt := 50) dX1_addTo_11 (by decide) (fun c11 => ?_) (fun h => absurd (nI_le (Nat.le_refl _) (by omega)) h)
    exact K
  | succ k ih =>
    intro q hq
    refine v_iload F dX1_addTo_5 0 rfl ?_
    refine v_aload_n F dX1_addTo_7 rfl 2 rfl ?_
    refine v_get F (id_R hr0 (by decide) hi) (heR hr0) rfl uw_X1 2 (by decide) rfl rfl wf_X1_18 dX1_addTo_8 ?_
    refine v_topr (nI n) hσ ?_
    refine v_icmp_ge F (tgt := 50) dX1_addTo_11 (by decide) (fun h => absurd h (nI_ge (by omega) (by omega))) (fun c11 => ?_)
    refine v_lload_n F dX1_addTo_14 rfl 1 rfl ?_
    refine v_ldc2 F wk_X1_32 dX1_addTo_15 ?_
    refine v_lmul F dX1_addTo_18 ?_
    refine v_aload_n F dX1_addTo_19 rfl 2 rfl ?_
    refine v_get F (id_R hr0 (by decide) hi) (heR hr0) rfl uw_X1 0 (by decide) rfl rfl wf_X1_9 dX1_addTo_20 ?_
    refine v_iload F dX1_addTo_23 0 rfl ?_
    refine v_iald F (id_R hr0 (by decide) hi) (heR hr0) rfl (q) (Ix_nI (by omega)) dX1_addTo_25 ?_
    refine v_i2l F dX1_addTo_26 ?_
    refine v_ladd F dX1_addTo_27 ?_
    refine v_lstore_n F dX1_addTo_28 rfl (by decide) (lv' := [(3, .long _), (5, .int _), (0, .ref _), (1, .long _)]) rfl ?_
    refine v_lload_n F dX1_addTo_29 rfl 0 rfl ?_
    refine v_ldc2 F wk_X1_32 dX1_addTo_30 ?_
    refine v_lmul F dX1_addTo_33 ?_
    refine v_aload_n F dX1_addTo_34 rfl 2 rfl ?_
    refine v_get F (id_R hr0 (by decide) hi) (heR hr0) rfl uw_X1 1 (by decide) rfl rfl wf_X1_15 dX1_addTo_35 ?_
    refine v_iload F dX1_addTo_38 1 rfl ?_
    refine v_iald F (id_R hr0 (by decide) hi) (heR hr0) rfl (q) (Ix_nI (by omega)) dX1_addTo_40 ?_
    refine v_i2l F dX1_addTo_41 ?_
    refine v_ladd F dX1_addTo_42 ?_
    refine v_lstore_n F dX1_addTo_43 rfl (by decide) (lv' := [(3, .long _), (5, .int _), (0, .ref _), (1, .long _)]) rfl ?_
    refine v_iinc F (k := 1) (nI (q + 1)) dX1_addTo_44 rfl (iinc_nI q) (by decide) (lv' := [(5, .int _), (3, .long _), (0, .ref _), (1, .long _)]) rfl ?_
    refine v_goto F (tgt := 5) dX1_addTo_47 (by decide) ?_
    exact ih (q + 1) (by omega)
set_option maxHeartbeats 4000000 in
set_option maxRecDepth 100000 in
theorem c_X1_addTo {X : Cx} {l : Launch} (G : Gx X l) {M : Mem} {lf : Lf} {r : Nat} (hr0 : r < 2) {σ : Sg} {i : Nat} (hi : i < 4) {n : Nat} (h8 : n ≤ 8) (hn : σ 3 i 2 = nI n) (dg : Int64) : CL X l yX1_addTo (wsc yX1_addTo cX1_addTo 6 (some .long)) rm_X1_addTo [.ref (X.2.1 r 3 i), .long dg] (uC M r σ) lf (adL σ i dg n) (uC M r σ) lf 0 0 := by
  refine CL_of (lv := [(0, .ref _), (1, .long _)]) G (by decide) (Nat.le_of_ble_eq_true rfl) rfl (fun p e s m args below meth c F hr => ?_)
  have F : Fx p l s m args meth c cX1_addTo 6 RX1 X := F
  refine v_lload_n F dX1_addTo_0 rfl 1 rfl ?_
  refine v_lstore_n F dX1_addTo_1 rfl (by decide) (lv' := [(3, .long _), (0, .ref _), (1, .long _)]) rfl ?_
  refine v_iconst F (v := nI 0) dX1_addTo_2 (by decide) ?_
  refine v_istore F dX1_addTo_3 (by decide) (lv' := [(5, .int _), (3, .long _), (0, .ref _), (1, .long _)]) rfl ?_
  refine L_X1_addTo F hr0 hi h8 hn ?_ n 0 (Nat.add_zero n)
  · skip
    refine v_lload_n F dX1_addTo_50 rfl 1 rfl ?_
    exact v_lret F hr dX1_addTo_51 rfl rfl rfl
end RQ
abbrev rm_X0_copyFrom : Room := { frames := 1, cells := 0, slots := 0, locals := 22 }
abbrev rm_X0_canCatch : Room := { frames := 0, cells := 0, slots := 0, locals := 0 }
abbrev rm_X0_miss : Room := { frames := 1, cells := 0, slots := 0, locals := 20 }
abbrev rm_X0_thingsHeld : Room := { frames := 0, cells := 0, slots := 0, locals := 0 }
set_option maxHeartbeats 4000000 in
set_option maxRecDepth 100000 in
theorem c_X0_canCatch {X : Cx} {l : Launch} (G : Gx X l) {M : Mem} {lf : Lf} {r : Nat} (hr0 : r < 2) {σ : Sg} {i : Nat} (hi : i < 4) (h : Int32) {hd : Nat} (hh : hd < 2) : CI X l yX0_canCatch (wsc yX0_canCatch cX0_canCatch 3 (some .boolean)) rm_X0_canCatch [.ref (X.2.1 r 2 i), .int h, .int (nI hd)] (uC M r σ) lf (fCan σ i h hd) (uC M r σ) lf 0 0 := by
  refine CI_of (lv := [(0, .ref _), (1, .int _), (2, .int _)]) G (by decide) (Nat.le_of_ble_eq_true rfl) rfl (fun p e s m args below meth c F hr => ?_)
  have F : Fx p l s m args meth c cX0_canCatch 3 RX0 X := F
  refine v_aload_n F dX0_canCatch_0 rfl 0 rfl ?_
  refine v_get F (id_R hr0 (by decide) hi) (heR hr0) rfl uw_X0 1 (by decide) rfl rfl wf_X0_18 dX0_canCatch_1 ?_
  refine v_iload_n F dX0_canCatch_4 rfl 2 rfl ?_
  refine v_iald F (id_R hr0 (by decide) hi) (heR hr0) rfl (hd) (Ix_nI (by omega)) dX0_canCatch_5 ?_
  refine v_iconst F (v := (-1)) dX0_canCatch_6 (by decide) ?_
  refine v_icmp_ne F (tgt := 24) dX0_canCatch_7 (by decide) (fun c7 => ?_) (fun c7 => ?_)
  · have := c7
    refine v_iconst F (v := 0) dX0_canCatch_24 (by decide) ?_
    refine v_zret F hr dX0_canCatch_25 rfl ?_ rfl rfl
    simp_all [fCan]
  · have := c7
    refine v_iload_n F dX0_canCatch_10 rfl 1 rfl ?_
    refine v_aload_n F dX0_canCatch_11 rfl 0 rfl ?_
    refine v_get F (id_R hr0 (by decide) hi) (heR hr0) rfl uw_X0 2 (by decide) rfl rfl wf_X0_26 dX0_canCatch_12 ?_
    refine v_iconst F (v := 2) dX0_canCatch_15 (by decide) ?_
    refine v_iadd F dX0_canCatch_16 ?_
    refine v_icmp_gt F (tgt := 24) dX0_canCatch_17 (by decide) (fun c17 => ?_) (fun c17 => ?_)
    · have := c17
      refine v_iconst F (v := 0) dX0_canCatch_24 (by decide) ?_
      refine v_zret F hr dX0_canCatch_25 rfl ?_ rfl rfl
      simp_all [fCan]
    · have := c17
      refine v_iconst F (v := 1) dX0_canCatch_20 (by decide) ?_
      refine v_goto F (tgt := 25) dX0_canCatch_21 (by decide) ?_
      refine v_zret F hr dX0_canCatch_25 rfl ?_ rfl rfl
      simp_all [fCan]
set_option maxHeartbeats 4000000 in
set_option maxRecDepth 100000 in
theorem c_X0_miss {X : Cx} {l : Launch} (G : Gx X l) {M : Mem} {lf : Lf} {r : Nat} (hr0 : r < 2) {σ : Sg} {i : Nat} (hi : i < 4) {k : Nat} (hk : k < 12) : CV X l yX0_miss (wsc yX0_miss cX0_miss 2 none) rm_X0_miss [.ref (X.2.1 r 2 i), .ref (X.2.1 r 8 k)] (uC M r σ) lf (uC M r (fMiss σ i k)) lf 0 0 := by
  refine CV_of (lv := [(0, .ref _), (1, .ref _)]) G (by decide) (Nat.le_of_ble_eq_true rfl) rfl (fun p e s m args below meth c F hr => ?_)
  have F : Fx p l s m args meth c cX0_miss 2 RX0 X := F
  refine v_aload_n F dX0_miss_0 rfl 1 rfl ?_
  refine v_getN F (id_R hr0 (by decide) hk) (heR hr0) rfl uw_X3 0 (by decide) rfl rfl wf_X0_36 dX0_miss_1 ?_
  refine v_iconst F (v := 1) dX0_miss_4 (by decide) ?_
  refine v_icmp_ne F (tgt := 18) dX0_miss_5 (by decide) (fun c5 => ?_) (fun c5 => ?_)
  · have := c5
    refine v_aload_n F dX0_miss_18 rfl 1 rfl ?_
    refine v_callNv F (As := []) (rest := []) rfl (c_X3_fall G hr0 hk) (Rv_T hr0 hk) wm_X0_41 rfl ⟨rfl, rfl, Nat.le_of_ble_eq_true rfl, Nat.le_of_ble_eq_true rfl, Nat.le_of_ble_eq_true rfl, Nat.le_of_ble_eq_true rfl, Nat.le_of_ble_eq_true rfl⟩ dX0_miss_19 ?_
    refine v_vret F hr dX0_miss_22 ?_ rfl
    unfold fMiss
    first | (rw [if_pos c5]) | (rw [if_neg c5])
  · have := c5
    refine v_aload_n F dX0_miss_8 rfl 0 rfl ?_
    refine v_dup F dX0_miss_9 rfl ?_
    refine v_get F (id_R hr0 (by decide) hi) (heR hr0) rfl uw_X0 3 (by decide) rfl rfl wf_X0_30 dX0_miss_10 ?_
    refine v_iconst F (v := 1) dX0_miss_13 (by decide) ?_
    refine v_iadd F dX0_miss_14 ?_
    refine v_putC F tyX0 tyX0_ok nmX0 (id_R hr0 (by decide) hi) (celD_R hr0) rfl uw_X0 3 (by decide) rfl rfl (by decide +kernel) (celD_R hr0) (Nat.le_of_ble_eq_true rfl) wf_X0_30 dX0_miss_15 ?_
    refine v_aload_n F dX0_miss_18 rfl 1 rfl ?_
    refine v_callNv F (As := []) (rest := []) rfl (c_X3_fall G hr0 hk) (Rv_T hr0 hk) wm_X0_41 rfl ⟨rfl, rfl, Nat.le_of_ble_eq_true rfl, Nat.le_of_ble_eq_true rfl, Nat.le_of_ble_eq_true rfl, Nat.le_of_ble_eq_true rfl, Nat.le_of_ble_eq_true rfl⟩ dX0_miss_19 ?_
    refine v_vret F hr dX0_miss_22 ?_ rfl
    unfold fMiss
    first | (rw [if_pos c5]) | (rw [if_neg c5])
set_option maxHeartbeats 4000000 in
set_option maxRecDepth 100000 in
theorem c_X0_thingsHeld {X : Cx} {l : Launch} (G : Gx X l) {M : Mem} {lf : Lf} {r : Nat} (hr0 : r < 2) {σ : Sg} {i : Nat} (hi : i < 4) : CI X l yX0_thingsHeld (wsc yX0_thingsHeld cX0_thingsHeld 3 (some .int)) rm_X0_thingsHeld [.ref (X.2.1 r 2 i)] (uC M r σ) lf (fHeld σ i) (uC M r σ) lf 0 0 := by
  refine CI_of (lv := [(0, .ref _)]) G (by decide) (Nat.le_of_ble_eq_true rfl) rfl (fun p e s m args below meth c F hr => ?_)
  have F : Fx p l s m args meth c cX0_thingsHeld 3 RX0 X := F
  refine v_iconst F (v := 0) dX0_thingsHeld_0 (by decide) ?_
  refine v_istore_n F dX0_thingsHeld_1 rfl (by decide) (lv' := [(1, .int _), (0, .ref _)]) rfl ?_
  refine v_iconst F (v := nI 0) dX0_thingsHeld_2 (by decide) ?_
  refine v_istore_n F dX0_thingsHeld_3 rfl (by decide) (lv' := [(2, .int _), (1, .int _), (0, .ref _)]) rfl ?_
  refine v_iload_n F dX0_thingsHeld_4 rfl 0 rfl ?_
  refine v_iconst F (v := 2) dX0_thingsHeld_5 (by decide) ?_
  refine v_icmp_ge F (tgt := 28) dX0_thingsHeld_6 (by decide) (fun h => absurd h ((by decide))) (fun c6 => ?_)
  refine v_aload_n F dX0_thingsHeld_9 rfl 2 rfl ?_
  refine v_get F (id_R hr0 (by decide) hi) (heR hr0) rfl uw_X0 1 (by decide) rfl rfl wf_X0_18 dX0_thingsHeld_10 ?_
  refine v_iload_n F dX0_thingsHeld_13 rfl 0 rfl ?_
  refine v_iald F (id_R hr0 (by decide) hi) (heR hr0) rfl (0) (Ix_nI (by omega)) dX0_thingsHeld_14 ?_
  refine v_iconst F (v := (-1)) dX0_thingsHeld_15 (by decide) ?_
  refine v_icmp_eq F (tgt := 22) dX0_thingsHeld_16 (by decide) (fun c16 => ?_) (fun c16 => ?_)
  · have := c16
    refine v_iinc F (k := 0) (nI 1) dX0_thingsHeld_22 rfl (by decide) (by decide) (lv' := [(2, .int _), (1, .int _), (0, .ref _)]) rfl ?_
    refine v_goto F (tgt := 4) dX0_thingsHeld_25 (by decide) ?_
    refine v_iload_n F dX0_thingsHeld_4 rfl 0 rfl ?_
    refine v_iconst F (v := 2) dX0_thingsHeld_5 (by decide) ?_
    refine v_icmp_ge F (tgt := 28) dX0_thingsHeld_6 (by decide) (fun h => absurd h ((by decide))) (fun c6 => ?_)
    refine v_aload_n F dX0_thingsHeld_9 rfl 2 rfl ?_
    refine v_get F (id_R hr0 (by decide) hi) (heR hr0) rfl uw_X0 1 (by decide) rfl rfl wf_X0_18 dX0_thingsHeld_10 ?_
    refine v_iload_n F dX0_thingsHeld_13 rfl 0 rfl ?_
    refine v_iald F (id_R hr0 (by decide) hi) (heR hr0) rfl (1) (Ix_nI (by omega)) dX0_thingsHeld_14 ?_
    refine v_iconst F (v := (-1)) dX0_thingsHeld_15 (by decide) ?_
    refine v_icmp_eq F (tgt := 22) dX0_thingsHeld_16 (by decide) (fun c16b => ?_) (fun c16b => ?_)
    · have := c16b
      refine v_iinc F (k := 0) (nI 2) dX0_thingsHeld_22 rfl (by decide) (by decide) (lv' := [(2, .int _), (1, .int _), (0, .ref _)]) rfl ?_
      refine v_goto F (tgt := 4) dX0_thingsHeld_25 (by decide) ?_
      refine v_iload_n F dX0_thingsHeld_4 rfl 0 rfl ?_
      refine v_iconst F (v := 2) dX0_thingsHeld_5 (by decide) ?_
      refine v_icmp_ge F (tgt := 28) dX0_thingsHeld_6 (by decide) (fun c6 => ?_) (fun h => absurd ((by decide)) h)
      refine v_iload_n F dX0_thingsHeld_28 rfl 1 rfl ?_
      refine v_iret F hr dX0_thingsHeld_29 ?_ rfl rfl
      simp_all [fHeld, cI]
    · have := c16b
      refine v_iinc F (k := 1) (_) dX0_thingsHeld_19 rfl rfl (by decide) (lv' := [(1, .int _), (2, .int _), (0, .ref _)]) rfl ?_
      refine v_iinc F (k := 1) (nI 2) dX0_thingsHeld_22 rfl (by decide) (by decide) (lv' := [(2, .int _), (1, .int _), (0, .ref _)]) rfl ?_
      refine v_goto F (tgt := 4) dX0_thingsHeld_25 (by decide) ?_
      refine v_iload_n F dX0_thingsHeld_4 rfl 0 rfl ?_
      refine v_iconst F (v := 2) dX0_thingsHeld_5 (by decide) ?_
      refine v_icmp_ge F (tgt := 28) dX0_thingsHeld_6 (by decide) (fun c6 => ?_) (fun h => absurd ((by decide)) h)
      refine v_iload_n F dX0_thingsHeld_28 rfl 1 rfl ?_
      refine v_iret F hr dX0_thingsHeld_29 ?_ rfl rfl
      simp_all [fHeld, cI]
  · have := c16
    refine v_iinc F (k := 1) (_) dX0_thingsHeld_19 rfl rfl (by decide) (lv' := [(1, .int _), (2, .int _), (0, .ref _)]) rfl ?_
    refine v_iinc F (k := 1) (nI 1) dX0_thingsHeld_22 rfl (by decide) (by decide) (lv' := [(2, .int _), (1, .int _), (0, .ref _)]) rfl ?_
    refine v_goto F (tgt := 4) dX0_thingsHeld_25 (by decide) ?_
    refine v_iload_n F dX0_thingsHeld_4 rfl 0 rfl ?_
    refine v_iconst F (v := 2) dX0_thingsHeld_5 (by decide) ?_
    refine v_icmp_ge F (tgt := 28) dX0_thingsHeld_6 (by decide) (fun h => absurd h ((by decide))) (fun c6 => ?_)
    refine v_aload_n F dX0_thingsHeld_9 rfl 2 rfl ?_
    refine v_get F (id_R hr0 (by decide) hi) (heR hr0) rfl uw_X0 1 (by decide) rfl rfl wf_X0_18 dX0_thingsHeld_10 ?_
    refine v_iload_n F dX0_thingsHeld_13 rfl 0 rfl ?_
    refine v_iald F (id_R hr0 (by decide) hi) (heR hr0) rfl (1) (Ix_nI (by omega)) dX0_thingsHeld_14 ?_
    refine v_iconst F (v := (-1)) dX0_thingsHeld_15 (by decide) ?_
    refine v_icmp_eq F (tgt := 22) dX0_thingsHeld_16 (by decide) (fun c16b => ?_) (fun c16b => ?_)
    · have := c16b
      refine v_iinc F (k := 0) (nI 2) dX0_thingsHeld_22 rfl (by decide) (by decide) (lv' := [(2, .int _), (1, .int _), (0, .ref _)]) rfl ?_
      refine v_goto F (tgt := 4) dX0_thingsHeld_25 (by decide) ?_
      refine v_iload_n F dX0_thingsHeld_4 rfl 0 rfl ?_
      refine v_iconst F (v := 2) dX0_thingsHeld_5 (by decide) ?_
      refine v_icmp_ge F (tgt := 28) dX0_thingsHeld_6 (by decide) (fun c6 => ?_) (fun h => absurd ((by decide)) h)
      refine v_iload_n F dX0_thingsHeld_28 rfl 1 rfl ?_
      refine v_iret F hr dX0_thingsHeld_29 ?_ rfl rfl
      simp_all [fHeld, cI]
    · have := c16b
      refine v_iinc F (k := 1) (_) dX0_thingsHeld_19 rfl rfl (by decide) (lv' := [(1, .int _), (2, .int _), (0, .ref _)]) rfl ?_
      refine v_iinc F (k := 1) (nI 2) dX0_thingsHeld_22 rfl (by decide) (by decide) (lv' := [(2, .int _), (1, .int _), (0, .ref _)]) rfl ?_
      refine v_goto F (tgt := 4) dX0_thingsHeld_25 (by decide) ?_
      refine v_iload_n F dX0_thingsHeld_4 rfl 0 rfl ?_
      refine v_iconst F (v := 2) dX0_thingsHeld_5 (by decide) ?_
      refine v_icmp_ge F (tgt := 28) dX0_thingsHeld_6 (by decide) (fun c6 => ?_) (fun h => absurd ((by decide)) h)
      refine v_iload_n F dX0_thingsHeld_28 rfl 1 rfl ?_
      refine v_iret F hr dX0_thingsHeld_29 ?_ rfl rfl
      simp_all [fHeld, cI]
set_option maxHeartbeats 4000000 in
set_option maxRecDepth 100000 in
theorem c_X0_copyFrom {X : Cx} {l : Launch} (G : Gx X l) {M : Mem} {lf : Lf} {r t : Nat} (hr0 : r < 2) (ht0 : t < 2) (htr : t ≠ r) {σ : Sg} {i : Nat} (hi : i < 4) {n : Nat} (h8 : n ≤ 8) (hn : M t 3 i 2 = nI n) : CV X l yX0_copyFrom (wsc yX0_copyFrom cX0_copyFrom 3 none) rm_X0_copyFrom [.ref (X.2.1 r 2 i), .ref (X.2.1 t 2 i)] (uC M r σ) lf (uC M r (fCopyJ σ (M t) i n)) lf 0 0 := by
  refine CV_of (lv := [(0, .ref _), (1, .ref _)]) G (by decide) (Nat.le_of_ble_eq_true rfl) rfl (fun p e s m args below meth c F hr => ?_)
  have F : Fx p l s m args meth c cX0_copyFrom 3 RX0 X := F
  refine v_aload_n F dX0_copyFrom_0 rfl 0 rfl ?_
  refine v_get F (id_R hr0 (by decide) hi) (heR hr0) rfl uw_X0 0 (by decide) rfl rfl wf_X0_12 dX0_copyFrom_1 ?_
  refine v_aload_n F dX0_copyFrom_4 rfl 1 rfl ?_
  refine v_get F (id_R ht0 (by decide) hi) ((heO htr).trans ((celD_R ht0))) rfl uw_X0 0 (by decide) rfl rfl wf_X0_12 dX0_copyFrom_5 ?_
  refine v_callNv F (As := [_]) (rest := []) rfl (c_X1_copyFrom G hr0 ht0 htr hi h8 hn) (Rv_P hr0 hi) wm_X0_22 rfl ⟨rfl, rfl, Nat.le_of_ble_eq_true rfl, Nat.le_of_ble_eq_true rfl, Nat.le_of_ble_eq_true rfl, Nat.le_of_ble_eq_true rfl, Nat.le_of_ble_eq_true rfl⟩ dX0_copyFrom_8 ?_
  refine v_iconst F (v := nI 0) dX0_copyFrom_11 (by decide) ?_
  refine v_istore_n F dX0_copyFrom_12 rfl (by decide) (lv' := [(2, .int _), (0, .ref _), (1, .ref _)]) rfl ?_
  refine v_iload_n F dX0_copyFrom_13 rfl 0 rfl ?_
  refine v_iconst F (v := 2) dX0_copyFrom_14 (by decide) ?_
  refine v_icmp_ge F (tgt := 36) dX0_copyFrom_15 (by decide) (fun h => absurd h ((by decide))) (fun c15 => ?_)
  refine v_aload_n F dX0_copyFrom_18 rfl 1 rfl ?_
  refine v_get F (id_R hr0 (by decide) hi) (heR hr0) rfl uw_X0 1 (by decide) rfl rfl wf_X0_18 dX0_copyFrom_19 ?_
  refine v_iload_n F dX0_copyFrom_22 rfl 0 rfl ?_
  refine v_aload_n F dX0_copyFrom_23 rfl 2 rfl ?_
  refine v_get F (id_R ht0 (by decide) hi) ((heO htr).trans ((celD_R ht0))) rfl uw_X0 1 (by decide) rfl rfl wf_X0_18 dX0_copyFrom_24 ?_
  refine v_iload_n F dX0_copyFrom_27 rfl 0 rfl ?_
  refine v_iald F (id_R ht0 (by decide) hi) ((heO htr).trans ((celD_R ht0))) rfl (0) (Ix_nI (by omega)) dX0_copyFrom_28 ?_
  refine v_iastC F (id_R hr0 (by decide) hi) (celD_R hr0) rfl (0) (Ix_nI (by omega)) (celD_R hr0) dX0_copyFrom_29 ?_
  refine v_iinc F (k := 0) (nI 1) dX0_copyFrom_30 rfl (by decide) (by decide) (lv' := [(2, .int _), (0, .ref _), (1, .ref _)]) rfl ?_
  refine v_goto F (tgt := 13) dX0_copyFrom_33 (by decide) ?_
  refine v_iload_n F dX0_copyFrom_13 rfl 0 rfl ?_
  refine v_iconst F (v := 2) dX0_copyFrom_14 (by decide) ?_
  refine v_icmp_ge F (tgt := 36) dX0_copyFrom_15 (by decide) (fun h => absurd h ((by decide))) (fun c15 => ?_)
  refine v_aload_n F dX0_copyFrom_18 rfl 1 rfl ?_
  refine v_get F (id_R hr0 (by decide) hi) (heR hr0) rfl uw_X0 1 (by decide) rfl rfl wf_X0_18 dX0_copyFrom_19 ?_
  refine v_iload_n F dX0_copyFrom_22 rfl 0 rfl ?_
  refine v_aload_n F dX0_copyFrom_23 rfl 2 rfl ?_
  refine v_get F (id_R ht0 (by decide) hi) ((heO htr).trans ((celD_R ht0))) rfl uw_X0 1 (by decide) rfl rfl wf_X0_18 dX0_copyFrom_24 ?_
  refine v_iload_n F dX0_copyFrom_27 rfl 0 rfl ?_
  refine v_iald F (id_R ht0 (by decide) hi) ((heO htr).trans ((celD_R ht0))) rfl (1) (Ix_nI (by omega)) dX0_copyFrom_28 ?_
  refine v_iastC F (id_R hr0 (by decide) hi) (celD_R hr0) rfl (1) (Ix_nI (by omega)) (celD_R hr0) dX0_copyFrom_29 ?_
  refine v_iinc F (k := 0) (nI 2) dX0_copyFrom_30 rfl (by decide) (by decide) (lv' := [(2, .int _), (0, .ref _), (1, .ref _)]) rfl ?_
  refine v_goto F (tgt := 13) dX0_copyFrom_33 (by decide) ?_
  refine v_iload_n F dX0_copyFrom_13 rfl 0 rfl ?_
  refine v_iconst F (v := 2) dX0_copyFrom_14 (by decide) ?_
  refine v_icmp_ge F (tgt := 36) dX0_copyFrom_15 (by decide) (fun c15 => ?_) (fun h => absurd ((by decide)) h)
  refine v_aload_n F dX0_copyFrom_36 rfl 1 rfl ?_
  refine v_aload_n F dX0_copyFrom_37 rfl 2 rfl ?_
  refine v_get F (id_R ht0 (by decide) hi) ((heO htr).trans ((celD_R ht0))) rfl uw_X0 2 (by decide) rfl rfl wf_X0_26 dX0_copyFrom_38 ?_
  refine v_putC F tyX0 tyX0_ok nmX0 (id_R hr0 (by decide) hi) (celD_R hr0) rfl uw_X0 2 (by decide) rfl rfl (by decide +kernel) (celD_R hr0) (Nat.le_of_ble_eq_true rfl) wf_X0_26 dX0_copyFrom_41 ?_
  refine v_aload_n F dX0_copyFrom_44 rfl 1 rfl ?_
  refine v_aload_n F dX0_copyFrom_45 rfl 2 rfl ?_
  refine v_get F (id_R ht0 (by decide) hi) ((heO htr).trans ((celD_R ht0))) rfl uw_X0 3 (by decide) rfl rfl wf_X0_30 dX0_copyFrom_46 ?_
  refine v_putC F tyX0 tyX0_ok nmX0 (id_R hr0 (by decide) hi) (celD_R hr0) rfl uw_X0 3 (by decide) rfl rfl (by decide +kernel) (celD_R hr0) (Nat.le_of_ble_eq_true rfl) wf_X0_30 dX0_copyFrom_49 ?_
  refine v_aload_n F dX0_copyFrom_52 rfl 1 rfl ?_
  refine v_aload_n F dX0_copyFrom_53 rfl 2 rfl ?_
  refine v_get F (id_R ht0 (by decide) hi) ((heO htr).trans ((celD_R ht0))) rfl uw_X0 4 (by decide) rfl rfl wf_X0_33 dX0_copyFrom_54 ?_
  refine v_putC F tyX0 tyX0_ok nmX0 (id_R hr0 (by decide) hi) (celD_R hr0) rfl uw_X0 4 (by decide) rfl rfl (by decide +kernel) (celD_R hr0) (Nat.le_of_ble_eq_true rfl) wf_X0_33 dX0_copyFrom_57 ?_
  exact v_vret F hr dX0_copyFrom_60 rfl rfl
end
section
/-! ===== contracts of a ring ===== -/
abbrev rm_X2_hasJuggler : Room := { frames := 0, cells := 0, slots := 0, locals := 0 }
abbrev rm_X2_hasThing : Room := { frames := 0, cells := 0, slots := 0, locals := 0 }
abbrev rm_X2_putIntoHand : Room := { frames := 0, cells := 0, slots := 0, locals := 0 }
abbrev rm_X2_addThing : Room := { frames := 0, cells := 0, slots := 0, locals := 0 }
abbrev rm_X2_addJuggler : Room := { frames := 1, cells := 0, slots := 0, locals := 25 }
abbrev rm_X2_thingsIn : Room := { frames := 0, cells := 0, slots := 0, locals := 0 }
abbrev rm_X2_thingsFlyingTo : Room := { frames := 0, cells := 0, slots := 0, locals := 0 }
abbrev rm_X2_allThrown : Room := { frames := 0, cells := 0, slots := 0, locals := 0 }
abbrev rm_X2_allFell : Room := { frames := 0, cells := 0, slots := 0, locals := 0 }
abbrev rm_X2_allBruises : Room := { frames := 0, cells := 0, slots := 0, locals := 0 }
abbrev rm_X2_comeDown : Room := { frames := 2, cells := 0, slots := 0, locals := 41 }
abbrev rm_X2_throwFrom : Room := { frames := 2, cells := 0, slots := 0, locals := 44 }
abbrev rm_X2_playBeat : Room := { frames := 3, cells := 0, slots := 0, locals := 69 }
abbrev rm_X2_play : Room := { frames := 4, cells := 0, slots := 0, locals := 92 }
abbrev rm_X2_tellThing : Room := { frames := 0, cells := 0, slots := 0, locals := 0 }
abbrev rm_X2_tellJuggler : Room := { frames := 1, cells := 0, slots := 0, locals := 23 }
abbrev rm_X2_tellCount : Room := { frames := 1, cells := 0, slots := 0, locals := 23 }
abbrev rm_X2_copyFrom : Room := { frames := 2, cells := 0, slots := 0, locals := 44 }
set_option maxHeartbeats 4000000 in
set_option maxRecDepth 100000 in
theorem c_X2_hasJuggler {X : Cx} {l : Launch} (G : Gx X l) {M : Mem} {lf : Lf} {r : Nat} (hr0 : r < 2) {σ : Sg} (x : Int32) : CI X l yX2_hasJuggler (wsc yX2_hasJuggler cX2_hasJuggler 2 (some .boolean)) rm_X2_hasJuggler [.ref (X.2.1 r 0 0), .int x] (uC M r σ) lf (fHasJ σ x) (uC M r σ) lf 0 0 := by
  refine CI_of (lv := [(0, .ref _), (1, .int _)]) G (by decide) (Nat.le_of_ble_eq_true rfl) rfl (fun p e s m args below meth c F hr => ?_)
  have F : Fx p l s m args meth c cX2_hasJuggler 2 RX2 X := F
  refine v_iload_n F dX2_hasJuggler_0 rfl 1 rfl ?_
  refine v_if_lt F (tgt := 16) dX2_hasJuggler_1 (by decide) (fun c1 => ?_) (fun c1 => ?_)
  · have := c1
    refine v_iconst F (v := 0) dX2_hasJuggler_16 (by decide) ?_
    refine v_zret F hr dX2_hasJuggler_17 rfl ?_ rfl rfl
    simp_all [fHasJ]
  · have := c1
    refine v_iload_n F dX2_hasJuggler_4 rfl 1 rfl ?_
    refine v_aload_n F dX2_hasJuggler_5 rfl 0 rfl ?_
    refine v_get F (id_R hr0 (by decide) (by decide)) (heR hr0) rfl uw_X2 2 (by decide) rfl rfl wf_X2_25 dX2_hasJuggler_6 ?_
    refine v_icmp_ge F (tgt := 16) dX2_hasJuggler_9 (by decide) (fun c9 => ?_) (fun c9 => ?_)
    · have := c9
      refine v_iconst F (v := 0) dX2_hasJuggler_16 (by decide) ?_
      refine v_zret F hr dX2_hasJuggler_17 rfl ?_ rfl rfl
      simp_all [fHasJ]
    · have := c9
      refine v_iconst F (v := 1) dX2_hasJuggler_12 (by decide) ?_
      refine v_goto F (tgt := 17) dX2_hasJuggler_13 (by decide) ?_
      refine v_zret F hr dX2_hasJuggler_17 rfl ?_ rfl rfl
      simp_all [fHasJ]
set_option maxHeartbeats 4000000 in
set_option maxRecDepth 100000 in
theorem c_X2_hasThing {X : Cx} {l : Launch} (G : Gx X l) {M : Mem} {lf : Lf} {r : Nat} (hr0 : r < 2) {σ : Sg} (x : Int32) : CI X l yX2_hasThing (wsc yX2_hasThing cX2_hasThing 2 (some .boolean)) rm_X2_hasThing [.ref (X.2.1 r 0 0), .int x] (uC M r σ) lf (fHasT σ x) (uC M r σ) lf 0 0 := by
  refine CI_of (lv := [(0, .ref _), (1, .int _)]) G (by decide) (Nat.le_of_ble_eq_true rfl) rfl (fun p e s m args below meth c F hr => ?_)
  have F : Fx p l s m args meth c cX2_hasThing 2 RX2 X := F
  refine v_iload_n F dX2_hasThing_0 rfl 1 rfl ?_
  refine v_if_lt F (tgt := 16) dX2_hasThing_1 (by decide) (fun c1 => ?_) (fun c1 => ?_)
  · have := c1
    refine v_iconst F (v := 0) dX2_hasThing_16 (by decide) ?_
    refine v_zret F hr dX2_hasThing_17 rfl ?_ rfl rfl
    simp_all [fHasT]
  · have := c1
    refine v_iload_n F dX2_hasThing_4 rfl 1 rfl ?_
    refine v_aload_n F dX2_hasThing_5 rfl 0 rfl ?_
    refine v_get F (id_R hr0 (by decide) (by decide)) (heR hr0) rfl uw_X2 3 (by decide) rfl rfl wf_X2_29 dX2_hasThing_6 ?_
    refine v_icmp_ge F (tgt := 16) dX2_hasThing_9 (by decide) (fun c9 => ?_) (fun c9 => ?_)
    · have := c9
      refine v_iconst F (v := 0) dX2_hasThing_16 (by decide) ?_
      refine v_zret F hr dX2_hasThing_17 rfl ?_ rfl rfl
      simp_all [fHasT]
    · have := c9
      refine v_iconst F (v := 1) dX2_hasThing_12 (by decide) ?_
      refine v_goto F (tgt := 17) dX2_hasThing_13 (by decide) ?_
      refine v_zret F hr dX2_hasThing_17 rfl ?_ rfl rfl
      simp_all [fHasT]
set_option maxHeartbeats 4000000 in
set_option maxRecDepth 100000 in
theorem c_X2_putIntoHand {X : Cx} {l : Launch} (G : Gx X l) {M : Mem} {lf : Lf} {r : Nat} (hr0 : r < 2) {σ : Sg} {k : Nat} (hk : k < 12) (to : Int32) {j : Nat} (hx : Ix to j 4) {hd : Nat} (hh : hd < 2) : CV X l yX2_putIntoHand (wsc yX2_putIntoHand cX2_putIntoHand 5 none) rm_X2_putIntoHand [.ref (X.2.1 r 0 0), .int (nI k), .int to, .int (nI hd)] (uC M r σ) lf (uC M r (fPut σ k to j hd)) lf 0 0 := by
  refine CV_of (lv := [(0, .ref _), (1, .int _), (2, .int _), (3, .int _)]) G (by decide) (Nat.le_of_ble_eq_true rfl) rfl (fun p e s m args below meth c F hr => ?_)
  have F : Fx p l s m args meth c cX2_putIntoHand 5 RX2 X := F
  refine v_aload_n F dX2_putIntoHand_0 rfl 0 rfl ?_
  refine v_get F (id_R hr0 (by decide) (by decide)) (heR hr0) rfl uw_X2 0 (by decide) rfl rfl wf_X2_11 dX2_putIntoHand_1 ?_
  refine v_iload_n F dX2_putIntoHand_4 rfl 2 rfl ?_
  refine v_aaldJ F hr0 (j) hx dX2_putIntoHand_5 ?_
  refine v_getN F (id_R hr0 (by decide) hx.2.2) (heR hr0) rfl uw_X0 1 (by decide) rfl rfl wf_X2_58 dX2_putIntoHand_6 ?_
  refine v_iload_n F dX2_putIntoHand_9 rfl 3 rfl ?_
  refine v_iload_n F dX2_putIntoHand_10 rfl 1 rfl ?_
  refine v_iastC F (id_R hr0 (by decide) hx.2.2) (celD_R hr0) rfl (hd) (Ix_nI hh) (celD_R hr0) dX2_putIntoHand_11 ?_
  refine v_aload_n F dX2_putIntoHand_12 rfl 0 rfl ?_
  refine v_get F (id_R hr0 (by decide) (by decide)) (heR hr0) rfl uw_X2 1 (by decide) rfl rfl wf_X2_20 dX2_putIntoHand_13 ?_
  refine v_iload_n F dX2_putIntoHand_16 rfl 1 rfl ?_
  refine v_aaldT F hr0 (k) (Ix_nI hk) dX2_putIntoHand_17 ?_
  refine v_astore F dX2_putIntoHand_18 (by decide) (lv' := [(4, .ref _), (0, .ref _), (1, .int _), (2, .int _), (3, .int _)]) rfl ?_
  refine v_aload F dX2_putIntoHand_20 0 rfl ?_
  refine v_iconst F (v := 1) dX2_putIntoHand_22 (by decide) ?_
  refine v_putNC F tyX3 tyX3_ok nmX3 (id_R hr0 (by decide) hk) (celD_R hr0) rfl uw_X3 1 (by decide) rfl rfl (by decide +kernel) (celD_R hr0) (Nat.le_of_ble_eq_true rfl) wf_X2_62 dX2_putIntoHand_23 ?_
  refine v_aload F dX2_putIntoHand_26 0 rfl ?_
  refine v_iload_n F dX2_putIntoHand_28 rfl 3 rfl ?_
  refine v_putNC F tyX3 tyX3_ok nmX3 (id_R hr0 (by decide) hk) (celD_R hr0) rfl uw_X3 2 (by decide) rfl rfl (by decide +kernel) (celD_R hr0) (Nat.le_of_ble_eq_true rfl) wf_X2_65 dX2_putIntoHand_29 ?_
  refine v_aload F dX2_putIntoHand_32 0 rfl ?_
  refine v_iload_n F dX2_putIntoHand_34 rfl 4 rfl ?_
  refine v_putNC F tyX3 tyX3_ok nmX3 (id_R hr0 (by decide) hk) (celD_R hr0) rfl uw_X3 3 (by decide) rfl rfl (by decide +kernel) (celD_R hr0) (Nat.le_of_ble_eq_true rfl) wf_X2_68 dX2_putIntoHand_35 ?_
  exact v_vret F hr dX2_putIntoHand_38 rfl rfl
set_option maxHeartbeats 4000000 in
set_option maxRecDepth 100000 in
theorem c_X2_addThing {X : Cx} {l : Launch} (G : Gx X l) {M : Mem} {lf : Lf} {r : Nat} (hr0 : r < 2) {σ : Sg} {k : Nat} (hk : k < 12) (hσ : σ 0 0 3 = nI k) (x : Int32) : CI X l yX2_addThing (wsc yX2_addThing cX2_addThing 3 (some .int)) rm_X2_addThing [.ref (X.2.1 r 0 0), .int x] (uC M r σ) lf (nI k) (uC M r (fAddT σ k x)) lf 0 0 := by
  refine CI_of (lv := [(0, .ref _), (1, .int _)]) G (by decide) (Nat.le_of_ble_eq_true rfl) rfl (fun p e s m args below meth c F hr => ?_)
  have F : Fx p l s m args meth c cX2_addThing 3 RX2 X := F
  refine v_aload_n F dX2_addThing_0 rfl 0 rfl ?_
  refine v_get F (id_R hr0 (by decide) (by decide)) (heR hr0) rfl uw_X2 3 (by decide) rfl rfl wf_X2_29 dX2_addThing_1 ?_
  refine v_topr (nI k) hσ ?_
  refine v_istore_n F dX2_addThing_4 rfl (by decide) (lv' := [(2, .int _), (0, .ref _), (1, .int _)]) rfl ?_
  refine v_aload_n F dX2_addThing_5 rfl 1 rfl ?_
  refine v_get F (id_R hr0 (by decide) (by decide)) (heR hr0) rfl uw_X2 1 (by decide) rfl rfl wf_X2_20 dX2_addThing_6 ?_
  refine v_iload_n F dX2_addThing_9 rfl 0 rfl ?_
  refine v_aaldT F hr0 (k) (Ix_nI hk) dX2_addThing_10 ?_
  refine v_iload_n F dX2_addThing_11 rfl 2 rfl ?_
  refine v_putNC F tyX3 tyX3_ok nmX3 (id_R hr0 (by decide) hk) (celD_R hr0) rfl uw_X3 0 (by decide) rfl rfl (by decide +kernel) (celD_R hr0) (Nat.le_of_ble_eq_true rfl) wf_X2_55 dX2_addThing_12 ?_
  refine v_aload_n F dX2_addThing_15 rfl 1 rfl ?_
  refine v_dup F dX2_addThing_16 rfl ?_
  refine v_get F (id_R hr0 (by decide) (by decide)) (heR hr0) rfl uw_X2 3 (by decide) rfl rfl wf_X2_29 dX2_addThing_17 ?_
  refine v_topr (nI k) (by rw [u3_ne (by omega)]; exact hσ) ?_
  refine v_iconst F (v := 1) dX2_addThing_20 (by decide) ?_
  refine v_iadd F dX2_addThing_21 ?_
  refine v_putC F tyX2 tyX2_ok nmX2 (id_R hr0 (by decide) (by decide)) (celD_R hr0) rfl uw_X2 3 (by decide) rfl rfl (by decide +kernel) (celD_R hr0) (Nat.le_of_ble_eq_true rfl) wf_X2_29 dX2_addThing_22 ?_
  refine v_iload_n F dX2_addThing_25 rfl 0 rfl ?_
  exact v_iret F hr dX2_addThing_26 rfl rfl rfl
set_option maxHeartbeats 4000000 in
set_option maxRecDepth 100000 in
theorem c_X2_addJuggler {X : Cx} {l : Launch} (G : Gx X l) {M : Mem} {lf : Lf} {r : Nat} (hr0 : r < 2) {σ : Sg} {j : Nat} (hj : j < 4) (hσ : σ 0 0 2 = nI j) (x : Int32) : CI X l yX2_addJuggler (wsc yX2_addJuggler cX2_addJuggler 3 (some .int)) rm_X2_addJuggler [.ref (X.2.1 r 0 0), .int x] (uC M r σ) lf (nI j) (uC M r (fAddJ σ j x)) lf 0 0 := by
  refine CI_of (lv := [(0, .ref _), (1, .int _)]) G (by decide) (Nat.le_of_ble_eq_true rfl) rfl (fun p e s m args below meth c F hr => ?_)
  have F : Fx p l s m args meth c cX2_addJuggler 3 RX2 X := F
  refine v_aload_n F dX2_addJuggler_0 rfl 0 rfl ?_
  refine v_get F (id_R hr0 (by decide) (by decide)) (heR hr0) rfl uw_X2 2 (by decide) rfl rfl wf_X2_25 dX2_addJuggler_1 ?_
  refine v_topr (nI j) hσ ?_
  refine v_istore_n F dX2_addJuggler_4 rfl (by decide) (lv' := [(2, .int _), (0, .ref _), (1, .int _)]) rfl ?_
  refine v_aload_n F dX2_addJuggler_5 rfl 1 rfl ?_
  refine v_get F (id_R hr0 (by decide) (by decide)) (heR hr0) rfl uw_X2 0 (by decide) rfl rfl wf_X2_11 dX2_addJuggler_6 ?_
  refine v_iload_n F dX2_addJuggler_9 rfl 0 rfl ?_
  refine v_aaldJ F hr0 (j) (Ix_nI hj) dX2_addJuggler_10 ?_
  refine v_iload_n F dX2_addJuggler_11 rfl 2 rfl ?_
  refine v_putNC F tyX0 tyX0_ok nmX0 (id_R hr0 (by decide) hj) (celD_R hr0) rfl uw_X0 2 (by decide) rfl rfl (by decide +kernel) (celD_R hr0) (Nat.le_of_ble_eq_true rfl) wf_X2_42 dX2_addJuggler_12 ?_
  refine v_aload_n F dX2_addJuggler_15 rfl 1 rfl ?_
  refine v_get F (id_R hr0 (by decide) (by decide)) (heR hr0) rfl uw_X2 0 (by decide) rfl rfl wf_X2_11 dX2_addJuggler_16 ?_
  refine v_iload_n F dX2_addJuggler_19 rfl 0 rfl ?_
  refine v_aaldJ F hr0 (j) (Ix_nI hj) dX2_addJuggler_20 ?_
  refine v_getN F (id_R hr0 (by decide) hj) (heR hr0) rfl uw_X0 0 (by decide) rfl rfl wf_X2_45 dX2_addJuggler_21 ?_
  refine v_iload_n F dX2_addJuggler_24 rfl 0 rfl ?_
  refine v_iconst F (v := nI 1) dX2_addJuggler_25 (by decide) ?_
  refine v_iconst F (v := 0) dX2_addJuggler_26 (by decide) ?_
  refine v_callNv F (As := [_, _, _]) (rest := []) rfl (c_X1_write G hr0 hj (nI j) 0 (Nat.le_refl 1) (by decide)) (Rv_P hr0 hj) wm_X2_49 rfl ⟨rfl, rfl, Nat.le_of_ble_eq_true rfl, Nat.le_of_ble_eq_true rfl, Nat.le_of_ble_eq_true rfl, Nat.le_of_ble_eq_true rfl, Nat.le_of_ble_eq_true rfl⟩ dX2_addJuggler_27 ?_
  refine v_gen (fun τ1 h1 => ?_)
  refine v_aload_n F dX2_addJuggler_30 rfl 1 rfl ?_
  refine v_dup F dX2_addJuggler_31 rfl ?_
  refine v_get F (id_R hr0 (by decide) (by decide)) (heR hr0) rfl uw_X2 2 (by decide) rfl rfl wf_X2_25 dX2_addJuggler_32 ?_
  refine v_topr (nI j) (by rw [h1, fWrite_k (by decide) (by decide) (by decide), u3_ne (by omega)]; exact hσ) ?_
  refine v_iconst F (v := 1) dX2_addJuggler_35 (by decide) ?_
  refine v_iadd F dX2_addJuggler_36 ?_
  refine v_putC F tyX2 tyX2_ok nmX2 (id_R hr0 (by decide) (by decide)) (celD_R hr0) rfl uw_X2 2 (by decide) rfl rfl (by decide +kernel) (celD_R hr0) (Nat.le_of_ble_eq_true rfl) wf_X2_25 dX2_addJuggler_37 ?_
  refine v_iload_n F dX2_addJuggler_40 rfl 0 rfl ?_
  refine v_iret F hr dX2_addJuggler_41 rfl ?_ rfl
  rw [h1]
  rfl
section RR
variable {p : Program} {l : Launch} {e : Env} {R : Room} {s : State} {m : MethodId} {args : Array Value} {below : List Frame} {meth : Method} {c : Code} {Q : State → Prop} {X : Cx} {nL : Nat} {ex : va_W} {M : Mem} {lf : Lf} {cells slots : Nat}
set_option maxHeartbeats 4000000 in
set_option maxRecDepth 100000 in
theorem L_X2_allThrown (F : Fx p l s m args meth c cX2_allThrown 3 RX2 X) {r : Nat} (hr0 : r < 2) {σ : Sg} {jc tc : Nat} {ln : Nat → Nat} (hS : Shp σ jc tc ln) (hb : tc ≤ 12) (K : V p l e R s m args below meth c Q X 3 ex (uC M r σ) lf cells slots 30 [(2, .int (nI tc)), (1, .int (sI (fun k => σ 8 k 6) tc)), (0, .ref (X.2.1 r 0 0))] []) : ∀ (k q : Nat), k + q = tc → V p l e R s m args below meth c Q X 3 ex (uC M r σ) lf cells slots 4 [(2, .int (nI q)), (1, .int (sI (fun k => σ 8 k 6) q)), (0, .ref (X.2.1 r 0 0))] [] := by
  intro k
  induction k with
  | zero =>
    intro q hq
    obtain rfl : q = tc := by omega
    refine v_iload_n F dX2_allThrown_4 rfl 0 rfl ?_
    refine v_aload_n F dX2_allThrown_5 rfl 2 rfl ?_
    refine v_get F (id_R hr0 (by decide) (by decide)) (heR hr0) rfl uw_X2 3 (by decide) rfl rfl wf_X2_29 dX2_allThrown_6 ?_
    refine v_topr (nI q) hS.2.2.2.1 ?_
    refine v_icmp_ge F (tgt := 30) dX2_allThrown_9 (by decide) (fun c9 => ?_) (fun h => absurd (nI_le (Nat.le_refl _) (by omega)) h)
    exact K
  | succ k ih =>
    intro q hq
    refine v_iload_n F dX2_allThrown_4 rfl 0 rfl ?_
    refine v_aload_n F dX2_allThrown_5 rfl 2 rfl ?_
    refine v_get F (id_R hr0 (by decide) (by decide)) (heR hr0) rfl uw_X2 3 (by decide) rfl rfl wf_X2_29 dX2_allThrown_6 ?_
    refine v_topr (nI tc) hS.2.2.2.1 ?_
    refine v_icmp_ge F (tgt := 30) dX2_allThrown_9 (by decide) (fun h => absurd h (nI_ge (by omega) (by omega))) (fun c9 => ?_)
    refine v_iload_n F dX2_allThrown_12 rfl 1 rfl ?_
    refine v_aload_n F dX2_allThrown_13 rfl 2 rfl ?_
    refine v_get F (id_R hr0 (by decide) (by decide)) (heR hr0) rfl uw_X2 1 (by decide) rfl rfl wf_X2_20 dX2_allThrown_14 ?_
    refine v_iload_n F dX2_allThrown_17 rfl 0 rfl ?_
    refine v_aaldT F hr0 (q) (Ix_nI (by omega)) dX2_allThrown_18 ?_
    refine v_getN F (id_R hr0 (by decide) (show _ < 12 by omega)) (heR hr0) rfl uw_X3 6 (by decide) rfl rfl wf_X2_121 dX2_allThrown_19 ?_
    refine v_iadd F dX2_allThrown_22 ?_
    refine v_istore_n F dX2_allThrown_23 rfl (by decide) (lv' := [(1, .int _), (2, .int _), (0, .ref _)]) rfl ?_
    refine v_iinc F (k := 1) (nI (q + 1)) dX2_allThrown_24 rfl (iinc_nI q) (by decide) (lv' := [(2, .int _), (1, .int _), (0, .ref _)]) rfl ?_
    refine v_goto F (tgt := 4) dX2_allThrown_27 (by decide) ?_
    exact ih (q + 1) (by omega)
set_option maxHeartbeats 4000000 in
set_option maxRecDepth 100000 in
theorem c_X2_allThrown {X : Cx} {l : Launch} (G : Gx X l) {M : Mem} {lf : Lf} {r : Nat} (hr0 : r < 2) {σ : Sg} {jc tc : Nat} {ln : Nat → Nat} (hS : Shp σ jc tc ln)  : CI X l yX2_allThrown (wsc yX2_allThrown cX2_allThrown 3 (some .int)) rm_X2_allThrown [.ref (X.2.1 r 0 0)] (uC M r σ) lf (sI (fun k => σ 8 k 6) tc) (uC M r σ) lf 0 0 := by
  refine CI_of (lv := [(0, .ref _)]) G (by decide) (Nat.le_of_ble_eq_true rfl) rfl (fun p e s m args below meth c F hr => ?_)
  have F : Fx p l s m args meth c cX2_allThrown 3 RX2 X := F
  refine v_iconst F (v := 0) dX2_allThrown_0 (by decide) ?_
  refine v_istore_n F dX2_allThrown_1 rfl (by decide) (lv' := [(1, .int _), (0, .ref _)]) rfl ?_
  refine v_iconst F (v := nI 0) dX2_allThrown_2 (by decide) ?_
  refine v_istore_n F dX2_allThrown_3 rfl (by decide) (lv' := [(2, .int _), (1, .int _), (0, .ref _)]) rfl ?_
  refine L_X2_allThrown F hr0 hS (by have := hS.1; have := hS.2.1; omega) ?_ tc 0 (Nat.add_zero tc)
  · skip
    refine v_iload_n F dX2_allThrown_30 rfl 1 rfl ?_
    exact v_iret F hr dX2_allThrown_31 rfl rfl rfl
set_option maxHeartbeats 4000000 in
set_option maxRecDepth 100000 in
theorem L_X2_allFell (F : Fx p l s m args meth c cX2_allFell 3 RX2 X) {r : Nat} (hr0 : r < 2) {σ : Sg} {jc tc : Nat} {ln : Nat → Nat} (hS : Shp σ jc tc ln) (hb : tc ≤ 12) (K : V p l e R s m args below meth c Q X 3 ex (uC M r σ) lf cells slots 30 [(2, .int (nI tc)), (1, .int (sI (fun k => σ 8 k 7) tc)), (0, .ref (X.2.1 r 0 0))] []) : ∀ (k q : Nat), k + q = tc → V p l e R s m args below meth c Q X 3 ex (uC M r σ) lf cells slots 4 [(2, .int (nI q)), (1, .int (sI (fun k => σ 8 k 7) q)), (0, .ref (X.2.1 r 0 0))] [] := by
  intro k
  induction k with
  | zero =>
    intro q hq
    obtain rfl : q = tc := by omega
    refine v_iload_n F dX2_allFell_4 rfl 0 rfl ?_
    refine v_aload_n F dX2_allFell_5 rfl 2 rfl ?_
    refine v_get F (id_R hr0 (by decide) (by decide)) (heR hr0) rfl uw_X2 3 (by decide) rfl rfl wf_X2_29 dX2_allFell_6 ?_
    refine v_topr (nI q) hS.2.2.2.1 ?_
    refine v_icmp_ge F (tgt := 30) dX2_allFell_9 (by decide) (fun c9 => ?_) (fun h => absurd (nI_le (Nat.le_refl _) (by omega)) h)
    exact K
  | succ k ih =>
    intro q hq
    refine v_iload_n F dX2_allFell_4 rfl 0 rfl ?_
    refine v_aload_n F dX2_allFell_5 rfl 2 rfl ?_
    refine v_get F (id_R hr0 (by decide) (by decide)) (heR hr0) rfl uw_X2 3 (by decide) rfl rfl wf_X2_29 dX2_allFell_6 ?_
    refine v_topr (nI tc) hS.2.2.2.1 ?_
    refine v_icmp_ge F (tgt := 30) dX2_allFell_9 (by decide) (fun h => absurd h (nI_ge (by omega) (by omega))) (fun c9 => ?_)
    refine v_iload_n F dX2_allFell_12 rfl 1 rfl ?_
    refine v_aload_n F dX2_allFell_13 rfl 2 rfl ?_
    refine v_get F (id_R hr0 (by decide) (by decide)) (heR hr0) rfl uw_X2 1 (by decide) rfl rfl wf_X2_20 dX2_allFell_14 ?_
    refine v_iload_n F dX2_allFell_17 rfl 0 rfl ?_
    refine v_aaldT F hr0 (q) (Ix_nI (by omega)) dX2_allFell_18 ?_
    refine v_getN F (id_R hr0 (by decide) (show _ < 12 by omega)) (heR hr0) rfl uw_X3 7 (by decide) rfl rfl wf_X2_124 dX2_allFell_19 ?_
    refine v_iadd F dX2_allFell_22 ?_
    refine v_istore_n F dX2_allFell_23 rfl (by decide) (lv' := [(1, .int _), (2, .int _), (0, .ref _)]) rfl ?_
    refine v_iinc F (k := 1) (nI (q + 1)) dX2_allFell_24 rfl (iinc_nI q) (by decide) (lv' := [(2, .int _), (1, .int _), (0, .ref _)]) rfl ?_
    refine v_goto F (tgt := 4) dX2_allFell_27 (by decide) ?_
    exact ih (q + 1) (by omega)
set_option maxHeartbeats 4000000 in
set_option maxRecDepth 100000 in
theorem c_X2_allFell {X : Cx} {l : Launch} (G : Gx X l) {M : Mem} {lf : Lf} {r : Nat} (hr0 : r < 2) {σ : Sg} {jc tc : Nat} {ln : Nat → Nat} (hS : Shp σ jc tc ln)  : CI X l yX2_allFell (wsc yX2_allFell cX2_allFell 3 (some .int)) rm_X2_allFell [.ref (X.2.1 r 0 0)] (uC M r σ) lf (sI (fun k => σ 8 k 7) tc) (uC M r σ) lf 0 0 := by
  refine CI_of (lv := [(0, .ref _)]) G (by decide) (Nat.le_of_ble_eq_true rfl) rfl (fun p e s m args below meth c F hr => ?_)
  have F : Fx p l s m args meth c cX2_allFell 3 RX2 X := F
  refine v_iconst F (v := 0) dX2_allFell_0 (by decide) ?_
  refine v_istore_n F dX2_allFell_1 rfl (by decide) (lv' := [(1, .int _), (0, .ref _)]) rfl ?_
  refine v_iconst F (v := nI 0) dX2_allFell_2 (by decide) ?_
  refine v_istore_n F dX2_allFell_3 rfl (by decide) (lv' := [(2, .int _), (1, .int _), (0, .ref _)]) rfl ?_
  refine L_X2_allFell F hr0 hS (by have := hS.1; have := hS.2.1; omega) ?_ tc 0 (Nat.add_zero tc)
  · skip
    refine v_iload_n F dX2_allFell_30 rfl 1 rfl ?_
    exact v_iret F hr dX2_allFell_31 rfl rfl rfl
set_option maxHeartbeats 4000000 in
set_option maxRecDepth 100000 in
theorem L_X2_allBruises (F : Fx p l s m args meth c cX2_allBruises 3 RX2 X) {r : Nat} (hr0 : r < 2) {σ : Sg} {jc tc : Nat} {ln : Nat → Nat} (hS : Shp σ jc tc ln) (hb : jc ≤ 12) (hb4 : jc ≤ 4) (K : V p l e R s m args below meth c Q X 3 ex (uC M r σ) lf cells slots 30 [(2, .int (nI jc)), (1, .int (sI (fun k => σ 2 k 3) jc)), (0, .ref (X.2.1 r 0 0))] []) : ∀ (k q : Nat), k + q = jc → V p l e R s m args below meth c Q X 3 ex (uC M r σ) lf cells slots 4 [(2, .int (nI q)), (1, .int (sI (fun k => σ 2 k 3) q)), (0, .ref (X.2.1 r 0 0))] [] := by
  intro k
  induction k with
  | zero =>
    intro q hq
    obtain rfl : q = jc := by omega
    refine v_iload_n F dX2_allBruises_4 rfl 0 rfl ?_
    refine v_aload_n F dX2_allBruises_5 rfl 2 rfl ?_
    refine v_get F (id_R hr0 (by decide) (by decide)) (heR hr0) rfl uw_X2 2 (by decide) rfl rfl wf_X2_25 dX2_allBruises_6 ?_
    refine v_topr (nI q) hS.2.2.1 ?_
    refine v_icmp_ge F (tgt := 30) dX2_allBruises_9 (by decide) (fun c9 => ?_) (fun h => absurd (nI_le (Nat.le_refl _) (by omega)) h)
    exact K
  | succ k ih =>
    intro q hq
    refine v_iload_n F dX2_allBruises_4 rfl 0 rfl ?_
    refine v_aload_n F dX2_allBruises_5 rfl 2 rfl ?_
    refine v_get F (id_R hr0 (by decide) (by decide)) (heR hr0) rfl uw_X2 2 (by decide) rfl rfl wf_X2_25 dX2_allBruises_6 ?_
    refine v_topr (nI jc) hS.2.2.1 ?_
    refine v_icmp_ge F (tgt := 30) dX2_allBruises_9 (by decide) (fun h => absurd h (nI_ge (by omega) (by omega))) (fun c9 => ?_)
    refine v_iload_n F dX2_allBruises_12 rfl 1 rfl ?_
    refine v_aload_n F dX2_allBruises_13 rfl 2 rfl ?_
    refine v_get F (id_R hr0 (by decide) (by decide)) (heR hr0) rfl uw_X2 0 (by decide) rfl rfl wf_X2_11 dX2_allBruises_14 ?_
    refine v_iload_n F dX2_allBruises_17 rfl 0 rfl ?_
    refine v_aaldJ F hr0 (q) (Ix_nI (by omega)) dX2_allBruises_18 ?_
    refine v_getN F (id_R hr0 (by decide) (show _ < 4 by omega)) (heR hr0) rfl uw_X0 3 (by decide) rfl rfl wf_X2_127 dX2_allBruises_19 ?_
    refine v_iadd F dX2_allBruises_22 ?_
    refine v_istore_n F dX2_allBruises_23 rfl (by decide) (lv' := [(1, .int _), (2, .int _), (0, .ref _)]) rfl ?_
    refine v_iinc F (k := 1) (nI (q + 1)) dX2_allBruises_24 rfl (iinc_nI q) (by decide) (lv' := [(2, .int _), (1, .int _), (0, .ref _)]) rfl ?_
    refine v_goto F (tgt := 4) dX2_allBruises_27 (by decide) ?_
    exact ih (q + 1) (by omega)
set_option maxHeartbeats 4000000 in
set_option maxRecDepth 100000 in
theorem c_X2_allBruises {X : Cx} {l : Launch} (G : Gx X l) {M : Mem} {lf : Lf} {r : Nat} (hr0 : r < 2) {σ : Sg} {jc tc : Nat} {ln : Nat → Nat} (hS : Shp σ jc tc ln)  : CI X l yX2_allBruises (wsc yX2_allBruises cX2_allBruises 3 (some .int)) rm_X2_allBruises [.ref (X.2.1 r 0 0)] (uC M r σ) lf (sI (fun k => σ 2 k 3) jc) (uC M r σ) lf 0 0 := by
  refine CI_of (lv := [(0, .ref _)]) G (by decide) (Nat.le_of_ble_eq_true rfl) rfl (fun p e s m args below meth c F hr => ?_)
  have F : Fx p l s m args meth c cX2_allBruises 3 RX2 X := F
  refine v_iconst F (v := 0) dX2_allBruises_0 (by decide) ?_
  refine v_istore_n F dX2_allBruises_1 rfl (by decide) (lv' := [(1, .int _), (0, .ref _)]) rfl ?_
  refine v_iconst F (v := nI 0) dX2_allBruises_2 (by decide) ?_
  refine v_istore_n F dX2_allBruises_3 rfl (by decide) (lv' := [(2, .int _), (1, .int _), (0, .ref _)]) rfl ?_
  refine L_X2_allBruises F hr0 hS (by have := hS.1; have := hS.2.1; omega) hS.1 ?_ jc 0 (Nat.add_zero jc)
  · skip
    refine v_iload_n F dX2_allBruises_30 rfl 1 rfl ?_
    exact v_iret F hr dX2_allBruises_31 rfl rfl rfl
set_option maxHeartbeats 4000000 in
set_option maxRecDepth 100000 in
theorem L_X2_thingsIn (F : Fx p l s m args meth c cX2_thingsIn 4 RX2 X) {r : Nat} (hr0 : r < 2) {σ : Sg} {jc tc : Nat} {ln : Nat → Nat} (hS : Shp σ jc tc ln) (hb : tc ≤ 12) {x : Int32} (K : V p l e R s m args below meth c Q X 4 ex (uC M r σ) lf cells slots 34 [(3, .int (nI tc)), (2, .int (cI (fun k => decide (σ 8 k 1 = x)) tc)), (0, .ref (X.2.1 r 0 0)), (1, .int x)] []) : ∀ (k q : Nat), k + q = tc → V p l e R s m args below meth c Q X 4 ex (uC M r σ) lf cells slots 4 [(3, .int (nI q)), (2, .int (cI (fun k => decide (σ 8 k 1 = x)) q)), (0, .ref (X.2.1 r 0 0)), (1, .int x)] [] := by
  intro k
  induction k with
  | zero =>
    intro q hq
    obtain rfl : q = tc := by omega
    refine v_iload_n F dX2_thingsIn_4 rfl 0 rfl ?_
    refine v_aload_n F dX2_thingsIn_5 rfl 2 rfl ?_
    refine v_get F (id_R hr0 (by decide) (by decide)) (heR hr0) rfl uw_X2 3 (by decide) rfl rfl wf_X2_29 dX2_thingsIn_6 ?_
    refine v_topr (nI q) hS.2.2.2.1 ?_
    refine v_icmp_ge F (tgt := 34) dX2_thingsIn_9 (by decide) (fun c9 => ?_) (fun h => absurd (nI_le (Nat.le_refl _) (by omega)) h)
    exact K
  | succ k ih =>
    intro q hq
    refine v_iload_n F dX2_thingsIn_4 rfl 0 rfl ?_
    refine v_aload_n F dX2_thingsIn_5 rfl 2 rfl ?_
    refine v_get F (id_R hr0 (by decide) (by decide)) (heR hr0) rfl uw_X2 3 (by decide) rfl rfl wf_X2_29 dX2_thingsIn_6 ?_
    refine v_topr (nI tc) hS.2.2.2.1 ?_
    refine v_icmp_ge F (tgt := 34) dX2_thingsIn_9 (by decide) (fun h => absurd h (nI_ge (by omega) (by omega))) (fun c9 => ?_)
    refine v_aload_n F dX2_thingsIn_12 rfl 2 rfl ?_
    refine v_get F (id_R hr0 (by decide) (by decide)) (heR hr0) rfl uw_X2 1 (by decide) rfl rfl wf_X2_20 dX2_thingsIn_13 ?_
    refine v_iload_n F dX2_thingsIn_16 rfl 0 rfl ?_
    refine v_aaldT F hr0 (q) (Ix_nI (by omega)) dX2_thingsIn_17 ?_
    refine v_getN F (id_R hr0 (by decide) (show _ < 12 by omega)) (heR hr0) rfl uw_X3 1 (by decide) rfl rfl wf_X2_62 dX2_thingsIn_18 ?_
    refine v_iload_n F dX2_thingsIn_21 rfl 3 rfl ?_
    refine v_icmp_ne F (tgt := 28) dX2_thingsIn_22 (by decide) (fun c22 => ?_) (fun c22 => ?_)
    · have := c22
      refine v_iinc F (k := 0) (nI (q + 1)) dX2_thingsIn_28 rfl (iinc_nI q) (by decide) (lv' := [(3, .int _), (2, .int _), (0, .ref _), (1, .int _)]) rfl ?_
      refine v_goto F (tgt := 4) dX2_thingsIn_31 (by decide) ?_
      refine v_eq rfl ?_ rfl (ih (q + 1) (by omega))
      simp_all [cI, iinc_1]
    · have := c22
      refine v_iinc F (k := 1) (_) dX2_thingsIn_25 rfl rfl (by decide) (lv' := [(2, .int _), (3, .int _), (0, .ref _), (1, .int _)]) rfl ?_
      refine v_iinc F (k := 1) (nI (q + 1)) dX2_thingsIn_28 rfl (iinc_nI q) (by decide) (lv' := [(3, .int _), (2, .int _), (0, .ref _), (1, .int _)]) rfl ?_
      refine v_goto F (tgt := 4) dX2_thingsIn_31 (by decide) ?_
      refine v_eq rfl ?_ rfl (ih (q + 1) (by omega))
      simp_all [cI, iinc_1]
set_option maxHeartbeats 4000000 in
set_option maxRecDepth 100000 in
theorem c_X2_thingsIn {X : Cx} {l : Launch} (G : Gx X l) {M : Mem} {lf : Lf} {r : Nat} (hr0 : r < 2) {σ : Sg} {jc tc : Nat} {ln : Nat → Nat} (hS : Shp σ jc tc ln) (x : Int32) : CI X l yX2_thingsIn (wsc yX2_thingsIn cX2_thingsIn 4 (some .int)) rm_X2_thingsIn [.ref (X.2.1 r 0 0), .int x] (uC M r σ) lf (fIn σ tc x) (uC M r σ) lf 0 0 := by
  refine CI_of (lv := [(0, .ref _), (1, .int _)]) G (by decide) (Nat.le_of_ble_eq_true rfl) rfl (fun p e s m args below meth c F hr => ?_)
  have F : Fx p l s m args meth c cX2_thingsIn 4 RX2 X := F
  refine v_iconst F (v := 0) dX2_thingsIn_0 (by decide) ?_
  refine v_istore_n F dX2_thingsIn_1 rfl (by decide) (lv' := [(2, .int _), (0, .ref _), (1, .int _)]) rfl ?_
  refine v_iconst F (v := nI 0) dX2_thingsIn_2 (by decide) ?_
  refine v_istore_n F dX2_thingsIn_3 rfl (by decide) (lv' := [(3, .int _), (2, .int _), (0, .ref _), (1, .int _)]) rfl ?_
  refine L_X2_thingsIn F hr0 hS hS.2.1 ?_ tc 0 (Nat.add_zero tc)
  · skip
    refine v_iload_n F dX2_thingsIn_34 rfl 1 rfl ?_
    exact v_iret F hr dX2_thingsIn_35 rfl rfl rfl
set_option maxHeartbeats 4000000 in
set_option maxRecDepth 100000 in
theorem L_X2_thingsFlyingTo (F : Fx p l s m args meth c cX2_thingsFlyingTo 4 RX2 X) {r : Nat} (hr0 : r < 2) {σ : Sg} {jc tc : Nat} {ln : Nat → Nat} (hS : Shp σ jc tc ln) (hb : tc ≤ 12) {x : Int32} (K : V p l e R s m args below meth c Q X 4 ex (uC M r σ) lf cells slots 47 [(3, .int (nI tc)), (2, .int (cI (fun k => decide (σ 8 k 1 = 2) && decide (σ 8 k 2 = x)) tc)), (0, .ref (X.2.1 r 0 0)), (1, .int x)] []) : ∀ (k q : Nat), k + q = tc → V p l e R s m args below meth c Q X 4 ex (uC M r σ) lf cells slots 4 [(3, .int (nI q)), (2, .int (cI (fun k => decide (σ 8 k 1 = 2) && decide (σ 8 k 2 = x)) q)), (0, .ref (X.2.1 r 0 0)), (1, .int x)] [] := by
  intro k
  induction k with
  | zero =>
    intro q hq
    obtain rfl : q = tc := by omega
    refine v_iload_n F dX2_thingsFlyingTo_4 rfl 0 rfl ?_
    refine v_aload_n F dX2_thingsFlyingTo_5 rfl 2 rfl ?_
    refine v_get F (id_R hr0 (by decide) (by decide)) (heR hr0) rfl uw_X2 3 (by decide) rfl rfl wf_X2_29 dX2_thingsFlyingTo_6 ?_
    refine v_topr (nI q) hS.2.2.2.1 ?_
    refine v_icmp_ge F (tgt := 47) dX2_thingsFlyingTo_9 (by decide) (fun c9 => ?_) (fun h => absurd (nI_le (Nat.le_refl _) (by omega)) h)
    exact K
  | succ k ih =>
    intro q hq
    refine v_iload_n F dX2_thingsFlyingTo_4 rfl 0 rfl ?_
    refine v_aload_n F dX2_thingsFlyingTo_5 rfl 2 rfl ?_
    refine v_get F (id_R hr0 (by decide) (by decide)) (heR hr0) rfl uw_X2 3 (by decide) rfl rfl wf_X2_29 dX2_thingsFlyingTo_6 ?_
    refine v_topr (nI tc) hS.2.2.2.1 ?_
    refine v_icmp_ge F (tgt := 47) dX2_thingsFlyingTo_9 (by decide) (fun h => absurd h (nI_ge (by omega) (by omega))) (fun c9 => ?_)
    refine v_aload_n F dX2_thingsFlyingTo_12 rfl 2 rfl ?_
    refine v_get F (id_R hr0 (by decide) (by decide)) (heR hr0) rfl uw_X2 1 (by decide) rfl rfl wf_X2_20 dX2_thingsFlyingTo_13 ?_
    refine v_iload_n F dX2_thingsFlyingTo_16 rfl 0 rfl ?_
    refine v_aaldT F hr0 (q) (Ix_nI (by omega)) dX2_thingsFlyingTo_17 ?_
    refine v_getN F (id_R hr0 (by decide) (show _ < 12 by omega)) (heR hr0) rfl uw_X3 1 (by decide) rfl rfl wf_X2_62 dX2_thingsFlyingTo_18 ?_
    refine v_iconst F (v := 2) dX2_thingsFlyingTo_21 (by decide) ?_
    refine v_icmp_ne F (tgt := 41) dX2_thingsFlyingTo_22 (by decide) (fun c22 => ?_) (fun c22 => ?_)
    · have := c22
      refine v_iinc F (k := 0) (nI (q + 1)) dX2_thingsFlyingTo_41 rfl (iinc_nI q) (by decide) (lv' := [(3, .int _), (2, .int _), (0, .ref _), (1, .int _)]) rfl ?_
      refine v_goto F (tgt := 4) dX2_thingsFlyingTo_44 (by decide) ?_
      refine v_eq rfl ?_ rfl (ih (q + 1) (by omega))
      simp_all [cI, iinc_1]
    · have := c22
      refine v_aload_n F dX2_thingsFlyingTo_25 rfl 2 rfl ?_
      refine v_get F (id_R hr0 (by decide) (by decide)) (heR hr0) rfl uw_X2 1 (by decide) rfl rfl wf_X2_20 dX2_thingsFlyingTo_26 ?_
      refine v_iload_n F dX2_thingsFlyingTo_29 rfl 0 rfl ?_
      refine v_aaldT F hr0 (q) (Ix_nI (by omega)) dX2_thingsFlyingTo_30 ?_
      refine v_getN F (id_R hr0 (by decide) (show _ < 12 by omega)) (heR hr0) rfl uw_X3 2 (by decide) rfl rfl wf_X2_65 dX2_thingsFlyingTo_31 ?_
      refine v_iload_n F dX2_thingsFlyingTo_34 rfl 3 rfl ?_
      refine v_icmp_ne F (tgt := 41) dX2_thingsFlyingTo_35 (by decide) (fun c35 => ?_) (fun c35 => ?_)
      · have := c35
        refine v_iinc F (k := 0) (nI (q + 1)) dX2_thingsFlyingTo_41 rfl (iinc_nI q) (by decide) (lv' := [(3, .int _), (2, .int _), (0, .ref _), (1, .int _)]) rfl ?_
        refine v_goto F (tgt := 4) dX2_thingsFlyingTo_44 (by decide) ?_
        refine v_eq rfl ?_ rfl (ih (q + 1) (by omega))
        simp_all [cI, iinc_1]
      · have := c35
        refine v_iinc F (k := 1) (_) dX2_thingsFlyingTo_38 rfl rfl (by decide) (lv' := [(2, .int _), (3, .int _), (0, .ref _), (1, .int _)]) rfl ?_
        refine v_iinc F (k := 1) (nI (q + 1)) dX2_thingsFlyingTo_41 rfl (iinc_nI q) (by decide) (lv' := [(3, .int _), (2, .int _), (0, .ref _), (1, .int _)]) rfl ?_
        refine v_goto F (tgt := 4) dX2_thingsFlyingTo_44 (by decide) ?_
        refine v_eq rfl ?_ rfl (ih (q + 1) (by omega))
        simp_all [cI, iinc_1]
set_option maxHeartbeats 4000000 in
set_option maxRecDepth 100000 in
theorem c_X2_thingsFlyingTo {X : Cx} {l : Launch} (G : Gx X l) {M : Mem} {lf : Lf} {r : Nat} (hr0 : r < 2) {σ : Sg} {jc tc : Nat} {ln : Nat → Nat} (hS : Shp σ jc tc ln) (x : Int32) : CI X l yX2_thingsFlyingTo (wsc yX2_thingsFlyingTo cX2_thingsFlyingTo 4 (some .int)) rm_X2_thingsFlyingTo [.ref (X.2.1 r 0 0), .int x] (uC M r σ) lf (fFlies σ tc x) (uC M r σ) lf 0 0 := by
  refine CI_of (lv := [(0, .ref _), (1, .int _)]) G (by decide) (Nat.le_of_ble_eq_true rfl) rfl (fun p e s m args below meth c F hr => ?_)
  have F : Fx p l s m args meth c cX2_thingsFlyingTo 4 RX2 X := F
  refine v_iconst F (v := 0) dX2_thingsFlyingTo_0 (by decide) ?_
  refine v_istore_n F dX2_thingsFlyingTo_1 rfl (by decide) (lv' := [(2, .int _), (0, .ref _), (1, .int _)]) rfl ?_
  refine v_iconst F (v := nI 0) dX2_thingsFlyingTo_2 (by decide) ?_
  refine v_istore_n F dX2_thingsFlyingTo_3 rfl (by decide) (lv' := [(3, .int _), (2, .int _), (0, .ref _), (1, .int _)]) rfl ?_
  refine L_X2_thingsFlyingTo F hr0 hS hS.2.1 ?_ tc 0 (Nat.add_zero tc)
  · skip
    refine v_iload_n F dX2_thingsFlyingTo_47 rfl 1 rfl ?_
    exact v_iret F hr dX2_thingsFlyingTo_48 rfl rfl rfl
end RR
end
section
/-! ===== a ring: beats, what it tells, copying ===== -/
section RS
variable {p : Program} {l : Launch} {e : Env} {R : Room} {s : State} {m : MethodId} {args : Array Value} {below : List Frame} {meth : Method} {c : Code} {Q : State → Prop} {X : Cx} {nL : Nat} {ex : va_W} {M : Mem} {lf : Lf} {cells slots : Nat}
set_option maxHeartbeats 4000000 in
set_option maxRecDepth 100000 in
theorem L_X2_comeDown (F : Fx p l s m args meth c cX2_comeDown 6 RX2 X) (G : Gx X l) {r : Nat} (hr0 : r < 2) {σ : Sg} {jc tc : Nat} {ln : Nat → Nat} (hS : Shp σ jc tc ln) {hd : Nat} (hh : hd < 2) (K : V p l e rm_X2_comeDown s m args below meth c Q X 6 ex (uC M r (dnL hd σ tc)) lf 0 0 115 [(3, .int (nI tc)), (2, .int (dnR hd σ tc)), (0, .ref (X.2.1 r 0 0)), (1, .int (nI hd))] []) : ∀ (k q : Nat) (τ : Sg) (acc : Int32), k + q = tc → τ = dnL hd σ q → acc = dnR hd σ q → V p l e rm_X2_comeDown s m args below meth c Q X 6 ex (uC M r τ) lf 0 0 4 [(3, .int (nI q)), (2, .int acc), (0, .ref (X.2.1 r 0 0)), (1, .int (nI hd))] [] := by
  have h12 := hS.2.1
  have h4 := hS.1
  intro k
  induction k with
  | zero =>
    intro q τ acc hq hτ hacc
    obtain rfl : q = tc := by omega
    have hT : τ 0 0 3 = nI q := by rw [hτ]; exact (Shp_dn hS q).2.2.2.1
    refine v_iload_n F dX2_comeDown_4 rfl 0 rfl ?_
    refine v_aload_n F dX2_comeDown_5 rfl 2 rfl ?_
    refine v_get F (id_R hr0 (by decide) (by decide)) (heR hr0) rfl uw_X2 3 (by decide) rfl rfl wf_X2_29 dX2_comeDown_6 ?_
    refine v_topr (nI q) hT ?_
    refine v_icmp_ge F (tgt := 115) dX2_comeDown_9 (by decide) (fun c9 => ?_) (fun h => absurd (nI_le (Nat.le_refl _) (by omega)) h)
    subst hτ; subst hacc
    exact K
  | succ k ih =>
    intro q τ acc hq hτ hacc
    have hT : τ 0 0 3 = nI tc := by rw [hτ]; exact (Shp_dn hS q).2.2.2.1
    have hJ : τ 0 0 2 = nI jc := by rw [hτ]; exact (Shp_dn hS q).2.2.1
    refine v_iload_n F dX2_comeDown_4 rfl 0 rfl ?_
    refine v_aload_n F dX2_comeDown_5 rfl 2 rfl ?_
    refine v_get F (id_R hr0 (by decide) (by decide)) (heR hr0) rfl uw_X2 3 (by decide) rfl rfl wf_X2_29 dX2_comeDown_6 ?_
    refine v_topr (nI tc) hT ?_
    refine v_icmp_ge F (tgt := 115) dX2_comeDown_9 (by decide) (fun h => absurd h (nI_ge (by omega) (by omega))) (fun c9 => ?_)
    refine v_aload_n F dX2_comeDown_12 rfl 2 rfl ?_
    refine v_get F (id_R hr0 (by decide) (by decide)) (heR hr0) rfl uw_X2 1 (by decide) rfl rfl wf_X2_20 dX2_comeDown_13 ?_
    refine v_iload_n F dX2_comeDown_16 rfl 0 rfl ?_
    refine v_aaldT F hr0 (q) (Ix_nI (by omega)) dX2_comeDown_17 ?_
    refine v_astore F dX2_comeDown_18 (by decide) (lv' := [(4, .ref _), (3, .int _), (2, .int _), (0, .ref _), (1, .int _)]) rfl ?_
    refine v_aload F dX2_comeDown_20 0 rfl ?_
    refine v_getN F (id_R hr0 (by decide) (show _ < 12 by omega)) (heR hr0) rfl uw_X3 2 (by decide) rfl rfl wf_X2_65 dX2_comeDown_22 ?_
    refine v_istore F dX2_comeDown_25 (by decide) (lv' := [(5, .int _), (4, .ref _), (3, .int _), (2, .int _), (0, .ref _), (1, .int _)]) rfl ?_
    refine v_aload F dX2_comeDown_27 1 rfl ?_
    refine v_aload_n F dX2_comeDown_29 rfl 4 rfl ?_
    refine v_get F (id_R hr0 (by decide) (by decide)) (heR hr0) rfl uw_X2 4 (by decide) rfl rfl wf_X2_32 dX2_comeDown_30 ?_
    refine v_callNi F (As := [_]) (rest := []) rfl (c_X3_comesDownIn G hr0 (show q < 12 by omega) _) (Rv_T hr0 (show _ < 12 by omega)) wm_X2_83 rfl ⟨rfl, rfl, Nat.le_of_ble_eq_true rfl, Nat.le_of_ble_eq_true rfl, Nat.le_of_ble_eq_true rfl, Nat.le_of_ble_eq_true rfl, Nat.le_of_ble_eq_true rfl⟩ dX2_comeDown_33 ?_
    refine v_if_eq F (tgt := 109) dX2_comeDown_36 (by decide) (fun c36 => ?_) (fun c36 => ?_)
    · have := c36
      have hs : fDown1 τ q hd = τ := by rw [fDown1, if_pos c36]
      have hs2 : fDown1r τ q hd = 0 := by rw [fDown1r, if_pos c36]
      refine v_iinc F (k := 2) (nI (q + 1)) dX2_comeDown_109 rfl (iinc_nI q) (by decide) (lv' := [(3, .int _), (5, .int _), (4, .ref _), (2, .int _), (0, .ref _), (1, .int _)]) rfl ?_
      refine v_goto F (tgt := 4) dX2_comeDown_112 (by decide) ?_
      refine v_locs [0, 3, 4, 5] rfl (ih (q + 1) _ _ (by omega) ?_ ?_)
      · show _ = fDown1 (dnL hd σ q) q hd
        (rw [← hτ, hs]) <;> first | rfl | (rw [h1])
      · show _ = dnR hd σ q + fDown1r (dnL hd σ q) q hd
        rw [← hτ, ← hacc, hs2]
        first | rfl | exact (Int32.add_zero _).symm
    · have := c36
      refine v_aload_n F dX2_comeDown_39 rfl 4 rfl ?_
      refine v_iload F dX2_comeDown_40 0 rfl ?_
      refine v_callVi F (As := [_]) (rest := []) rfl (c_X2_hasJuggler G hr0 _) (Rv_R hr0) wm_X2_87 rfl ⟨rfl, rfl, Nat.le_of_ble_eq_true rfl, Nat.le_of_ble_eq_true rfl, Nat.le_of_ble_eq_true rfl, Nat.le_of_ble_eq_true rfl, Nat.le_of_ble_eq_true rfl⟩ dX2_comeDown_42 ?_
      refine v_if_eq F (tgt := 109) dX2_comeDown_45 (by decide) (fun c45 => ?_) (fun c45 => ?_)
      · have := c45
        have hs : fDown1 τ q hd = τ := by rw [fDown1, if_neg c36, if_pos c45]
        have hs2 : fDown1r τ q hd = 0 := by rw [fDown1r, if_neg c36, if_pos c45]
        refine v_iinc F (k := 2) (nI (q + 1)) dX2_comeDown_109 rfl (iinc_nI q) (by decide) (lv' := [(3, .int _), (5, .int _), (4, .ref _), (2, .int _), (0, .ref _), (1, .int _)]) rfl ?_
        refine v_goto F (tgt := 4) dX2_comeDown_112 (by decide) ?_
        refine v_locs [0, 3, 4, 5] rfl (ih (q + 1) _ _ (by omega) ?_ ?_)
        · show _ = fDown1 (dnL hd σ q) q hd
          (rw [← hτ, hs]) <;> first | rfl | (rw [h1])
        · show _ = dnR hd σ q + fDown1r (dnL hd σ q) q hd
          rw [← hτ, ← hacc, hs2]
          first | rfl | exact (Int32.add_zero _).symm
      · have := c45
        have hx := fHasJ_ix hJ h4 c45
        refine v_aload_n F dX2_comeDown_48 rfl 4 rfl ?_
        refine v_get F (id_R hr0 (by decide) (by decide)) (heR hr0) rfl uw_X2 0 (by decide) rfl rfl wf_X2_11 dX2_comeDown_49 ?_
        refine v_iload F dX2_comeDown_52 0 rfl ?_
        refine v_aaldJ F hr0 ((τ 8 q 2).toNatClampNeg) (Ix_mono hx h4) dX2_comeDown_54 ?_
        refine v_aload F dX2_comeDown_55 1 rfl ?_
        refine v_getN F (id_R hr0 (by decide) (show _ < 12 by omega)) (heR hr0) rfl uw_X3 5 (by decide) rfl rfl wf_X2_90 dX2_comeDown_57 ?_
        refine v_iload_n F dX2_comeDown_60 rfl 5 rfl ?_
        refine v_callNi F (As := [_, _]) (rest := []) rfl (c_X0_canCatch G hr0 (Nat.lt_of_lt_of_le hx.2.2 h4) _ hh) (Rv_J hr0 (show _ < 4 from Nat.lt_of_lt_of_le hx.2.2 h4)) wm_X2_93 rfl ⟨rfl, rfl, Nat.le_of_ble_eq_true rfl, Nat.le_of_ble_eq_true rfl, Nat.le_of_ble_eq_true rfl, Nat.le_of_ble_eq_true rfl, Nat.le_of_ble_eq_true rfl⟩ dX2_comeDown_61 ?_
        refine v_if_eq F (tgt := 94) dX2_comeDown_64 (by decide) (fun c64 => ?_) (fun c64 => ?_)
        · have := c64
          have hs : fDown1 τ q hd = fMiss τ (τ 8 q 2).toNatClampNeg q := by rw [fDown1, if_neg c36, if_neg c45, if_pos c64]
          have hs2 : fDown1r τ q hd = 1 := by rw [fDown1r, if_neg c36, if_neg c45, if_pos c64]
          refine v_aload_n F dX2_comeDown_94 rfl 4 rfl ?_
          refine v_get F (id_R hr0 (by decide) (by decide)) (heR hr0) rfl uw_X2 0 (by decide) rfl rfl wf_X2_11 dX2_comeDown_95 ?_
          refine v_iload F dX2_comeDown_98 0 rfl ?_
          refine v_aaldJ F hr0 ((τ 8 q 2).toNatClampNeg) (Ix_mono hx h4) dX2_comeDown_100 ?_
          refine v_aload F dX2_comeDown_101 1 rfl ?_
          refine v_callNv F (As := [_]) (rest := []) rfl (c_X0_miss G hr0 (Nat.lt_of_lt_of_le hx.2.2 h4) (show q < 12 by omega)) (Rv_J hr0 (show _ < 4 from Nat.lt_of_lt_of_le hx.2.2 h4)) wm_X2_103 rfl ⟨rfl, rfl, Nat.le_of_ble_eq_true rfl, Nat.le_of_ble_eq_true rfl, Nat.le_of_ble_eq_true rfl, Nat.le_of_ble_eq_true rfl, Nat.le_of_ble_eq_true rfl⟩ dX2_comeDown_103 ?_
          refine v_iinc F (k := 3) (_) dX2_comeDown_106 rfl rfl (by decide) (lv' := [(2, .int _), (5, .int _), (4, .ref _), (3, .int _), (0, .ref _), (1, .int _)]) rfl ?_
          refine v_iinc F (k := 3) (nI (q + 1)) dX2_comeDown_109 rfl (iinc_nI q) (by decide) (lv' := [(3, .int _), (2, .int _), (5, .int _), (4, .ref _), (0, .ref _), (1, .int _)]) rfl ?_
          refine v_goto F (tgt := 4) dX2_comeDown_112 (by decide) ?_
          refine v_locs [0, 1, 4, 5] rfl (ih (q + 1) _ _ (by omega) ?_ ?_)
          · show _ = fDown1 (dnL hd σ q) q hd
            (rw [← hτ, hs]) <;> first | rfl | (rw [h1])
          · show _ = dnR hd σ q + fDown1r (dnL hd σ q) q hd
            rw [← hτ, ← hacc, hs2]
            first | rfl | exact (Int32.add_zero _).symm
        · have := c64
          have hs : fDown1 τ q hd = u3 (fPut τ q (τ 8 q 2) (τ 8 q 2).toNatClampNeg hd) 2 (τ 8 q 2).toNatClampNeg 4 (fPut τ q (τ 8 q 2) (τ 8 q 2).toNatClampNeg hd 2 (τ 8 q 2).toNatClampNeg 4 + 1) := by rw [fDown1, if_neg c36, if_neg c45, if_neg c64]
          have hs2 : fDown1r τ q hd = 0 := by rw [fDown1r, if_neg c36, if_neg c45, if_neg c64]
          refine v_aload_n F dX2_comeDown_67 rfl 4 rfl ?_
          refine v_iload_n F dX2_comeDown_68 rfl 2 rfl ?_
          refine v_iload F dX2_comeDown_69 0 rfl ?_
          refine v_iload_n F dX2_comeDown_71 rfl 5 rfl ?_
          refine v_callVv F (As := [_, _, _]) (rest := []) rfl (c_X2_putIntoHand G hr0 (show q < 12 by omega) _ (Ix_mono hx h4) hh) (Rv_R hr0) wm_X2_97 rfl ⟨rfl, rfl, Nat.le_of_ble_eq_true rfl, Nat.le_of_ble_eq_true rfl, Nat.le_of_ble_eq_true rfl, Nat.le_of_ble_eq_true rfl, Nat.le_of_ble_eq_true rfl⟩ dX2_comeDown_72 ?_
          refine v_gen (fun τ1 h1 => ?_)
          refine v_aload_n F dX2_comeDown_75 rfl 4 rfl ?_
          refine v_get F (id_R hr0 (by decide) (by decide)) (heR hr0) rfl uw_X2 0 (by decide) rfl rfl wf_X2_11 dX2_comeDown_76 ?_
          refine v_iload F dX2_comeDown_79 0 rfl ?_
          refine v_aaldJ F hr0 ((τ 8 q 2).toNatClampNeg) (Ix_mono hx h4) dX2_comeDown_81 ?_
          refine v_dup F dX2_comeDown_82 rfl ?_
          refine v_getN F (id_R hr0 (by decide) (show _ < 4 from Nat.lt_of_lt_of_le hx.2.2 h4)) (heR hr0) rfl uw_X0 4 (by decide) rfl rfl wf_X2_100 dX2_comeDown_83 ?_
          refine v_iconst F (v := 1) dX2_comeDown_86 (by decide) ?_
          refine v_iadd F dX2_comeDown_87 ?_
          refine v_putNC F tyX0 tyX0_ok nmX0 (id_R hr0 (by decide) (show _ < 4 from Nat.lt_of_lt_of_le hx.2.2 h4)) (celD_R hr0) rfl uw_X0 4 (by decide) rfl rfl (by decide +kernel) (celD_R hr0) (Nat.le_of_ble_eq_true rfl) wf_X2_100 dX2_comeDown_88 ?_
          refine v_goto F (tgt := 109) dX2_comeDown_91 (by decide) ?_
          refine v_iinc F (k := 2) (nI (q + 1)) dX2_comeDown_109 rfl (iinc_nI q) (by decide) (lv' := [(3, .int _), (5, .int _), (4, .ref _), (2, .int _), (0, .ref _), (1, .int _)]) rfl ?_
          refine v_goto F (tgt := 4) dX2_comeDown_112 (by decide) ?_
          refine v_locs [0, 3, 4, 5] rfl (ih (q + 1) _ _ (by omega) ?_ ?_)
          · show _ = fDown1 (dnL hd σ q) q hd
            (rw [← hτ, hs]) <;> first | rfl | (rw [h1])
          · show _ = dnR hd σ q + fDown1r (dnL hd σ q) q hd
            rw [← hτ, ← hacc, hs2]
            first | rfl | exact (Int32.add_zero _).symm
set_option maxHeartbeats 4000000 in
set_option maxRecDepth 100000 in
theorem c_X2_comeDown {X : Cx} {l : Launch} (G : Gx X l) {M : Mem} {lf : Lf} {r : Nat} (hr0 : r < 2) {σ : Sg} {jc tc : Nat} {ln : Nat → Nat} (hS : Shp σ jc tc ln) {hd : Nat} (hh : hd < 2) : CI X l yX2_comeDown (wsc yX2_comeDown cX2_comeDown 6 (some .int)) rm_X2_comeDown [.ref (X.2.1 r 0 0), .int (nI hd)] (uC M r σ) lf (dnR hd σ tc) (uC M r (dnL hd σ tc)) lf 0 0 := by
  refine CI_of (lv := [(0, .ref _), (1, .int _)]) G (by decide) (Nat.le_of_ble_eq_true rfl) rfl (fun p e s m args below meth c F hr => ?_)
  have F : Fx p l s m args meth c cX2_comeDown 6 RX2 X := F
  refine v_iconst F (v := 0) dX2_comeDown_0 (by decide) ?_
  refine v_istore_n F dX2_comeDown_1 rfl (by decide) (lv' := [(2, .int _), (0, .ref _), (1, .int _)]) rfl ?_
  refine v_iconst F (v := nI 0) dX2_comeDown_2 (by decide) ?_
  refine v_istore_n F dX2_comeDown_3 rfl (by decide) (lv' := [(3, .int _), (2, .int _), (0, .ref _), (1, .int _)]) rfl ?_
  refine L_X2_comeDown F G hr0 hS hh ?_ tc 0 _ _ (Nat.add_zero tc) rfl rfl
  · skip
    refine v_iload_n F dX2_comeDown_115 rfl 1 rfl ?_
    exact v_iret F hr dX2_comeDown_116 rfl rfl rfl
set_option maxHeartbeats 4000000 in
set_option maxRecDepth 100000 in
theorem c_X2_throwFrom {X : Cx} {l : Launch} (G : Gx X l) {M : Mem} {lf : Lf} {r : Nat} (hr0 : r < 2) {σ : Sg} {tc : Nat} (h12 : tc ≤ 12) (hT : σ 0 0 3 = nI tc) {j : Nat} (hj : j < 4) {n b hd : Nat} (h1 : 1 ≤ n) (h8 : n ≤ 8) (hn : σ 3 j 2 = nI n) (hb : b < 2 ^ 31) (hbt : σ 0 0 4 = nI b) (hh : hd < 2) : CV X l yX2_throwFrom (wsc yX2_throwFrom cX2_throwFrom 6 none) rm_X2_throwFrom [.ref (X.2.1 r 0 0), .ref (X.2.1 r 2 j), .int (nI hd)] (uC M r σ) lf (uC M r (fThrow σ j (b % n) hd)) lf 0 0 := by
  refine CV_of (lv := [(0, .ref _), (1, .ref _), (2, .int _)]) G (by decide) (Nat.le_of_ble_eq_true rfl) rfl (fun p e s m args below meth c F hr => ?_)
  have F : Fx p l s m args meth c cX2_throwFrom 6 RX2 X := F
  have hm : b % n < 8 := Nat.lt_of_lt_of_le (Nat.mod_lt b h1) h8
  refine v_aload_n F dX2_throwFrom_0 rfl 1 rfl ?_
  refine v_getN F (id_R hr0 (by decide) hj) (heR hr0) rfl uw_X0 1 (by decide) rfl rfl wf_X2_58 dX2_throwFrom_1 ?_
  refine v_iload_n F dX2_throwFrom_4 rfl 2 rfl ?_
  refine v_iald F (id_R hr0 (by decide) hj) (heR hr0) rfl (hd) (Ix_nI (by omega)) dX2_throwFrom_5 ?_
  refine v_istore_n F dX2_throwFrom_6 rfl (by decide) (lv' := [(3, .int _), (0, .ref _), (1, .ref _), (2, .int _)]) rfl ?_
  refine v_aload_n F dX2_throwFrom_7 rfl 2 rfl ?_
  refine v_getN F (id_R hr0 (by decide) hj) (heR hr0) rfl uw_X0 0 (by decide) rfl rfl wf_X2_45 dX2_throwFrom_8 ?_
  refine v_aload_n F dX2_throwFrom_11 rfl 1 rfl ?_
  refine v_get F (id_R hr0 (by decide) (by decide)) (heR hr0) rfl uw_X2 4 (by decide) rfl rfl wf_X2_32 dX2_throwFrom_12 ?_
  refine v_topr (nI b) hbt ?_
  refine v_callNi F (As := [_]) (rest := []) rfl (c_X1_placeIn G hr0 hj hb h1 h8 hn) (Rv_P hr0 hj) wm_X2_106 rfl ⟨rfl, rfl, Nat.le_of_ble_eq_true rfl, Nat.le_of_ble_eq_true rfl, Nat.le_of_ble_eq_true rfl, Nat.le_of_ble_eq_true rfl, Nat.le_of_ble_eq_true rfl⟩ dX2_throwFrom_15 ?_
  refine v_istore F dX2_throwFrom_18 (by decide) (lv' := [(4, .int _), (3, .int _), (0, .ref _), (1, .ref _), (2, .int _)]) rfl ?_
  refine v_aload_n F dX2_throwFrom_20 rfl 3 rfl ?_
  refine v_getN F (id_R hr0 (by decide) hj) (heR hr0) rfl uw_X0 0 (by decide) rfl rfl wf_X2_45 dX2_throwFrom_21 ?_
  refine v_getN F (id_R hr0 (by decide) hj) (heR hr0) rfl uw_X1 0 (by decide) rfl rfl wf_X2_109 dX2_throwFrom_24 ?_
  refine v_iload F dX2_throwFrom_27 0 rfl ?_
  refine v_iald F (id_R hr0 (by decide) hj) (heR hr0) rfl (b % n) (Ix_nI (by omega)) dX2_throwFrom_29 ?_
  refine v_istore F dX2_throwFrom_30 (by decide) (lv' := [(5, .int _), (4, .int _), (3, .int _), (0, .ref _), (1, .ref _), (2, .int _)]) rfl ?_
  refine v_aload_n F dX2_throwFrom_32 rfl 3 rfl ?_
  refine v_iload_n F dX2_throwFrom_33 rfl 2 rfl ?_
  refine v_callVi F (As := [_]) (rest := []) rfl (c_X2_hasThing G hr0 _) (Rv_R hr0) wm_X2_112 rfl ⟨rfl, rfl, Nat.le_of_ble_eq_true rfl, Nat.le_of_ble_eq_true rfl, Nat.le_of_ble_eq_true rfl, Nat.le_of_ble_eq_true rfl, Nat.le_of_ble_eq_true rfl⟩ dX2_throwFrom_34 ?_
  refine v_if_eq F (tgt := 77) dX2_throwFrom_37 (by decide) (fun c37 => ?_) (fun c37 => ?_)
  · have := c37
    refine v_vret F hr dX2_throwFrom_77 ?_ rfl
    unfold fThrow
    first | (rw [if_pos c37]; done) | (rw [if_neg c37, if_pos c42]; done) | (rw [if_neg c37, if_neg c42]; done)
  · have := c37
    have hx := fHasT_ix hT h12 c37
    refine v_iload F dX2_throwFrom_40 0 rfl ?_
    refine v_if_le F (tgt := 77) dX2_throwFrom_42 (by decide) (fun c42 => ?_) (fun c42 => ?_)
    · have := c42
      refine v_vret F hr dX2_throwFrom_77 ?_ rfl
      unfold fThrow
      first | (rw [if_pos c37]; done) | (rw [if_neg c37, if_pos c42]; done) | (rw [if_neg c37, if_neg c42]; done)
    · have := c42
      refine v_aload_n F dX2_throwFrom_45 rfl 3 rfl ?_
      refine v_get F (id_R hr0 (by decide) (by decide)) (heR hr0) rfl uw_X2 1 (by decide) rfl rfl wf_X2_20 dX2_throwFrom_46 ?_
      refine v_iload_n F dX2_throwFrom_49 rfl 2 rfl ?_
      refine v_aaldT F hr0 ((σ 6 j hd).toNatClampNeg) (Ix_mono hx h12) dX2_throwFrom_50 ?_
      refine v_aload_n F dX2_throwFrom_51 rfl 4 rfl ?_
      refine v_getN F (id_R hr0 (by decide) hj) (heR hr0) rfl uw_X0 0 (by decide) rfl rfl wf_X2_45 dX2_throwFrom_52 ?_
      refine v_getN F (id_R hr0 (by decide) hj) (heR hr0) rfl uw_X1 1 (by decide) rfl rfl wf_X2_115 dX2_throwFrom_55 ?_
      refine v_iload F dX2_throwFrom_58 1 rfl ?_
      refine v_iald F (id_R hr0 (by decide) hj) (heR hr0) rfl (b % n) (Ix_nI (by omega)) dX2_throwFrom_60 ?_
      refine v_iload F dX2_throwFrom_61 0 rfl ?_
      refine v_aload_n F dX2_throwFrom_63 rfl 3 rfl ?_
      refine v_get F (id_R hr0 (by decide) (by decide)) (heR hr0) rfl uw_X2 4 (by decide) rfl rfl wf_X2_32 dX2_throwFrom_64 ?_
      refine v_callNv F (As := [_, _, _]) (rest := []) rfl (c_X3_fly G hr0 (Nat.lt_of_lt_of_le hx.2.2 h12) _ _ _) (Rv_T hr0 (show _ < 12 from Nat.lt_of_lt_of_le hx.2.2 h12)) wm_X2_118 rfl ⟨rfl, rfl, Nat.le_of_ble_eq_true rfl, Nat.le_of_ble_eq_true rfl, Nat.le_of_ble_eq_true rfl, Nat.le_of_ble_eq_true rfl, Nat.le_of_ble_eq_true rfl⟩ dX2_throwFrom_67 ?_
      refine v_aload_n F dX2_throwFrom_70 rfl 4 rfl ?_
      refine v_getN F (id_R hr0 (by decide) hj) (heR hr0) rfl uw_X0 1 (by decide) rfl rfl wf_X2_58 dX2_throwFrom_71 ?_
      refine v_iload_n F dX2_throwFrom_74 rfl 5 rfl ?_
      refine v_iconst F (v := (-1)) dX2_throwFrom_75 (by decide) ?_
      refine v_iastC F (id_R hr0 (by decide) hj) (celD_R hr0) rfl (hd) (Ix_nI (by omega)) (celD_R hr0) dX2_throwFrom_76 ?_
      refine v_vret F hr dX2_throwFrom_77 ?_ rfl
      unfold fThrow
      first | (rw [if_pos c37]; done) | (rw [if_neg c37, if_pos c42]; done) | (rw [if_neg c37, if_neg c42]; done)
set_option maxHeartbeats 4000000 in
set_option maxRecDepth 100000 in
theorem L_X2_playBeat (F : Fx p l s m args meth c cX2_playBeat 4 RX2 X) (G : Gx X l) {r : Nat} (hr0 : r < 2) {σ : Sg} {jc tc : Nat} {ln : Nat → Nat} (hS : Shp σ jc tc ln) {b : Nat} (hb : b < 2 ^ 31) (hbt : σ 0 0 4 = nI b) {acc : Int32} (K : V p l e rm_X2_playBeat s m args below meth c Q X 4 ex (uC M r (thL b ln σ jc)) lf 0 0 40 [(3, .int (nI jc)), (2, .int acc), (1, .int (nI (b % 2))), (0, .ref (X.2.1 r 0 0))] []) : ∀ (k q : Nat) (τ : Sg), k + q = jc → τ = thL b ln σ q → V p l e rm_X2_playBeat s m args below meth c Q X 4 ex (uC M r τ) lf 0 0 15 [(3, .int (nI q)), (2, .int acc), (1, .int (nI (b % 2))), (0, .ref (X.2.1 r 0 0))] [] := by
  have h12 := hS.2.1
  have h4 := hS.1
  intro k
  induction k with
  | zero =>
    intro q τ hq hτ
    obtain rfl : q = jc := by omega
    have hJ : τ 0 0 2 = nI q := by rw [hτ]; exact (Shp_th hS q).2.2.1
    refine v_iload_n F dX2_playBeat_15 rfl 0 rfl ?_
    refine v_aload_n F dX2_playBeat_16 rfl 3 rfl ?_
    refine v_get F (id_R hr0 (by decide) (by decide)) (heR hr0) rfl uw_X2 2 (by decide) rfl rfl wf_X2_25 dX2_playBeat_17 ?_
    refine v_topr (nI q) hJ ?_
    refine v_icmp_ge F (tgt := 40) dX2_playBeat_20 (by decide) (fun c20 => ?_) (fun h => absurd (nI_le (Nat.le_refl _) (by omega)) h)
    subst hτ
    exact K
  | succ k ih =>
    intro q τ hq hτ
    have hq4 : q < jc := by omega
    have hST : Shp τ jc tc ln := by rw [hτ]; exact Shp_th hS q
    have hBT : τ 0 0 4 = nI b := by rw [hτ]; exact (thL_k (by decide) (by decide) q).trans hbt
    refine v_iload_n F dX2_playBeat_15 rfl 0 rfl ?_
    refine v_aload_n F dX2_playBeat_16 rfl 3 rfl ?_
    refine v_get F (id_R hr0 (by decide) (by decide)) (heR hr0) rfl uw_X2 2 (by decide) rfl rfl wf_X2_25 dX2_playBeat_17 ?_
    refine v_topr (nI jc) hST.2.2.1 ?_
    refine v_icmp_ge F (tgt := 40) dX2_playBeat_20 (by decide) (fun h => absurd h (nI_ge (by omega) (by omega))) (fun c20 => ?_)
    refine v_aload_n F dX2_playBeat_23 rfl 3 rfl ?_
    refine v_aload_n F dX2_playBeat_24 rfl 3 rfl ?_
    refine v_get F (id_R hr0 (by decide) (by decide)) (heR hr0) rfl uw_X2 0 (by decide) rfl rfl wf_X2_11 dX2_playBeat_25 ?_
    refine v_iload_n F dX2_playBeat_28 rfl 0 rfl ?_
    refine v_aaldJ F hr0 (q) (Ix_nI (by omega)) dX2_playBeat_29 ?_
    refine v_iload_n F dX2_playBeat_30 rfl 2 rfl ?_
    refine v_callVv F (As := [_, _]) (rest := []) rfl (c_X2_throwFrom G hr0 h12 hST.2.2.2.1 (show q < 4 by omega) (hST.2.2.2.2 q hq4).1 (hST.2.2.2.2 q hq4).2.1 (hST.2.2.2.2 q hq4).2.2 hb hBT (Nat.mod_lt b (by decide))) (Rv_R hr0) wm_X2_79 rfl ⟨rfl, rfl, Nat.le_of_ble_eq_true rfl, Nat.le_of_ble_eq_true rfl, Nat.le_of_ble_eq_true rfl, Nat.le_of_ble_eq_true rfl, Nat.le_of_ble_eq_true rfl⟩ dX2_playBeat_31 ?_
    refine v_iinc F (k := 0) (nI (q + 1)) dX2_playBeat_34 rfl (iinc_nI q) (by decide) (lv' := [(3, .int _), (2, .int _), (1, .int _), (0, .ref _)]) rfl ?_
    refine v_goto F (tgt := 15) dX2_playBeat_37 (by decide) ?_
    refine ih (q + 1) _ (by omega) ?_
    show _ = fThrow (thL b ln σ q) q (b % ln q) (b % 2)
    rw [hτ]
set_option maxHeartbeats 4000000 in
set_option maxRecDepth 100000 in
theorem c_X2_playBeat {X : Cx} {l : Launch} (G : Gx X l) {M : Mem} {lf : Lf} {r : Nat} (hr0 : r < 2) {σ : Sg} {jc tc : Nat} {ln : Nat → Nat} (hS : Shp σ jc tc ln) {b : Nat} (hb : b < 2 ^ 31) (hbt : σ 0 0 4 = nI b) : CI X l yX2_playBeat (wsc yX2_playBeat cX2_playBeat 4 (some .int)) rm_X2_playBeat [.ref (X.2.1 r 0 0)] (uC M r σ) lf (fBeatR σ b tc) (uC M r (fBeat σ b jc tc ln)) lf 0 0 := by
  refine CI_of (lv := [(0, .ref _)]) G (by decide) (Nat.le_of_ble_eq_true rfl) rfl (fun p e s m args below meth c F hr => ?_)
  have F : Fx p l s m args meth c cX2_playBeat 4 RX2 X := F
  refine v_aload_n F dX2_playBeat_0 rfl 0 rfl ?_
  refine v_get F (id_R hr0 (by decide) (by decide)) (heR hr0) rfl uw_X2 4 (by decide) rfl rfl wf_X2_32 dX2_playBeat_1 ?_
  refine v_topr (nI b) hbt ?_
  refine v_iconst F (v := 1) dX2_playBeat_4 (by decide) ?_
  refine v_iand F dX2_playBeat_5 ?_
  refine v_topr (nI (b % 2)) ((pk_andN (m := 1) (by omega) 1 (by decide)).trans rfl) ?_
  refine v_istore_n F dX2_playBeat_6 rfl (by decide) (lv' := [(1, .int _), (0, .ref _)]) rfl ?_
  refine v_aload_n F dX2_playBeat_7 rfl 1 rfl ?_
  refine v_iload_n F dX2_playBeat_8 rfl 0 rfl ?_
  refine v_callVi F (As := [_]) (rest := []) rfl (c_X2_comeDown G hr0 hS (Nat.mod_lt b (by decide))) (Rv_R hr0) wm_X2_75 rfl ⟨rfl, rfl, Nat.le_of_ble_eq_true rfl, Nat.le_of_ble_eq_true rfl, Nat.le_of_ble_eq_true rfl, Nat.le_of_ble_eq_true rfl, Nat.le_of_ble_eq_true rfl⟩ dX2_playBeat_9 ?_
  refine v_gen (fun τ1 h1 => ?_)
  refine v_istore_n F dX2_playBeat_12 rfl (by decide) (lv' := [(2, .int _), (1, .int _), (0, .ref _)]) rfl ?_
  refine v_iconst F (v := nI 0) dX2_playBeat_13 (by decide) ?_
  refine v_istore_n F dX2_playBeat_14 rfl (by decide) (lv' := [(3, .int _), (2, .int _), (1, .int _), (0, .ref _)]) rfl ?_
  refine L_X2_playBeat F G hr0 (σ := τ1) (jc := jc) (tc := tc) (ln := ln) (by rw [h1]; exact Shp_dn hS tc) hb (by rw [h1]; exact (dnL_k (by decide) (by decide) (by decide) tc).trans hbt) ?_ jc 0 _ (Nat.add_zero jc) rfl
  · skip
    refine v_gen (fun τ2 h2 => ?_)
    refine v_aload_n F dX2_playBeat_40 rfl 3 rfl ?_
    refine v_dup F dX2_playBeat_41 rfl ?_
    refine v_get F (id_R hr0 (by decide) (by decide)) (heR hr0) rfl uw_X2 4 (by decide) rfl rfl wf_X2_32 dX2_playBeat_42 ?_
    refine v_topr (nI b) (by rw [h2, h1]; exact (thL_k (by decide) (by decide) jc).trans ((dnL_k (by decide) (by decide) (by decide) tc).trans hbt)) ?_
    refine v_iconst F (v := 1) dX2_playBeat_45 (by decide) ?_
    refine v_iadd F dX2_playBeat_46 ?_
    refine v_topr (nI (b + 1)) (nI_succ b).symm ?_
    refine v_putC F tyX2 tyX2_ok nmX2 (id_R hr0 (by decide) (by decide)) (celD_R hr0) rfl uw_X2 4 (by decide) rfl rfl (by decide +kernel) (celD_R hr0) (Nat.le_of_ble_eq_true rfl) wf_X2_32 dX2_playBeat_47 ?_
    refine v_iload_n F dX2_playBeat_50 rfl 1 rfl ?_
    refine v_iret F hr dX2_playBeat_51 rfl ?_ rfl
    rw [h2, h1]
    rfl
set_option maxHeartbeats 4000000 in
set_option maxRecDepth 100000 in
theorem L_X2_play (F : Fx p l s m args meth c cX2_play 4 RX2 X) (G : Gx X l) {r : Nat} (hr0 : r < 2) {σ : Sg} {jc tc : Nat} {ln : Nat → Nat} (hS : Shp σ jc tc ln) {b n : Nat} (hb : b + n < 2 ^ 31) (hbt : σ 0 0 4 = nI b) (K : V p l e rm_X2_play s m args below meth c Q X 4 ex (uC M r (plL b jc tc ln σ n)) lf 0 0 22 [(3, .int (nI n)), (2, .int (plR b jc tc ln σ n)), (0, .ref (X.2.1 r 0 0)), (1, .int (nI n))] []) : ∀ (k q : Nat) (τ : Sg) (acc : Int32), k + q = n → τ = plL b jc tc ln σ q → acc = plR b jc tc ln σ q → V p l e rm_X2_play s m args below meth c Q X 4 ex (uC M r τ) lf 0 0 4 [(3, .int (nI q)), (2, .int acc), (0, .ref (X.2.1 r 0 0)), (1, .int (nI n))] [] := by
  intro k
  induction k with
  | zero =>
    intro q τ acc hq hτ hacc
    obtain rfl : q = n := by omega
    refine v_iload_n F dX2_play_4 rfl 0 rfl ?_
    refine v_iload_n F dX2_play_5 rfl 3 rfl ?_
    refine v_icmp_ge F (tgt := 22) dX2_play_6 (by decide) (fun c6 => ?_) (fun h => absurd (nI_le (Nat.le_refl _) (by omega)) h)
    subst hτ; subst hacc
    exact K
  | succ k ih =>
    intro q τ acc hq hτ hacc
    have hST : Shp τ jc tc ln := by rw [hτ]; exact Shp_pl hS q
    have hBT : τ 0 0 4 = nI (b + q) := by rw [hτ]; exact plL_b hbt q
    refine v_iload_n F dX2_play_4 rfl 0 rfl ?_
    refine v_iload_n F dX2_play_5 rfl 3 rfl ?_
    refine v_icmp_ge F (tgt := 22) dX2_play_6 (by decide) (fun h => absurd h (nI_ge (by omega) (by omega))) (fun c6 => ?_)
    refine v_iload_n F dX2_play_9 rfl 1 rfl ?_
    refine v_aload_n F dX2_play_10 rfl 2 rfl ?_
    refine v_callVi F (As := []) (rest := [.int _]) rfl (c_X2_playBeat G hr0 hST (show b + q < 2 ^ 31 by omega) hBT) (Rv_R hr0) wm_X2_71 rfl ⟨rfl, rfl, Nat.le_of_ble_eq_true rfl, Nat.le_of_ble_eq_true rfl, Nat.le_of_ble_eq_true rfl, Nat.le_of_ble_eq_true rfl, Nat.le_of_ble_eq_true rfl⟩ dX2_play_11 ?_
    refine v_iadd F dX2_play_14 ?_
    refine v_istore_n F dX2_play_15 rfl (by decide) (lv' := [(2, .int _), (3, .int _), (0, .ref _), (1, .int _)]) rfl ?_
    refine v_iinc F (k := 1) (nI (q + 1)) dX2_play_16 rfl (iinc_nI q) (by decide) (lv' := [(3, .int _), (2, .int _), (0, .ref _), (1, .int _)]) rfl ?_
    refine v_goto F (tgt := 4) dX2_play_19 (by decide) ?_
    refine ih (q + 1) _ _ (by omega) ?_ ?_
    · show _ = fBeat (plL b jc tc ln σ q) (b + q) jc tc ln
      rw [hτ]
    · show _ = plR b jc tc ln σ q + fBeatR (plL b jc tc ln σ q) (b + q) tc
      rw [hacc, hτ]
set_option maxHeartbeats 4000000 in
set_option maxRecDepth 100000 in
theorem c_X2_play {X : Cx} {l : Launch} (G : Gx X l) {M : Mem} {lf : Lf} {r : Nat} (hr0 : r < 2) {σ : Sg} {jc tc : Nat} {ln : Nat → Nat} (hS : Shp σ jc tc ln) {b n : Nat} (hb : b + n < 2 ^ 31) (hbt : σ 0 0 4 = nI b) : CI X l yX2_play (wsc yX2_play cX2_play 4 (some .int)) rm_X2_play [.ref (X.2.1 r 0 0), .int (nI n)] (uC M r σ) lf (plR b jc tc ln σ n) (uC M r (plL b jc tc ln σ n)) lf 0 0 := by
  refine CI_of (lv := [(0, .ref _), (1, .int _)]) G (by decide) (Nat.le_of_ble_eq_true rfl) rfl (fun p e s m args below meth c F hr => ?_)
  have F : Fx p l s m args meth c cX2_play 4 RX2 X := F
  refine v_iconst F (v := 0) dX2_play_0 (by decide) ?_
  refine v_istore_n F dX2_play_1 rfl (by decide) (lv' := [(2, .int _), (0, .ref _), (1, .int _)]) rfl ?_
  refine v_iconst F (v := nI 0) dX2_play_2 (by decide) ?_
  refine v_istore_n F dX2_play_3 rfl (by decide) (lv' := [(3, .int _), (2, .int _), (0, .ref _), (1, .int _)]) rfl ?_
  refine L_X2_play F G hr0 hS hb hbt ?_ n 0 _ _ (Nat.add_zero n) rfl rfl
  · skip
    refine v_iload_n F dX2_play_22 rfl 1 rfl ?_
    exact v_iret F hr dX2_play_23 rfl rfl rfl
set_option maxHeartbeats 4000000 in
set_option maxRecDepth 100000 in
theorem c_X2_tellThing_0 {X : Cx} {l : Launch} (G : Gx X l) {M : Mem} {lf : Lf} {r : Nat} (hr0 : r < 2) {σ : Sg} {jc tc : Nat} {ln : Nat → Nat} (hS : Shp σ jc tc ln) {k : Nat} (hk : k < tc) : CI X l yX2_tellThing (wsc yX2_tellThing cX2_tellThing 4 (some .int)) rm_X2_tellThing [.ref (X.2.1 r 0 0), .int (nI k), .int (nI 0)] (uC M r σ) lf (fTellT σ k 0) (uC M r σ) lf 0 0 := by
  refine CI_of (lv := [(0, .ref _), (1, .int _), (2, .int _)]) G (by decide) (Nat.le_of_ble_eq_true rfl) rfl (fun p e s m args below meth c F hr => ?_)
  have F : Fx p l s m args meth c cX2_tellThing 4 RX2 X := F
  have h12 := hS.2.1
  refine v_aload_n F dX2_tellThing_0 rfl 0 rfl ?_
  refine v_get F (id_R hr0 (by decide) (by decide)) (heR hr0) rfl uw_X2 1 (by decide) rfl rfl wf_X2_20 dX2_tellThing_1 ?_
  refine v_iload_n F dX2_tellThing_4 rfl 1 rfl ?_
  refine v_aaldT F hr0 (k) (Ix_nI (by omega)) dX2_tellThing_5 ?_
  refine v_astore_n F dX2_tellThing_6 rfl (by decide) (lv' := [(3, .ref _), (0, .ref _), (1, .int _), (2, .int _)]) rfl ?_
  refine v_iload_n F dX2_tellThing_7 rfl 3 rfl ?_
  refine v_tableIn F (tgt := 48) dX2_tellThing_8 (by decide) (by decide) rfl (by decide) ?_
  refine v_aload_n F dX2_tellThing_48 rfl 0 rfl ?_
  refine v_getN F (id_R hr0 (by decide) (show k < 12 by omega)) (heR hr0) rfl uw_X3 0 (by decide) rfl rfl wf_X2_55 dX2_tellThing_49 ?_
  refine v_iret F hr dX2_tellThing_52 ?_ rfl rfl
  first | rfl | (simp_all [fTellT]; done)
set_option maxHeartbeats 4000000 in
set_option maxRecDepth 100000 in
theorem c_X2_tellThing_1 {X : Cx} {l : Launch} (G : Gx X l) {M : Mem} {lf : Lf} {r : Nat} (hr0 : r < 2) {σ : Sg} {jc tc : Nat} {ln : Nat → Nat} (hS : Shp σ jc tc ln) {k : Nat} (hk : k < tc) : CI X l yX2_tellThing (wsc yX2_tellThing cX2_tellThing 4 (some .int)) rm_X2_tellThing [.ref (X.2.1 r 0 0), .int (nI k), .int (nI 1)] (uC M r σ) lf (fTellT σ k 1) (uC M r σ) lf 0 0 := by
  refine CI_of (lv := [(0, .ref _), (1, .int _), (2, .int _)]) G (by decide) (Nat.le_of_ble_eq_true rfl) rfl (fun p e s m args below meth c F hr => ?_)
  have F : Fx p l s m args meth c cX2_tellThing 4 RX2 X := F
  have h12 := hS.2.1
  refine v_aload_n F dX2_tellThing_0 rfl 0 rfl ?_
  refine v_get F (id_R hr0 (by decide) (by decide)) (heR hr0) rfl uw_X2 1 (by decide) rfl rfl wf_X2_20 dX2_tellThing_1 ?_
  refine v_iload_n F dX2_tellThing_4 rfl 1 rfl ?_
  refine v_aaldT F hr0 (k) (Ix_nI (by omega)) dX2_tellThing_5 ?_
  refine v_astore_n F dX2_tellThing_6 rfl (by decide) (lv' := [(3, .ref _), (0, .ref _), (1, .int _), (2, .int _)]) rfl ?_
  refine v_iload_n F dX2_tellThing_7 rfl 3 rfl ?_
  refine v_tableIn F (tgt := 53) dX2_tellThing_8 (by decide) (by decide) rfl (by decide) ?_
  refine v_aload_n F dX2_tellThing_53 rfl 0 rfl ?_
  refine v_getN F (id_R hr0 (by decide) (show k < 12 by omega)) (heR hr0) rfl uw_X3 1 (by decide) rfl rfl wf_X2_62 dX2_tellThing_54 ?_
  refine v_iret F hr dX2_tellThing_57 ?_ rfl rfl
  first | rfl | (simp_all [fTellT]; done)
set_option maxHeartbeats 4000000 in
set_option maxRecDepth 100000 in
theorem c_X2_tellThing_2 {X : Cx} {l : Launch} (G : Gx X l) {M : Mem} {lf : Lf} {r : Nat} (hr0 : r < 2) {σ : Sg} {jc tc : Nat} {ln : Nat → Nat} (hS : Shp σ jc tc ln) {k : Nat} (hk : k < tc) : CI X l yX2_tellThing (wsc yX2_tellThing cX2_tellThing 4 (some .int)) rm_X2_tellThing [.ref (X.2.1 r 0 0), .int (nI k), .int (nI 2)] (uC M r σ) lf (fTellT σ k 2) (uC M r σ) lf 0 0 := by
  refine CI_of (lv := [(0, .ref _), (1, .int _), (2, .int _)]) G (by decide) (Nat.le_of_ble_eq_true rfl) rfl (fun p e s m args below meth c F hr => ?_)
  have F : Fx p l s m args meth c cX2_tellThing 4 RX2 X := F
  have h12 := hS.2.1
  refine v_aload_n F dX2_tellThing_0 rfl 0 rfl ?_
  refine v_get F (id_R hr0 (by decide) (by decide)) (heR hr0) rfl uw_X2 1 (by decide) rfl rfl wf_X2_20 dX2_tellThing_1 ?_
  refine v_iload_n F dX2_tellThing_4 rfl 1 rfl ?_
  refine v_aaldT F hr0 (k) (Ix_nI (by omega)) dX2_tellThing_5 ?_
  refine v_astore_n F dX2_tellThing_6 rfl (by decide) (lv' := [(3, .ref _), (0, .ref _), (1, .int _), (2, .int _)]) rfl ?_
  refine v_iload_n F dX2_tellThing_7 rfl 3 rfl ?_
  refine v_tableIn F (tgt := 58) dX2_tellThing_8 (by decide) (by decide) rfl (by decide) ?_
  refine v_aload_n F dX2_tellThing_58 rfl 0 rfl ?_
  refine v_getN F (id_R hr0 (by decide) (show k < 12 by omega)) (heR hr0) rfl uw_X3 2 (by decide) rfl rfl wf_X2_65 dX2_tellThing_59 ?_
  refine v_iret F hr dX2_tellThing_62 ?_ rfl rfl
  first | rfl | (simp_all [fTellT]; done)
set_option maxHeartbeats 4000000 in
set_option maxRecDepth 100000 in
theorem c_X2_tellThing_3 {X : Cx} {l : Launch} (G : Gx X l) {M : Mem} {lf : Lf} {r : Nat} (hr0 : r < 2) {σ : Sg} {jc tc : Nat} {ln : Nat → Nat} (hS : Shp σ jc tc ln) {k : Nat} (hk : k < tc) : CI X l yX2_tellThing (wsc yX2_tellThing cX2_tellThing 4 (some .int)) rm_X2_tellThing [.ref (X.2.1 r 0 0), .int (nI k), .int (nI 3)] (uC M r σ) lf (fTellT σ k 3) (uC M r σ) lf 0 0 := by
  refine CI_of (lv := [(0, .ref _), (1, .int _), (2, .int _)]) G (by decide) (Nat.le_of_ble_eq_true rfl) rfl (fun p e s m args below meth c F hr => ?_)
  have F : Fx p l s m args meth c cX2_tellThing 4 RX2 X := F
  have h12 := hS.2.1
  refine v_aload_n F dX2_tellThing_0 rfl 0 rfl ?_
  refine v_get F (id_R hr0 (by decide) (by decide)) (heR hr0) rfl uw_X2 1 (by decide) rfl rfl wf_X2_20 dX2_tellThing_1 ?_
  refine v_iload_n F dX2_tellThing_4 rfl 1 rfl ?_
  refine v_aaldT F hr0 (k) (Ix_nI (by omega)) dX2_tellThing_5 ?_
  refine v_astore_n F dX2_tellThing_6 rfl (by decide) (lv' := [(3, .ref _), (0, .ref _), (1, .int _), (2, .int _)]) rfl ?_
  refine v_iload_n F dX2_tellThing_7 rfl 3 rfl ?_
  refine v_tableIn F (tgt := 63) dX2_tellThing_8 (by decide) (by decide) rfl (by decide) ?_
  refine v_aload_n F dX2_tellThing_63 rfl 0 rfl ?_
  refine v_getN F (id_R hr0 (by decide) (show k < 12 by omega)) (heR hr0) rfl uw_X3 3 (by decide) rfl rfl wf_X2_68 dX2_tellThing_64 ?_
  refine v_iret F hr dX2_tellThing_67 ?_ rfl rfl
  first | rfl | (simp_all [fTellT]; done)
set_option maxHeartbeats 4000000 in
set_option maxRecDepth 100000 in
theorem c_X2_tellThing_4 {X : Cx} {l : Launch} (G : Gx X l) {M : Mem} {lf : Lf} {r : Nat} (hr0 : r < 2) {σ : Sg} {jc tc : Nat} {ln : Nat → Nat} (hS : Shp σ jc tc ln) {k : Nat} (hk : k < tc) : CI X l yX2_tellThing (wsc yX2_tellThing cX2_tellThing 4 (some .int)) rm_X2_tellThing [.ref (X.2.1 r 0 0), .int (nI k), .int (nI 4)] (uC M r σ) lf (fTellT σ k 4) (uC M r σ) lf 0 0 := by
  refine CI_of (lv := [(0, .ref _), (1, .int _), (2, .int _)]) G (by decide) (Nat.le_of_ble_eq_true rfl) rfl (fun p e s m args below meth c F hr => ?_)
  have F : Fx p l s m args meth c cX2_tellThing 4 RX2 X := F
  have h12 := hS.2.1
  refine v_aload_n F dX2_tellThing_0 rfl 0 rfl ?_
  refine v_get F (id_R hr0 (by decide) (by decide)) (heR hr0) rfl uw_X2 1 (by decide) rfl rfl wf_X2_20 dX2_tellThing_1 ?_
  refine v_iload_n F dX2_tellThing_4 rfl 1 rfl ?_
  refine v_aaldT F hr0 (k) (Ix_nI (by omega)) dX2_tellThing_5 ?_
  refine v_astore_n F dX2_tellThing_6 rfl (by decide) (lv' := [(3, .ref _), (0, .ref _), (1, .int _), (2, .int _)]) rfl ?_
  refine v_iload_n F dX2_tellThing_7 rfl 3 rfl ?_
  refine v_tableIn F (tgt := 68) dX2_tellThing_8 (by decide) (by decide) rfl (by decide) ?_
  refine v_aload_n F dX2_tellThing_68 rfl 0 rfl ?_
  refine v_getN F (id_R hr0 (by decide) (show k < 12 by omega)) (heR hr0) rfl uw_X3 1 (by decide) rfl rfl wf_X2_62 dX2_tellThing_69 ?_
  refine v_iconst F (v := 2) dX2_tellThing_72 (by decide) ?_
  refine v_icmp_ne F (tgt := 88) dX2_tellThing_73 (by decide) (fun c73 => ?_) (fun c73 => ?_)
  · have := c73
    refine v_iconst F (v := (-1)) dX2_tellThing_88 (by decide) ?_
    refine v_iret F hr dX2_tellThing_89 ?_ rfl rfl
    first | rfl | (simp_all [fTellT]; done)
  · have := c73
    refine v_aload_n F dX2_tellThing_76 rfl 0 rfl ?_
    refine v_getN F (id_R hr0 (by decide) (show k < 12 by omega)) (heR hr0) rfl uw_X3 4 (by decide) rfl rfl wf_X2_130 dX2_tellThing_77 ?_
    refine v_aload_n F dX2_tellThing_80 rfl 1 rfl ?_
    refine v_get F (id_R hr0 (by decide) (by decide)) (heR hr0) rfl uw_X2 4 (by decide) rfl rfl wf_X2_32 dX2_tellThing_81 ?_
    refine v_isub F dX2_tellThing_84 ?_
    refine v_goto F (tgt := 89) dX2_tellThing_85 (by decide) ?_
    refine v_iret F hr dX2_tellThing_89 ?_ rfl rfl
    first | rfl | (simp_all [fTellT]; done)
set_option maxHeartbeats 4000000 in
set_option maxRecDepth 100000 in
theorem c_X2_tellThing_5 {X : Cx} {l : Launch} (G : Gx X l) {M : Mem} {lf : Lf} {r : Nat} (hr0 : r < 2) {σ : Sg} {jc tc : Nat} {ln : Nat → Nat} (hS : Shp σ jc tc ln) {k : Nat} (hk : k < tc) : CI X l yX2_tellThing (wsc yX2_tellThing cX2_tellThing 4 (some .int)) rm_X2_tellThing [.ref (X.2.1 r 0 0), .int (nI k), .int (nI 5)] (uC M r σ) lf (fTellT σ k 5) (uC M r σ) lf 0 0 := by
  refine CI_of (lv := [(0, .ref _), (1, .int _), (2, .int _)]) G (by decide) (Nat.le_of_ble_eq_true rfl) rfl (fun p e s m args below meth c F hr => ?_)
  have F : Fx p l s m args meth c cX2_tellThing 4 RX2 X := F
  have h12 := hS.2.1
  refine v_aload_n F dX2_tellThing_0 rfl 0 rfl ?_
  refine v_get F (id_R hr0 (by decide) (by decide)) (heR hr0) rfl uw_X2 1 (by decide) rfl rfl wf_X2_20 dX2_tellThing_1 ?_
  refine v_iload_n F dX2_tellThing_4 rfl 1 rfl ?_
  refine v_aaldT F hr0 (k) (Ix_nI (by omega)) dX2_tellThing_5 ?_
  refine v_astore_n F dX2_tellThing_6 rfl (by decide) (lv' := [(3, .ref _), (0, .ref _), (1, .int _), (2, .int _)]) rfl ?_
  refine v_iload_n F dX2_tellThing_7 rfl 3 rfl ?_
  refine v_tableIn F (tgt := 90) dX2_tellThing_8 (by decide) (by decide) rfl (by decide) ?_
  refine v_aload_n F dX2_tellThing_90 rfl 0 rfl ?_
  refine v_getN F (id_R hr0 (by decide) (show k < 12 by omega)) (heR hr0) rfl uw_X3 6 (by decide) rfl rfl wf_X2_121 dX2_tellThing_91 ?_
  refine v_iret F hr dX2_tellThing_94 ?_ rfl rfl
  first | rfl | (simp_all [fTellT]; done)
set_option maxHeartbeats 4000000 in
set_option maxRecDepth 100000 in
theorem c_X2_tellThing_6 {X : Cx} {l : Launch} (G : Gx X l) {M : Mem} {lf : Lf} {r : Nat} (hr0 : r < 2) {σ : Sg} {jc tc : Nat} {ln : Nat → Nat} (hS : Shp σ jc tc ln) {k : Nat} (hk : k < tc) : CI X l yX2_tellThing (wsc yX2_tellThing cX2_tellThing 4 (some .int)) rm_X2_tellThing [.ref (X.2.1 r 0 0), .int (nI k), .int (nI 6)] (uC M r σ) lf (fTellT σ k 6) (uC M r σ) lf 0 0 := by
  refine CI_of (lv := [(0, .ref _), (1, .int _), (2, .int _)]) G (by decide) (Nat.le_of_ble_eq_true rfl) rfl (fun p e s m args below meth c F hr => ?_)
  have F : Fx p l s m args meth c cX2_tellThing 4 RX2 X := F
  have h12 := hS.2.1
  refine v_aload_n F dX2_tellThing_0 rfl 0 rfl ?_
  refine v_get F (id_R hr0 (by decide) (by decide)) (heR hr0) rfl uw_X2 1 (by decide) rfl rfl wf_X2_20 dX2_tellThing_1 ?_
  refine v_iload_n F dX2_tellThing_4 rfl 1 rfl ?_
  refine v_aaldT F hr0 (k) (Ix_nI (by omega)) dX2_tellThing_5 ?_
  refine v_astore_n F dX2_tellThing_6 rfl (by decide) (lv' := [(3, .ref _), (0, .ref _), (1, .int _), (2, .int _)]) rfl ?_
  refine v_iload_n F dX2_tellThing_7 rfl 3 rfl ?_
  refine v_tableOut F (tgt := 95) dX2_tellThing_8 (Or.inr (by decide)) (by decide) ?_
  refine v_aload_n F dX2_tellThing_95 rfl 0 rfl ?_
  refine v_getN F (id_R hr0 (by decide) (show k < 12 by omega)) (heR hr0) rfl uw_X3 7 (by decide) rfl rfl wf_X2_124 dX2_tellThing_96 ?_
  refine v_iret F hr dX2_tellThing_99 ?_ rfl rfl
  first | rfl | (simp_all [fTellT]; done)
set_option maxHeartbeats 4000000 in
set_option maxRecDepth 100000 in
theorem c_X2_tellJuggler_0 {X : Cx} {l : Launch} (G : Gx X l) {M : Mem} {lf : Lf} {r : Nat} (hr0 : r < 2) {σ : Sg} {jc tc : Nat} {ln : Nat → Nat} (hS : Shp σ jc tc ln) {j : Nat} (hj : j < jc) : CI X l yX2_tellJuggler (wsc yX2_tellJuggler cX2_tellJuggler 4 (some .int)) rm_X2_tellJuggler [.ref (X.2.1 r 0 0), .int (nI j), .int (nI 0)] (uC M r σ) lf (fTellJ σ tc j 0) (uC M r σ) lf 0 0 := by
  refine CI_of (lv := [(0, .ref _), (1, .int _), (2, .int _)]) G (by decide) (Nat.le_of_ble_eq_true rfl) rfl (fun p e s m args below meth c F hr => ?_)
  have F : Fx p l s m args meth c cX2_tellJuggler 4 RX2 X := F
  have h4 := hS.1
  refine v_aload_n F dX2_tellJuggler_0 rfl 0 rfl ?_
  refine v_get F (id_R hr0 (by decide) (by decide)) (heR hr0) rfl uw_X2 0 (by decide) rfl rfl wf_X2_11 dX2_tellJuggler_1 ?_
  refine v_iload_n F dX2_tellJuggler_4 rfl 1 rfl ?_
  refine v_aaldJ F hr0 (j) (Ix_nI (by omega)) dX2_tellJuggler_5 ?_
  refine v_astore_n F dX2_tellJuggler_6 rfl (by decide) (lv' := [(3, .ref _), (0, .ref _), (1, .int _), (2, .int _)]) rfl ?_
  refine v_iload_n F dX2_tellJuggler_7 rfl 3 rfl ?_
  refine v_tableIn F (tgt := 48) dX2_tellJuggler_8 (by decide) (by decide) rfl (by decide) ?_
  refine v_aload_n F dX2_tellJuggler_48 rfl 0 rfl ?_
  refine v_getN F (id_R hr0 (by decide) (show j < 4 by omega)) (heR hr0) rfl uw_X0 2 (by decide) rfl rfl wf_X2_42 dX2_tellJuggler_49 ?_
  exact v_iret F hr dX2_tellJuggler_52 rfl rfl rfl
set_option maxHeartbeats 4000000 in
set_option maxRecDepth 100000 in
theorem c_X2_tellJuggler_1 {X : Cx} {l : Launch} (G : Gx X l) {M : Mem} {lf : Lf} {r : Nat} (hr0 : r < 2) {σ : Sg} {jc tc : Nat} {ln : Nat → Nat} (hS : Shp σ jc tc ln) {j : Nat} (hj : j < jc) : CI X l yX2_tellJuggler (wsc yX2_tellJuggler cX2_tellJuggler 4 (some .int)) rm_X2_tellJuggler [.ref (X.2.1 r 0 0), .int (nI j), .int (nI 1)] (uC M r σ) lf (fTellJ σ tc j 1) (uC M r σ) lf 0 0 := by
  refine CI_of (lv := [(0, .ref _), (1, .int _), (2, .int _)]) G (by decide) (Nat.le_of_ble_eq_true rfl) rfl (fun p e s m args below meth c F hr => ?_)
  have F : Fx p l s m args meth c cX2_tellJuggler 4 RX2 X := F
  have h4 := hS.1
  refine v_aload_n F dX2_tellJuggler_0 rfl 0 rfl ?_
  refine v_get F (id_R hr0 (by decide) (by decide)) (heR hr0) rfl uw_X2 0 (by decide) rfl rfl wf_X2_11 dX2_tellJuggler_1 ?_
  refine v_iload_n F dX2_tellJuggler_4 rfl 1 rfl ?_
  refine v_aaldJ F hr0 (j) (Ix_nI (by omega)) dX2_tellJuggler_5 ?_
  refine v_astore_n F dX2_tellJuggler_6 rfl (by decide) (lv' := [(3, .ref _), (0, .ref _), (1, .int _), (2, .int _)]) rfl ?_
  refine v_iload_n F dX2_tellJuggler_7 rfl 3 rfl ?_
  refine v_tableIn F (tgt := 53) dX2_tellJuggler_8 (by decide) (by decide) rfl (by decide) ?_
  refine v_aload_n F dX2_tellJuggler_53 rfl 0 rfl ?_
  refine v_getN F (id_R hr0 (by decide) (show j < 4 by omega)) (heR hr0) rfl uw_X0 3 (by decide) rfl rfl wf_X2_127 dX2_tellJuggler_54 ?_
  exact v_iret F hr dX2_tellJuggler_57 rfl rfl rfl
set_option maxHeartbeats 4000000 in
set_option maxRecDepth 100000 in
theorem c_X2_tellJuggler_2 {X : Cx} {l : Launch} (G : Gx X l) {M : Mem} {lf : Lf} {r : Nat} (hr0 : r < 2) {σ : Sg} {jc tc : Nat} {ln : Nat → Nat} (hS : Shp σ jc tc ln) {j : Nat} (hj : j < jc) : CI X l yX2_tellJuggler (wsc yX2_tellJuggler cX2_tellJuggler 4 (some .int)) rm_X2_tellJuggler [.ref (X.2.1 r 0 0), .int (nI j), .int (nI 2)] (uC M r σ) lf (fTellJ σ tc j 2) (uC M r σ) lf 0 0 := by
  refine CI_of (lv := [(0, .ref _), (1, .int _), (2, .int _)]) G (by decide) (Nat.le_of_ble_eq_true rfl) rfl (fun p e s m args below meth c F hr => ?_)
  have F : Fx p l s m args meth c cX2_tellJuggler 4 RX2 X := F
  have h4 := hS.1
  refine v_aload_n F dX2_tellJuggler_0 rfl 0 rfl ?_
  refine v_get F (id_R hr0 (by decide) (by decide)) (heR hr0) rfl uw_X2 0 (by decide) rfl rfl wf_X2_11 dX2_tellJuggler_1 ?_
  refine v_iload_n F dX2_tellJuggler_4 rfl 1 rfl ?_
  refine v_aaldJ F hr0 (j) (Ix_nI (by omega)) dX2_tellJuggler_5 ?_
  refine v_astore_n F dX2_tellJuggler_6 rfl (by decide) (lv' := [(3, .ref _), (0, .ref _), (1, .int _), (2, .int _)]) rfl ?_
  refine v_iload_n F dX2_tellJuggler_7 rfl 3 rfl ?_
  refine v_tableIn F (tgt := 58) dX2_tellJuggler_8 (by decide) (by decide) rfl (by decide) ?_
  refine v_aload_n F dX2_tellJuggler_58 rfl 0 rfl ?_
  refine v_getN F (id_R hr0 (by decide) (show j < 4 by omega)) (heR hr0) rfl uw_X0 1 (by decide) rfl rfl wf_X2_58 dX2_tellJuggler_59 ?_
  refine v_iconst F (v := 0) dX2_tellJuggler_62 (by decide) ?_
  refine v_iald F (id_R hr0 (by decide) (show j < 4 by omega)) (heR hr0) rfl (0) ⟨by decide, by decide, by decide⟩ dX2_tellJuggler_63 ?_
  exact v_iret F hr dX2_tellJuggler_64 rfl rfl rfl
set_option maxHeartbeats 4000000 in
set_option maxRecDepth 100000 in
theorem c_X2_tellJuggler_3 {X : Cx} {l : Launch} (G : Gx X l) {M : Mem} {lf : Lf} {r : Nat} (hr0 : r < 2) {σ : Sg} {jc tc : Nat} {ln : Nat → Nat} (hS : Shp σ jc tc ln) {j : Nat} (hj : j < jc) : CI X l yX2_tellJuggler (wsc yX2_tellJuggler cX2_tellJuggler 4 (some .int)) rm_X2_tellJuggler [.ref (X.2.1 r 0 0), .int (nI j), .int (nI 3)] (uC M r σ) lf (fTellJ σ tc j 3) (uC M r σ) lf 0 0 := by
  refine CI_of (lv := [(0, .ref _), (1, .int _), (2, .int _)]) G (by decide) (Nat.le_of_ble_eq_true rfl) rfl (fun p e s m args below meth c F hr => ?_)
  have F : Fx p l s m args meth c cX2_tellJuggler 4 RX2 X := F
  have h4 := hS.1
  refine v_aload_n F dX2_tellJuggler_0 rfl 0 rfl ?_
  refine v_get F (id_R hr0 (by decide) (by decide)) (heR hr0) rfl uw_X2 0 (by decide) rfl rfl wf_X2_11 dX2_tellJuggler_1 ?_
  refine v_iload_n F dX2_tellJuggler_4 rfl 1 rfl ?_
  refine v_aaldJ F hr0 (j) (Ix_nI (by omega)) dX2_tellJuggler_5 ?_
  refine v_astore_n F dX2_tellJuggler_6 rfl (by decide) (lv' := [(3, .ref _), (0, .ref _), (1, .int _), (2, .int _)]) rfl ?_
  refine v_iload_n F dX2_tellJuggler_7 rfl 3 rfl ?_
  refine v_tableIn F (tgt := 65) dX2_tellJuggler_8 (by decide) (by decide) rfl (by decide) ?_
  refine v_aload_n F dX2_tellJuggler_65 rfl 0 rfl ?_
  refine v_getN F (id_R hr0 (by decide) (show j < 4 by omega)) (heR hr0) rfl uw_X0 1 (by decide) rfl rfl wf_X2_58 dX2_tellJuggler_66 ?_
  refine v_iconst F (v := 1) dX2_tellJuggler_69 (by decide) ?_
  refine v_iald F (id_R hr0 (by decide) (show j < 4 by omega)) (heR hr0) rfl (1) ⟨by decide, by decide, by decide⟩ dX2_tellJuggler_70 ?_
  exact v_iret F hr dX2_tellJuggler_71 rfl rfl rfl
set_option maxHeartbeats 4000000 in
set_option maxRecDepth 100000 in
theorem c_X2_tellJuggler_4 {X : Cx} {l : Launch} (G : Gx X l) {M : Mem} {lf : Lf} {r : Nat} (hr0 : r < 2) {σ : Sg} {jc tc : Nat} {ln : Nat → Nat} (hS : Shp σ jc tc ln) {j : Nat} (hj : j < jc) : CI X l yX2_tellJuggler (wsc yX2_tellJuggler cX2_tellJuggler 4 (some .int)) rm_X2_tellJuggler [.ref (X.2.1 r 0 0), .int (nI j), .int (nI 4)] (uC M r σ) lf (fTellJ σ tc j 4) (uC M r σ) lf 0 0 := by
  refine CI_of (lv := [(0, .ref _), (1, .int _), (2, .int _)]) G (by decide) (Nat.le_of_ble_eq_true rfl) rfl (fun p e s m args below meth c F hr => ?_)
  have F : Fx p l s m args meth c cX2_tellJuggler 4 RX2 X := F
  have h4 := hS.1
  refine v_aload_n F dX2_tellJuggler_0 rfl 0 rfl ?_
  refine v_get F (id_R hr0 (by decide) (by decide)) (heR hr0) rfl uw_X2 0 (by decide) rfl rfl wf_X2_11 dX2_tellJuggler_1 ?_
  refine v_iload_n F dX2_tellJuggler_4 rfl 1 rfl ?_
  refine v_aaldJ F hr0 (j) (Ix_nI (by omega)) dX2_tellJuggler_5 ?_
  refine v_astore_n F dX2_tellJuggler_6 rfl (by decide) (lv' := [(3, .ref _), (0, .ref _), (1, .int _), (2, .int _)]) rfl ?_
  refine v_iload_n F dX2_tellJuggler_7 rfl 3 rfl ?_
  refine v_tableIn F (tgt := 72) dX2_tellJuggler_8 (by decide) (by decide) rfl (by decide) ?_
  refine v_aload_n F dX2_tellJuggler_72 rfl 0 rfl ?_
  refine v_getN F (id_R hr0 (by decide) (show j < 4 by omega)) (heR hr0) rfl uw_X0 0 (by decide) rfl rfl wf_X2_45 dX2_tellJuggler_73 ?_
  refine v_getN F (id_R hr0 (by decide) (show j < 4 by omega)) (heR hr0) rfl uw_X1 2 (by decide) rfl rfl wf_X2_133 dX2_tellJuggler_76 ?_
  exact v_iret F hr dX2_tellJuggler_79 rfl rfl rfl
set_option maxHeartbeats 4000000 in
set_option maxRecDepth 100000 in
theorem c_X2_tellJuggler_5 {X : Cx} {l : Launch} (G : Gx X l) {M : Mem} {lf : Lf} {r : Nat} (hr0 : r < 2) {σ : Sg} {jc tc : Nat} {ln : Nat → Nat} (hS : Shp σ jc tc ln) {j : Nat} (hj : j < jc) : CI X l yX2_tellJuggler (wsc yX2_tellJuggler cX2_tellJuggler 4 (some .int)) rm_X2_tellJuggler [.ref (X.2.1 r 0 0), .int (nI j), .int (nI 5)] (uC M r σ) lf (fTellJ σ tc j 5) (uC M r σ) lf 0 0 := by
  refine CI_of (lv := [(0, .ref _), (1, .int _), (2, .int _)]) G (by decide) (Nat.le_of_ble_eq_true rfl) rfl (fun p e s m args below meth c F hr => ?_)
  have F : Fx p l s m args meth c cX2_tellJuggler 4 RX2 X := F
  have h4 := hS.1
  refine v_aload_n F dX2_tellJuggler_0 rfl 0 rfl ?_
  refine v_get F (id_R hr0 (by decide) (by decide)) (heR hr0) rfl uw_X2 0 (by decide) rfl rfl wf_X2_11 dX2_tellJuggler_1 ?_
  refine v_iload_n F dX2_tellJuggler_4 rfl 1 rfl ?_
  refine v_aaldJ F hr0 (j) (Ix_nI (by omega)) dX2_tellJuggler_5 ?_
  refine v_astore_n F dX2_tellJuggler_6 rfl (by decide) (lv' := [(3, .ref _), (0, .ref _), (1, .int _), (2, .int _)]) rfl ?_
  refine v_iload_n F dX2_tellJuggler_7 rfl 3 rfl ?_
  refine v_tableIn F (tgt := 80) dX2_tellJuggler_8 (by decide) (by decide) rfl (by decide) ?_
  refine v_aload_n F dX2_tellJuggler_80 rfl 1 rfl ?_
  refine v_iload_n F dX2_tellJuggler_81 rfl 2 rfl ?_
  refine v_callVi F (As := [_]) (rest := []) rfl (c_X2_thingsFlyingTo G hr0 hS _) (Rv_R hr0) wm_X2_136 rfl ⟨rfl, rfl, Nat.le_of_ble_eq_true rfl, Nat.le_of_ble_eq_true rfl, Nat.le_of_ble_eq_true rfl, Nat.le_of_ble_eq_true rfl, Nat.le_of_ble_eq_true rfl⟩ dX2_tellJuggler_82 ?_
  exact v_iret F hr dX2_tellJuggler_85 rfl rfl rfl
set_option maxHeartbeats 4000000 in
set_option maxRecDepth 100000 in
theorem c_X2_tellJuggler_6 {X : Cx} {l : Launch} (G : Gx X l) {M : Mem} {lf : Lf} {r : Nat} (hr0 : r < 2) {σ : Sg} {jc tc : Nat} {ln : Nat → Nat} (hS : Shp σ jc tc ln) {j : Nat} (hj : j < jc) : CI X l yX2_tellJuggler (wsc yX2_tellJuggler cX2_tellJuggler 4 (some .int)) rm_X2_tellJuggler [.ref (X.2.1 r 0 0), .int (nI j), .int (nI 6)] (uC M r σ) lf (fTellJ σ tc j 6) (uC M r σ) lf 0 0 := by
  refine CI_of (lv := [(0, .ref _), (1, .int _), (2, .int _)]) G (by decide) (Nat.le_of_ble_eq_true rfl) rfl (fun p e s m args below meth c F hr => ?_)
  have F : Fx p l s m args meth c cX2_tellJuggler 4 RX2 X := F
  have h4 := hS.1
  refine v_aload_n F dX2_tellJuggler_0 rfl 0 rfl ?_
  refine v_get F (id_R hr0 (by decide) (by decide)) (heR hr0) rfl uw_X2 0 (by decide) rfl rfl wf_X2_11 dX2_tellJuggler_1 ?_
  refine v_iload_n F dX2_tellJuggler_4 rfl 1 rfl ?_
  refine v_aaldJ F hr0 (j) (Ix_nI (by omega)) dX2_tellJuggler_5 ?_
  refine v_astore_n F dX2_tellJuggler_6 rfl (by decide) (lv' := [(3, .ref _), (0, .ref _), (1, .int _), (2, .int _)]) rfl ?_
  refine v_iload_n F dX2_tellJuggler_7 rfl 3 rfl ?_
  refine v_tableOut F (tgt := 86) dX2_tellJuggler_8 (Or.inr (by decide)) (by decide) ?_
  refine v_aload_n F dX2_tellJuggler_86 rfl 0 rfl ?_
  refine v_getN F (id_R hr0 (by decide) (show j < 4 by omega)) (heR hr0) rfl uw_X0 4 (by decide) rfl rfl wf_X2_100 dX2_tellJuggler_87 ?_
  exact v_iret F hr dX2_tellJuggler_90 rfl rfl rfl
set_option maxHeartbeats 4000000 in
set_option maxRecDepth 100000 in
theorem c_X2_tellCount_0 {X : Cx} {l : Launch} (G : Gx X l) {M : Mem} {lf : Lf} {r : Nat} (hr0 : r < 2) {σ : Sg} {jc tc : Nat} {ln : Nat → Nat} (hS : Shp σ jc tc ln)  : CI X l yX2_tellCount (wsc yX2_tellCount cX2_tellCount 2 (some .int)) rm_X2_tellCount [.ref (X.2.1 r 0 0), .int (nI 0)] (uC M r σ) lf (fTellC σ tc 0) (uC M r σ) lf 0 0 := by
  refine CI_of (lv := [(0, .ref _), (1, .int _)]) G (by decide) (Nat.le_of_ble_eq_true rfl) rfl (fun p e s m args below meth c F hr => ?_)
  have F : Fx p l s m args meth c cX2_tellCount 2 RX2 X := F
  refine v_iload_n F dX2_tellCount_0 rfl 1 rfl ?_
  refine v_tableIn F (tgt := 48) dX2_tellCount_1 (by decide) (by decide) rfl (by decide) ?_
  refine v_aload_n F dX2_tellCount_48 rfl 0 rfl ?_
  refine v_get F (id_R hr0 (by decide) (by decide)) (heR hr0) rfl uw_X2 4 (by decide) rfl rfl wf_X2_32 dX2_tellCount_49 ?_
  exact v_iret F hr dX2_tellCount_52 rfl rfl rfl
set_option maxHeartbeats 4000000 in
set_option maxRecDepth 100000 in
theorem c_X2_tellCount_1 {X : Cx} {l : Launch} (G : Gx X l) {M : Mem} {lf : Lf} {r : Nat} (hr0 : r < 2) {σ : Sg} {jc tc : Nat} {ln : Nat → Nat} (hS : Shp σ jc tc ln)  : CI X l yX2_tellCount (wsc yX2_tellCount cX2_tellCount 2 (some .int)) rm_X2_tellCount [.ref (X.2.1 r 0 0), .int (nI 1)] (uC M r σ) lf (fTellC σ tc 1) (uC M r σ) lf 0 0 := by
  refine CI_of (lv := [(0, .ref _), (1, .int _)]) G (by decide) (Nat.le_of_ble_eq_true rfl) rfl (fun p e s m args below meth c F hr => ?_)
  have F : Fx p l s m args meth c cX2_tellCount 2 RX2 X := F
  refine v_iload_n F dX2_tellCount_0 rfl 1 rfl ?_
  refine v_tableIn F (tgt := 53) dX2_tellCount_1 (by decide) (by decide) rfl (by decide) ?_
  refine v_aload_n F dX2_tellCount_53 rfl 0 rfl ?_
  refine v_get F (id_R hr0 (by decide) (by decide)) (heR hr0) rfl uw_X2 2 (by decide) rfl rfl wf_X2_25 dX2_tellCount_54 ?_
  exact v_iret F hr dX2_tellCount_57 rfl rfl rfl
set_option maxHeartbeats 4000000 in
set_option maxRecDepth 100000 in
theorem c_X2_tellCount_2 {X : Cx} {l : Launch} (G : Gx X l) {M : Mem} {lf : Lf} {r : Nat} (hr0 : r < 2) {σ : Sg} {jc tc : Nat} {ln : Nat → Nat} (hS : Shp σ jc tc ln)  : CI X l yX2_tellCount (wsc yX2_tellCount cX2_tellCount 2 (some .int)) rm_X2_tellCount [.ref (X.2.1 r 0 0), .int (nI 2)] (uC M r σ) lf (fTellC σ tc 2) (uC M r σ) lf 0 0 := by
  refine CI_of (lv := [(0, .ref _), (1, .int _)]) G (by decide) (Nat.le_of_ble_eq_true rfl) rfl (fun p e s m args below meth c F hr => ?_)
  have F : Fx p l s m args meth c cX2_tellCount 2 RX2 X := F
  refine v_iload_n F dX2_tellCount_0 rfl 1 rfl ?_
  refine v_tableIn F (tgt := 58) dX2_tellCount_1 (by decide) (by decide) rfl (by decide) ?_
  refine v_aload_n F dX2_tellCount_58 rfl 0 rfl ?_
  refine v_get F (id_R hr0 (by decide) (by decide)) (heR hr0) rfl uw_X2 3 (by decide) rfl rfl wf_X2_29 dX2_tellCount_59 ?_
  exact v_iret F hr dX2_tellCount_62 rfl rfl rfl
set_option maxHeartbeats 4000000 in
set_option maxRecDepth 100000 in
theorem c_X2_tellCount_3 {X : Cx} {l : Launch} (G : Gx X l) {M : Mem} {lf : Lf} {r : Nat} (hr0 : r < 2) {σ : Sg} {jc tc : Nat} {ln : Nat → Nat} (hS : Shp σ jc tc ln)  : CI X l yX2_tellCount (wsc yX2_tellCount cX2_tellCount 2 (some .int)) rm_X2_tellCount [.ref (X.2.1 r 0 0), .int (nI 3)] (uC M r σ) lf (fTellC σ tc 3) (uC M r σ) lf 0 0 := by
  refine CI_of (lv := [(0, .ref _), (1, .int _)]) G (by decide) (Nat.le_of_ble_eq_true rfl) rfl (fun p e s m args below meth c F hr => ?_)
  have F : Fx p l s m args meth c cX2_tellCount 2 RX2 X := F
  refine v_iload_n F dX2_tellCount_0 rfl 1 rfl ?_
  refine v_tableIn F (tgt := 63) dX2_tellCount_1 (by decide) (by decide) rfl (by decide) ?_
  refine v_aload_n F dX2_tellCount_63 rfl 0 rfl ?_
  refine v_iconst F (v := 1) dX2_tellCount_64 (by decide) ?_
  refine v_callVi F (As := [_]) (rest := []) rfl (c_X2_thingsIn G hr0 hS _) (Rv_R hr0) wm_X2_139 rfl ⟨rfl, rfl, Nat.le_of_ble_eq_true rfl, Nat.le_of_ble_eq_true rfl, Nat.le_of_ble_eq_true rfl, Nat.le_of_ble_eq_true rfl, Nat.le_of_ble_eq_true rfl⟩ dX2_tellCount_65 ?_
  exact v_iret F hr dX2_tellCount_68 rfl rfl rfl
set_option maxHeartbeats 4000000 in
set_option maxRecDepth 100000 in
theorem c_X2_tellCount_4 {X : Cx} {l : Launch} (G : Gx X l) {M : Mem} {lf : Lf} {r : Nat} (hr0 : r < 2) {σ : Sg} {jc tc : Nat} {ln : Nat → Nat} (hS : Shp σ jc tc ln)  : CI X l yX2_tellCount (wsc yX2_tellCount cX2_tellCount 2 (some .int)) rm_X2_tellCount [.ref (X.2.1 r 0 0), .int (nI 4)] (uC M r σ) lf (fTellC σ tc 4) (uC M r σ) lf 0 0 := by
  refine CI_of (lv := [(0, .ref _), (1, .int _)]) G (by decide) (Nat.le_of_ble_eq_true rfl) rfl (fun p e s m args below meth c F hr => ?_)
  have F : Fx p l s m args meth c cX2_tellCount 2 RX2 X := F
  refine v_iload_n F dX2_tellCount_0 rfl 1 rfl ?_
  refine v_tableIn F (tgt := 69) dX2_tellCount_1 (by decide) (by decide) rfl (by decide) ?_
  refine v_aload_n F dX2_tellCount_69 rfl 0 rfl ?_
  refine v_iconst F (v := 2) dX2_tellCount_70 (by decide) ?_
  refine v_callVi F (As := [_]) (rest := []) rfl (c_X2_thingsIn G hr0 hS _) (Rv_R hr0) wm_X2_139 rfl ⟨rfl, rfl, Nat.le_of_ble_eq_true rfl, Nat.le_of_ble_eq_true rfl, Nat.le_of_ble_eq_true rfl, Nat.le_of_ble_eq_true rfl, Nat.le_of_ble_eq_true rfl⟩ dX2_tellCount_71 ?_
  exact v_iret F hr dX2_tellCount_74 rfl rfl rfl
set_option maxHeartbeats 4000000 in
set_option maxRecDepth 100000 in
theorem c_X2_tellCount_5 {X : Cx} {l : Launch} (G : Gx X l) {M : Mem} {lf : Lf} {r : Nat} (hr0 : r < 2) {σ : Sg} {jc tc : Nat} {ln : Nat → Nat} (hS : Shp σ jc tc ln)  : CI X l yX2_tellCount (wsc yX2_tellCount cX2_tellCount 2 (some .int)) rm_X2_tellCount [.ref (X.2.1 r 0 0), .int (nI 5)] (uC M r σ) lf (fTellC σ tc 5) (uC M r σ) lf 0 0 := by
  refine CI_of (lv := [(0, .ref _), (1, .int _)]) G (by decide) (Nat.le_of_ble_eq_true rfl) rfl (fun p e s m args below meth c F hr => ?_)
  have F : Fx p l s m args meth c cX2_tellCount 2 RX2 X := F
  refine v_iload_n F dX2_tellCount_0 rfl 1 rfl ?_
  refine v_tableIn F (tgt := 75) dX2_tellCount_1 (by decide) (by decide) rfl (by decide) ?_
  refine v_aload_n F dX2_tellCount_75 rfl 0 rfl ?_
  refine v_iconst F (v := 0) dX2_tellCount_76 (by decide) ?_
  refine v_callVi F (As := [_]) (rest := []) rfl (c_X2_thingsIn G hr0 hS _) (Rv_R hr0) wm_X2_139 rfl ⟨rfl, rfl, Nat.le_of_ble_eq_true rfl, Nat.le_of_ble_eq_true rfl, Nat.le_of_ble_eq_true rfl, Nat.le_of_ble_eq_true rfl, Nat.le_of_ble_eq_true rfl⟩ dX2_tellCount_77 ?_
  exact v_iret F hr dX2_tellCount_80 rfl rfl rfl
set_option maxHeartbeats 4000000 in
set_option maxRecDepth 100000 in
theorem c_X2_tellCount_6 {X : Cx} {l : Launch} (G : Gx X l) {M : Mem} {lf : Lf} {r : Nat} (hr0 : r < 2) {σ : Sg} {jc tc : Nat} {ln : Nat → Nat} (hS : Shp σ jc tc ln)  : CI X l yX2_tellCount (wsc yX2_tellCount cX2_tellCount 2 (some .int)) rm_X2_tellCount [.ref (X.2.1 r 0 0), .int (nI 6)] (uC M r σ) lf (fTellC σ tc 6) (uC M r σ) lf 0 0 := by
  refine CI_of (lv := [(0, .ref _), (1, .int _)]) G (by decide) (Nat.le_of_ble_eq_true rfl) rfl (fun p e s m args below meth c F hr => ?_)
  have F : Fx p l s m args meth c cX2_tellCount 2 RX2 X := F
  refine v_iload_n F dX2_tellCount_0 rfl 1 rfl ?_
  refine v_tableIn F (tgt := 81) dX2_tellCount_1 (by decide) (by decide) rfl (by decide) ?_
  refine v_aload_n F dX2_tellCount_81 rfl 0 rfl ?_
  refine v_iconst F (v := 3) dX2_tellCount_82 (by decide) ?_
  refine v_callVi F (As := [_]) (rest := []) rfl (c_X2_thingsIn G hr0 hS _) (Rv_R hr0) wm_X2_139 rfl ⟨rfl, rfl, Nat.le_of_ble_eq_true rfl, Nat.le_of_ble_eq_true rfl, Nat.le_of_ble_eq_true rfl, Nat.le_of_ble_eq_true rfl, Nat.le_of_ble_eq_true rfl⟩ dX2_tellCount_83 ?_
  exact v_iret F hr dX2_tellCount_86 rfl rfl rfl
set_option maxHeartbeats 4000000 in
set_option maxRecDepth 100000 in
theorem c_X2_tellCount_7 {X : Cx} {l : Launch} (G : Gx X l) {M : Mem} {lf : Lf} {r : Nat} (hr0 : r < 2) {σ : Sg} {jc tc : Nat} {ln : Nat → Nat} (hS : Shp σ jc tc ln)  : CI X l yX2_tellCount (wsc yX2_tellCount cX2_tellCount 2 (some .int)) rm_X2_tellCount [.ref (X.2.1 r 0 0), .int (nI 7)] (uC M r σ) lf (fTellC σ tc 7) (uC M r σ) lf 0 0 := by
  refine CI_of (lv := [(0, .ref _), (1, .int _)]) G (by decide) (Nat.le_of_ble_eq_true rfl) rfl (fun p e s m args below meth c F hr => ?_)
  have F : Fx p l s m args meth c cX2_tellCount 2 RX2 X := F
  refine v_iload_n F dX2_tellCount_0 rfl 1 rfl ?_
  refine v_tableIn F (tgt := 87) dX2_tellCount_1 (by decide) (by decide) rfl (by decide) ?_
  refine v_aload_n F dX2_tellCount_87 rfl 0 rfl ?_
  refine v_callVi F (As := []) (rest := []) rfl (c_X2_allFell G hr0 hS) (Rv_R hr0) wm_X2_142 rfl ⟨rfl, rfl, Nat.le_of_ble_eq_true rfl, Nat.le_of_ble_eq_true rfl, Nat.le_of_ble_eq_true rfl, Nat.le_of_ble_eq_true rfl, Nat.le_of_ble_eq_true rfl⟩ dX2_tellCount_88 ?_
  exact v_iret F hr dX2_tellCount_91 rfl rfl rfl
set_option maxHeartbeats 4000000 in
set_option maxRecDepth 100000 in
theorem c_X2_tellCount_8 {X : Cx} {l : Launch} (G : Gx X l) {M : Mem} {lf : Lf} {r : Nat} (hr0 : r < 2) {σ : Sg} {jc tc : Nat} {ln : Nat → Nat} (hS : Shp σ jc tc ln)  : CI X l yX2_tellCount (wsc yX2_tellCount cX2_tellCount 2 (some .int)) rm_X2_tellCount [.ref (X.2.1 r 0 0), .int (nI 8)] (uC M r σ) lf (fTellC σ tc 8) (uC M r σ) lf 0 0 := by
  refine CI_of (lv := [(0, .ref _), (1, .int _)]) G (by decide) (Nat.le_of_ble_eq_true rfl) rfl (fun p e s m args below meth c F hr => ?_)
  have F : Fx p l s m args meth c cX2_tellCount 2 RX2 X := F
  refine v_iload_n F dX2_tellCount_0 rfl 1 rfl ?_
  refine v_tableOut F (tgt := 92) dX2_tellCount_1 (Or.inr (by decide)) (by decide) ?_
  refine v_aload_n F dX2_tellCount_92 rfl 0 rfl ?_
  refine v_callVi F (As := []) (rest := []) rfl (c_X2_allThrown G hr0 hS) (Rv_R hr0) wm_X2_145 rfl ⟨rfl, rfl, Nat.le_of_ble_eq_true rfl, Nat.le_of_ble_eq_true rfl, Nat.le_of_ble_eq_true rfl, Nat.le_of_ble_eq_true rfl, Nat.le_of_ble_eq_true rfl⟩ dX2_tellCount_93 ?_
  exact v_iret F hr dX2_tellCount_96 rfl rfl rfl
theorem c_X2_tellThing {X : Cx} {l : Launch} (G : Gx X l) {M : Mem} {lf : Lf} {r : Nat} (hr0 : r < 2) {σ : Sg} {jc tc : Nat} {ln : Nat → Nat} (hS : Shp σ jc tc ln) {k : Nat} (hk : k < tc) : ∀ w : Nat, w < 7 → CI X l yX2_tellThing (wsc yX2_tellThing cX2_tellThing 4 (some .int)) rm_X2_tellThing [.ref (X.2.1 r 0 0), .int (nI k), .int (nI w)] (uC M r σ) lf (fTellT σ k w) (uC M r σ) lf 0 0
  | 0, _ => c_X2_tellThing_0 G hr0 hS hk
  | 1, _ => c_X2_tellThing_1 G hr0 hS hk
  | 2, _ => c_X2_tellThing_2 G hr0 hS hk
  | 3, _ => c_X2_tellThing_3 G hr0 hS hk
  | 4, _ => c_X2_tellThing_4 G hr0 hS hk
  | 5, _ => c_X2_tellThing_5 G hr0 hS hk
  | 6, _ => c_X2_tellThing_6 G hr0 hS hk
  | w + 7, h => absurd h (by omega)
theorem c_X2_tellJuggler {X : Cx} {l : Launch} (G : Gx X l) {M : Mem} {lf : Lf} {r : Nat} (hr0 : r < 2) {σ : Sg} {jc tc : Nat} {ln : Nat → Nat} (hS : Shp σ jc tc ln) {j : Nat} (hj : j < jc) : ∀ w : Nat, w < 7 → CI X l yX2_tellJuggler (wsc yX2_tellJuggler cX2_tellJuggler 4 (some .int)) rm_X2_tellJuggler [.ref (X.2.1 r 0 0), .int (nI j), .int (nI w)] (uC M r σ) lf (fTellJ σ tc j w) (uC M r σ) lf 0 0
  | 0, _ => c_X2_tellJuggler_0 G hr0 hS hj
  | 1, _ => c_X2_tellJuggler_1 G hr0 hS hj
  | 2, _ => c_X2_tellJuggler_2 G hr0 hS hj
  | 3, _ => c_X2_tellJuggler_3 G hr0 hS hj
  | 4, _ => c_X2_tellJuggler_4 G hr0 hS hj
  | 5, _ => c_X2_tellJuggler_5 G hr0 hS hj
  | 6, _ => c_X2_tellJuggler_6 G hr0 hS hj
  | w + 7, h => absurd h (by omega)
theorem c_X2_tellCount {X : Cx} {l : Launch} (G : Gx X l) {M : Mem} {lf : Lf} {r : Nat} (hr0 : r < 2) {σ : Sg} {jc tc : Nat} {ln : Nat → Nat} (hS : Shp σ jc tc ln) : ∀ w : Nat, w < 9 → CI X l yX2_tellCount (wsc yX2_tellCount cX2_tellCount 2 (some .int)) rm_X2_tellCount [.ref (X.2.1 r 0 0), .int (nI w)] (uC M r σ) lf (fTellC σ tc w) (uC M r σ) lf 0 0
  | 0, _ => c_X2_tellCount_0 G hr0 hS
  | 1, _ => c_X2_tellCount_1 G hr0 hS
  | 2, _ => c_X2_tellCount_2 G hr0 hS
  | 3, _ => c_X2_tellCount_3 G hr0 hS
  | 4, _ => c_X2_tellCount_4 G hr0 hS
  | 5, _ => c_X2_tellCount_5 G hr0 hS
  | 6, _ => c_X2_tellCount_6 G hr0 hS
  | 7, _ => c_X2_tellCount_7 G hr0 hS
  | 8, _ => c_X2_tellCount_8 G hr0 hS
  | w + 9, h => absurd h (by omega)
set_option maxHeartbeats 4000000 in
set_option maxRecDepth 100000 in
theorem L1_X2_copyFrom (F : Fx p l s m args meth c cX2_copyFrom 3 RX2 X) (G : Gx X l) {r t : Nat} (hr0 : r < 2) (ht0 : t < 2) (htr : t ≠ r) {σ : Sg} {jc tc : Nat} {ln : Nat → Nat} (hS : Shp (M t) jc tc ln) (hσ : σ 0 0 2 = nI jc) (K : V p l e rm_X2_copyFrom s m args below meth c Q X 3 ex (uC M r (cpJL (M t) ln σ jc)) lf 0 0 55 [(2, .int (nI jc)), (0, .ref (X.2.1 r 0 0)), (1, .ref (X.2.1 t 0 0))] []) : ∀ (k q : Nat) (τ : Sg), k + q = jc → τ = cpJL (M t) ln σ q → V p l e rm_X2_copyFrom s m args below meth c Q X 3 ex (uC M r τ) lf 0 0 26 [(2, .int (nI q)), (0, .ref (X.2.1 r 0 0)), (1, .ref (X.2.1 t 0 0))] [] := by
  have h4 := hS.1
  intro k
  induction k with
  | zero =>
    intro q τ hq hτ
    obtain rfl : q = jc := by omega
    have hJ : τ 0 0 2 = nI q := by rw [hτ]; exact (cpJL_k (Or.inl rfl) q).trans hσ
    refine v_iload_n F dX2_copyFrom_26 rfl 0 rfl ?_
    refine v_aload_n F dX2_copyFrom_27 rfl 1 rfl ?_
    refine v_get F (id_R hr0 (by decide) (by decide)) (heR hr0) rfl uw_X2 2 (by decide) rfl rfl wf_X2_25 dX2_copyFrom_28 ?_
    refine v_topr (nI q) hJ ?_
    refine v_icmp_ge F (tgt := 55) dX2_copyFrom_31 (by decide) (fun c31 => ?_) (fun h => absurd (nI_le (Nat.le_refl _) (by omega)) h)
    subst hτ
    exact K
  | succ k ih =>
    intro q τ hq hτ
    have hJ : τ 0 0 2 = nI jc := by rw [hτ]; exact (cpJL_k (Or.inl rfl) q).trans hσ
    have hl := hS.2.2.2.2 q (by omega)
    refine v_iload_n F dX2_copyFrom_26 rfl 0 rfl ?_
    refine v_aload_n F dX2_copyFrom_27 rfl 1 rfl ?_
    refine v_get F (id_R hr0 (by decide) (by decide)) (heR hr0) rfl uw_X2 2 (by decide) rfl rfl wf_X2_25 dX2_copyFrom_28 ?_
    refine v_topr (nI jc) hJ ?_
    refine v_icmp_ge F (tgt := 55) dX2_copyFrom_31 (by decide) (fun h => absurd h (nI_ge (by omega) (by omega))) (fun c31 => ?_)
    refine v_aload_n F dX2_copyFrom_34 rfl 1 rfl ?_
    refine v_get F (id_R hr0 (by decide) (by decide)) (heR hr0) rfl uw_X2 0 (by decide) rfl rfl wf_X2_11 dX2_copyFrom_35 ?_
    refine v_iload_n F dX2_copyFrom_38 rfl 0 rfl ?_
    refine v_aaldJ F hr0 (q) (Ix_nI (by omega)) dX2_copyFrom_39 ?_
    refine v_aload_n F dX2_copyFrom_40 rfl 2 rfl ?_
    refine v_get F (id_R ht0 (by decide) (by decide)) ((heO htr).trans ((celD_R ht0))) rfl uw_X2 0 (by decide) rfl rfl wf_X2_11 dX2_copyFrom_41 ?_
    refine v_iload_n F dX2_copyFrom_44 rfl 0 rfl ?_
    refine v_aaldJ F ht0 (q) (Ix_nI (by omega)) dX2_copyFrom_45 ?_
    refine v_callNv F (As := [_]) (rest := []) rfl (c_X0_copyFrom G hr0 ht0 htr (show q < 4 by omega) hl.2.1 hl.2.2) (Rv_J hr0 (show _ < 4 by omega)) wm_X2_35 rfl ⟨rfl, rfl, Nat.le_of_ble_eq_true rfl, Nat.le_of_ble_eq_true rfl, Nat.le_of_ble_eq_true rfl, Nat.le_of_ble_eq_true rfl, Nat.le_of_ble_eq_true rfl⟩ dX2_copyFrom_46 ?_
    refine v_iinc F (k := 0) (nI (q + 1)) dX2_copyFrom_49 rfl (iinc_nI q) (by decide) (lv' := [(2, .int _), (0, .ref _), (1, .ref _)]) rfl ?_
    refine v_goto F (tgt := 26) dX2_copyFrom_52 (by decide) ?_
    refine ih (q + 1) _ (by omega) ?_
    show _ = fCopyJ (cpJL (M t) ln σ q) (M t) q (ln q)
    rw [hτ]
set_option maxHeartbeats 4000000 in
set_option maxRecDepth 100000 in
theorem L2_X2_copyFrom (F : Fx p l s m args meth c cX2_copyFrom 3 RX2 X) (G : Gx X l) {r t : Nat} (hr0 : r < 2) (ht0 : t < 2) (htr : t ≠ r) {σ : Sg} {tc : Nat} (h12 : tc ≤ 12) (hσ : σ 0 0 3 = nI tc) (K : V p l e rm_X2_copyFrom s m args below meth c Q X 3 ex (uC M r (cpTL (M t) σ tc)) lf 0 0 86 [(2, .int (nI tc)), (0, .ref (X.2.1 r 0 0)), (1, .ref (X.2.1 t 0 0))] []) : ∀ (k q : Nat) (τ : Sg), k + q = tc → τ = cpTL (M t) σ q → V p l e rm_X2_copyFrom s m args below meth c Q X 3 ex (uC M r τ) lf 0 0 57 [(2, .int (nI q)), (0, .ref (X.2.1 r 0 0)), (1, .ref (X.2.1 t 0 0))] [] := by
  intro k
  induction k with
  | zero =>
    intro q τ hq hτ
    obtain rfl : q = tc := by omega
    have hJ : τ 0 0 3 = nI q := by rw [hτ]; exact (cpTL_k (by decide) q).trans hσ
    refine v_iload_n F dX2_copyFrom_57 rfl 0 rfl ?_
    refine v_aload_n F dX2_copyFrom_58 rfl 1 rfl ?_
    refine v_get F (id_R hr0 (by decide) (by decide)) (heR hr0) rfl uw_X2 3 (by decide) rfl rfl wf_X2_29 dX2_copyFrom_59 ?_
    refine v_topr (nI q) hJ ?_
    refine v_icmp_ge F (tgt := 86) dX2_copyFrom_62 (by decide) (fun c62 => ?_) (fun h => absurd (nI_le (Nat.le_refl _) (by omega)) h)
    subst hτ
    exact K
  | succ k ih =>
    intro q τ hq hτ
    have hJ : τ 0 0 3 = nI tc := by rw [hτ]; exact (cpTL_k (by decide) q).trans hσ
    refine v_iload_n F dX2_copyFrom_57 rfl 0 rfl ?_
    refine v_aload_n F dX2_copyFrom_58 rfl 1 rfl ?_
    refine v_get F (id_R hr0 (by decide) (by decide)) (heR hr0) rfl uw_X2 3 (by decide) rfl rfl wf_X2_29 dX2_copyFrom_59 ?_
    refine v_topr (nI tc) hJ ?_
    refine v_icmp_ge F (tgt := 86) dX2_copyFrom_62 (by decide) (fun h => absurd h (nI_ge (by omega) (by omega))) (fun c62 => ?_)
    refine v_aload_n F dX2_copyFrom_65 rfl 1 rfl ?_
    refine v_get F (id_R hr0 (by decide) (by decide)) (heR hr0) rfl uw_X2 1 (by decide) rfl rfl wf_X2_20 dX2_copyFrom_66 ?_
    refine v_iload_n F dX2_copyFrom_69 rfl 0 rfl ?_
    refine v_aaldT F hr0 (q) (Ix_nI (by omega)) dX2_copyFrom_70 ?_
    refine v_aload_n F dX2_copyFrom_71 rfl 2 rfl ?_
    refine v_get F (id_R ht0 (by decide) (by decide)) ((heO htr).trans ((celD_R ht0))) rfl uw_X2 1 (by decide) rfl rfl wf_X2_20 dX2_copyFrom_72 ?_
    refine v_iload_n F dX2_copyFrom_75 rfl 0 rfl ?_
    refine v_aaldT F ht0 (q) (Ix_nI (by omega)) dX2_copyFrom_76 ?_
    refine v_callNv F (As := [_]) (rest := []) rfl (c_X3_copyFrom G hr0 ht0 htr (show q < 12 by omega)) (Rv_T hr0 (show _ < 12 by omega)) wm_X2_39 rfl ⟨rfl, rfl, Nat.le_of_ble_eq_true rfl, Nat.le_of_ble_eq_true rfl, Nat.le_of_ble_eq_true rfl, Nat.le_of_ble_eq_true rfl, Nat.le_of_ble_eq_true rfl⟩ dX2_copyFrom_77 ?_
    refine v_iinc F (k := 0) (nI (q + 1)) dX2_copyFrom_80 rfl (iinc_nI q) (by decide) (lv' := [(2, .int _), (0, .ref _), (1, .ref _)]) rfl ?_
    refine v_goto F (tgt := 57) dX2_copyFrom_83 (by decide) ?_
    refine ih (q + 1) _ (by omega) ?_
    show _ = fCopyT (cpTL (M t) σ q) (M t) q
    rw [hτ]
set_option maxHeartbeats 4000000 in
set_option maxRecDepth 100000 in
theorem c_X2_copyFrom {X : Cx} {l : Launch} (G : Gx X l) {M : Mem} {lf : Lf} {r t : Nat} (hr0 : r < 2) (ht0 : t < 2) (htr : t ≠ r) {σ : Sg} {jc tc : Nat} {ln : Nat → Nat} (hS : Shp (M t) jc tc ln) : CV X l yX2_copyFrom (wsc yX2_copyFrom cX2_copyFrom 3 none) rm_X2_copyFrom [.ref (X.2.1 r 0 0), .ref (X.2.1 t 0 0)] (uC M r σ) lf (uC M r (fCopyR σ (M t) jc tc ln)) lf 0 0 := by
  refine CV_of (lv := [(0, .ref _), (1, .ref _)]) G (by decide) (Nat.le_of_ble_eq_true rfl) rfl (fun p e s m args below meth c F hr => ?_)
  have F : Fx p l s m args meth c cX2_copyFrom 3 RX2 X := F
  refine v_aload_n F dX2_copyFrom_0 rfl 0 rfl ?_
  refine v_aload_n F dX2_copyFrom_1 rfl 1 rfl ?_
  refine v_get F (id_R ht0 (by decide) (by decide)) ((heO htr).trans ((celD_R ht0))) rfl uw_X2 2 (by decide) rfl rfl wf_X2_25 dX2_copyFrom_2 ?_
  refine v_putC F tyX2 tyX2_ok nmX2 (id_R hr0 (by decide) (by decide)) (celD_R hr0) rfl uw_X2 2 (by decide) rfl rfl (by decide +kernel) (celD_R hr0) (Nat.le_of_ble_eq_true rfl) wf_X2_25 dX2_copyFrom_5 ?_
  refine v_aload_n F dX2_copyFrom_8 rfl 0 rfl ?_
  refine v_aload_n F dX2_copyFrom_9 rfl 1 rfl ?_
  refine v_get F (id_R ht0 (by decide) (by decide)) ((heO htr).trans ((celD_R ht0))) rfl uw_X2 3 (by decide) rfl rfl wf_X2_29 dX2_copyFrom_10 ?_
  refine v_putC F tyX2 tyX2_ok nmX2 (id_R hr0 (by decide) (by decide)) (celD_R hr0) rfl uw_X2 3 (by decide) rfl rfl (by decide +kernel) (celD_R hr0) (Nat.le_of_ble_eq_true rfl) wf_X2_29 dX2_copyFrom_13 ?_
  refine v_aload_n F dX2_copyFrom_16 rfl 0 rfl ?_
  refine v_aload_n F dX2_copyFrom_17 rfl 1 rfl ?_
  refine v_get F (id_R ht0 (by decide) (by decide)) ((heO htr).trans ((celD_R ht0))) rfl uw_X2 4 (by decide) rfl rfl wf_X2_32 dX2_copyFrom_18 ?_
  refine v_putC F tyX2 tyX2_ok nmX2 (id_R hr0 (by decide) (by decide)) (celD_R hr0) rfl uw_X2 4 (by decide) rfl rfl (by decide +kernel) (celD_R hr0) (Nat.le_of_ble_eq_true rfl) wf_X2_32 dX2_copyFrom_21 ?_
  refine v_gen (fun τ0 h0 => ?_)
  refine v_iconst F (v := nI 0) dX2_copyFrom_24 (by decide) ?_
  refine v_istore_n F dX2_copyFrom_25 rfl (by decide) (lv' := [(2, .int _), (0, .ref _), (1, .ref _)]) rfl ?_
  refine L1_X2_copyFrom F G hr0 ht0 htr hS (by rw [h0, u3_ne (by decide), u3_ne (by decide), u3_at]; exact hS.2.2.1) ?_ jc 0 _ (Nat.add_zero jc) rfl
  · skip
    refine v_gen (fun τ1 h1 => ?_)
    refine v_iconst F (v := nI 0) dX2_copyFrom_55 (by decide) ?_
    refine v_istore_n F dX2_copyFrom_56 rfl (by decide) (lv' := [(2, .int _), (0, .ref _), (1, .ref _)]) rfl ?_
    refine L2_X2_copyFrom F G hr0 ht0 htr hS.2.1 (by rw [h1]; refine (cpJL_k (Or.inl rfl) jc).trans ?_; rw [h0, u3_ne (by decide), u3_at]; exact hS.2.2.2.1) ?_ tc 0 _ (Nat.add_zero tc) rfl
    · skip
      refine v_gen (fun τ2 h2 => ?_)
      refine v_vret F hr dX2_copyFrom_86 ?_ rfl
      rw [h2, h1, h0]
      rfl
end RS
end
section
/-! ===== what the class's public methods do ===== -/
theorem fCopyJ_3 {σ ρ : Sg} {i n a : Nat} : fCopyJ σ ρ i n 3 a 2 = if a = i then ρ 3 i 2 else σ 3 a 2 := by
  unfold fCopyJ fCopyP
  rw [u3_ne (by omega), u3_ne (by omega), u3_ne (by omega), u3_ne (by omega), u3_ne (by omega), cpPL_k (by omega) (by omega), u3_eq]
  by_cases h : a = i
  · rw [if_pos h, if_pos ⟨rfl, h, rfl⟩]
  · rw [if_neg h, if_neg (fun z => h z.2.1)]
theorem cpJL_3 {ρ σ : Sg} {ln : Nat → Nat} {i : Nat} : ∀ n, i < n → cpJL ρ ln σ n 3 i 2 = ρ 3 i 2
  | 0, h => absurd h (Nat.not_lt_zero i)
  | n + 1, h => by
    show fCopyJ (cpJL ρ ln σ n) ρ n (ln n) 3 i 2 = ρ 3 i 2
    rw [fCopyJ_3]
    by_cases hi : i = n
    · rw [if_pos hi, hi]
    · rw [if_neg hi]
      exact cpJL_3 n (by omega)
theorem fCopyR_0 {σ ρ : Sg} {jc tc c : Nat} {ln : Nat → Nat} (h : c = 2 ∨ c = 3 ∨ c = 4) : fCopyR σ ρ jc tc ln 0 0 c = ρ 0 0 c := by
  unfold fCopyR
  rw [cpTL_k (by decide), cpJL_k (Or.inl rfl), u3_eq, u3_eq, u3_eq]
  rcases h with rfl | rfl | rfl <;> rfl
theorem Shp_copy {σ ρ : Sg} {jc tc : Nat} {ln : Nat → Nat} (h : Shp ρ jc tc ln) : Shp (fCopyR σ ρ jc tc ln) jc tc ln := ⟨h.1, h.2.1, (fCopyR_0 (Or.inl rfl)).trans h.2.2.1, (fCopyR_0 (Or.inr (Or.inl rfl))).trans h.2.2.2.1, fun i hi => ⟨(h.2.2.2.2 i hi).1, (h.2.2.2.2 i hi).2.1, by
  unfold fCopyR
  rw [cpTL_k (by decide), cpJL_3 jc hi]
  exact (h.2.2.2.2 i hi).2.2⟩⟩
theorem copy_b {σ ρ : Sg} {jc tc b : Nat} {ln : Nat → Nat} (h : ρ 0 0 4 = nI b) : fCopyR σ ρ jc tc ln 0 0 4 = nI b := (fCopyR_0 (Or.inr (Or.inr rfl))).trans h
theorem Shp_u3 {σ : Sg} {jc tc k i j : Nat} {v : Int32} {ln : Nat → Nat} (h : Shp σ jc tc ln) (hk : k ≠ 0) (hk3 : k ≠ 3) : Shp (u3 σ k i j v) jc tc ln := Shp_of h (fun a b c z => u3_ne (by omega))
theorem hasJ_1 {σ : Sg} {jc j : Nat} (hJ : σ 0 0 2 = nI jc) (h : j < jc) (h4 : jc ≤ 4) : fHasJ σ (nI j) = 1 := by
  unfold fHasJ
  rw [hJ, if_pos ⟨nI_pos (by omega), nI_ge h (by omega)⟩]
theorem hasT_1 {σ : Sg} {tc k : Nat} (hT : σ 0 0 3 = nI tc) (h : k < tc) (h4 : tc ≤ 12) : fHasT σ (nI k) = 1 := by
  unfold fHasT
  rw [hT, if_pos ⟨nI_pos (by omega), nI_ge h (by omega)⟩]
def p10L (x : Int32) : Nat → Int32
  | 0 => x
  | n + 1 => p10L x n * 10
/-- the first of 1 to 200 whose number is above 0 -/
def flF (f : Nat → Int32) : Nat → Nat → Int32
  | 0, _ => -1
  | k + 1, q => if f q ≤ 0 then flF f k (q + 1) else nI q
def flN (f : Nat → Int32) : Nat → Nat → Nat
  | 0, q => q - 1
  | k + 1, q => if f q ≤ 0 then flN f k (q + 1) else q
def fFall1 (σ : Sg) (b jc tc : Nat) (ln : Nat → Nat) (q : Nat) : Int32 := fBeatR (plL b jc tc ln σ (q - 1)) (b + (q - 1)) tc
/-- a trial with one height: what falls, and the trial's ring behind it -/
def fWith (σ ρ : Sg) (b jc tc : Nat) (ln : Nat → Nat) (n j p h : Nat) : Sg := u3 (fCopyR ρ σ jc tc ln) 4 j p (nI h)
def adI (σ : Sg) (b jc tc : Nat) (ln : Nat → Nat) (n j p : Nat) : Nat → Nat → Int32 → Int32 → Sg → Int32 × Int32 × Sg
  | 0, _, fw, ad, ρ => (fw, ad, ρ)
  | k + 1, h, fw, ad, ρ => if fw ≤ 0 then (fw, ad, ρ) else if plR b jc tc ln (fWith σ ρ b jc tc ln n j p h) n < fw then adI σ b jc tc ln n j p k (h + 1) (plR b jc tc ln (fWith σ ρ b jc tc ln n j p h) n) (10 * nI p + nI h) (plL b jc tc ln (fWith σ ρ b jc tc ln n j p h) n) else adI σ b jc tc ln n j p k (h + 1) fw ad (plL b jc tc ln (fWith σ ρ b jc tc ln n j p h) n)
def adO (σ : Sg) (b jc tc : Nat) (ln : Nat → Nat) (n j : Nat) : Nat → Nat → Int32 → Int32 → Sg → Int32 × Sg
  | 0, _, _, ad, ρ => (ad, ρ)
  | k + 1, p, fw, ad, ρ => adO σ b jc tc ln n j k (p + 1) (adI σ b jc tc ln n j p 10 0 fw ad ρ).1 (adI σ b jc tc ln n j p 10 0 fw ad ρ).2.1 (adI σ b jc tc ln n j p 10 0 fw ad ρ).2.2
def dgL (f : Nat → Int32) (d : Int64) : Nat → Int64
  | 0 => d
  | n + 1 => dgL f d n * 31 + (f n).toInt64
def dgJ (σ : Sg) (tc : Nat) (ln : Nat → Nat) (d : Int64) : Nat → Int64
  | 0 => d
  | n + 1 => adL σ n (dgL (fTellJ σ tc n) (dgJ σ tc ln d n) 7) (ln n)
def dgT (σ : Sg) (d : Int64) : Nat → Int64
  | 0 => d
  | n + 1 => dgL (fTellT σ n) (dgT σ d n) 7
def fDigest (σ : Sg) (jc tc : Nat) (ln : Nat → Nat) : Int64 := dgT σ (dgJ σ tc ln (dgL (fTellC σ tc) 953 9) jc) tc
theorem exS_a : ∀ w, w ∈ vx_atS RX4 23 "java/lang/IllegalArgumentException" exN → w ∈ exL := fun _ h => List.mem_append_left _ h
theorem exS_s : ∀ w, w ∈ vx_atS RX4 34 "java/lang/IllegalStateException" exN → w ∈ exL := fun _ h => List.mem_append_right _ (List.mem_append_left _ h)
theorem exS_i : ∀ w, w ∈ vx_atS RX4 100 "java/lang/IndexOutOfBoundsException" exN → w ∈ exL := fun _ h => List.mem_append_right _ (List.mem_append_right _ h)
end
