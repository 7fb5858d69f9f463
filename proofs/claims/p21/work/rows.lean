section
-- ===== PART A: goes FIRST, ahead of the names: the tables' words, and 'selects' of the private methods out of them =====
/-- a private method of a class that the tables say can be made, by its rows of tables_1 -/
def lw_okq (q : MethodName × Nat) : Prop := (q.1.cls ≠ "java/lang/invoke/MethodHandle" ∧ q.1.cls ≠ "java/lang/invoke/VarHandle") ∧ Cond.instantiable q.1.cls q.2 ∈ tables_1 ∧ Cond.privateMethod q.1 ∈ tables_1 ∧ Cond.instanceMethod q.1 ∈ tables_1
theorem lw_p0 : lw_okq (⟨"java/lang/Throwable", "fillInStackTrace", "(I)Ljava/lang/Throwable;"⟩, 6) := ⟨⟨by decide +kernel, by decide +kernel⟩, List.mem_of_getElem? (i := 58) (by decide +kernel), List.mem_of_getElem? (i := 56) (by decide +kernel), List.mem_of_getElem? (i := 57) (by decide +kernel)⟩
theorem lw_p1 : lw_okq (⟨"HammerEggs$Ring", "addJuggler", "(I)I"⟩, 5) := ⟨⟨by decide +kernel, by decide +kernel⟩, List.mem_of_getElem? (i := 106) (by decide +kernel), List.mem_of_getElem? (i := 104) (by decide +kernel), List.mem_of_getElem? (i := 105) (by decide +kernel)⟩
theorem lw_p2 : lw_okq (⟨"HammerEggs$Pattern", "write", "(III)V"⟩, 3) := ⟨⟨by decide +kernel, by decide +kernel⟩, List.mem_of_getElem? (i := 111) (by decide +kernel), List.mem_of_getElem? (i := 109) (by decide +kernel), List.mem_of_getElem? (i := 110) (by decide +kernel)⟩
theorem lw_p3 : lw_okq (⟨"HammerEggs", "testJuggler", "(I)V"⟩, 2) := ⟨⟨by decide +kernel, by decide +kernel⟩, List.mem_of_getElem? (i := 120) (by decide +kernel), List.mem_of_getElem? (i := 118) (by decide +kernel), List.mem_of_getElem? (i := 119) (by decide +kernel)⟩
theorem lw_p4 : lw_okq (⟨"HammerEggs$Ring", "hasJuggler", "(I)Z"⟩, 5) := ⟨⟨by decide +kernel, by decide +kernel⟩, List.mem_of_getElem? (i := 106) (by decide +kernel), List.mem_of_getElem? (i := 123) (by decide +kernel), List.mem_of_getElem? (i := 124) (by decide +kernel)⟩
theorem lw_p5 : lw_okq (⟨"HammerEggs", "testPlace", "(II)V"⟩, 2) := ⟨⟨by decide +kernel, by decide +kernel⟩, List.mem_of_getElem? (i := 120) (by decide +kernel), List.mem_of_getElem? (i := 153) (by decide +kernel), List.mem_of_getElem? (i := 154) (by decide +kernel)⟩
theorem lw_p6 : lw_okq (⟨"HammerEggs$Ring", "addThing", "(I)I"⟩, 5) := ⟨⟨by decide +kernel, by decide +kernel⟩, List.mem_of_getElem? (i := 106) (by decide +kernel), List.mem_of_getElem? (i := 172) (by decide +kernel), List.mem_of_getElem? (i := 173) (by decide +kernel)⟩
theorem lw_p7 : lw_okq (⟨"HammerEggs", "testThing", "(I)V"⟩, 2) := ⟨⟨by decide +kernel, by decide +kernel⟩, List.mem_of_getElem? (i := 120) (by decide +kernel), List.mem_of_getElem? (i := 180) (by decide +kernel), List.mem_of_getElem? (i := 181) (by decide +kernel)⟩
theorem lw_p8 : lw_okq (⟨"HammerEggs$Ring", "hasThing", "(I)Z"⟩, 5) := ⟨⟨by decide +kernel, by decide +kernel⟩, List.mem_of_getElem? (i := 106) (by decide +kernel), List.mem_of_getElem? (i := 184) (by decide +kernel), List.mem_of_getElem? (i := 185) (by decide +kernel)⟩
theorem lw_p9 : lw_okq (⟨"HammerEggs$Ring", "tellThing", "(II)I"⟩, 5) := ⟨⟨by decide +kernel, by decide +kernel⟩, List.mem_of_getElem? (i := 106) (by decide +kernel), List.mem_of_getElem? (i := 189) (by decide +kernel), List.mem_of_getElem? (i := 190) (by decide +kernel)⟩
theorem lw_p10 : lw_okq (⟨"HammerEggs$Ring", "tellJuggler", "(II)I"⟩, 5) := ⟨⟨by decide +kernel, by decide +kernel⟩, List.mem_of_getElem? (i := 106) (by decide +kernel), List.mem_of_getElem? (i := 197) (by decide +kernel), List.mem_of_getElem? (i := 198) (by decide +kernel)⟩
theorem lw_p11 : lw_okq (⟨"HammerEggs$Ring", "thingsFlyingTo", "(I)I"⟩, 5) := ⟨⟨by decide +kernel, by decide +kernel⟩, List.mem_of_getElem? (i := 106) (by decide +kernel), List.mem_of_getElem? (i := 201) (by decide +kernel), List.mem_of_getElem? (i := 202) (by decide +kernel)⟩
theorem lw_p12 : lw_okq (⟨"HammerEggs$Ring", "play", "(I)I"⟩, 5) := ⟨⟨by decide +kernel, by decide +kernel⟩, List.mem_of_getElem? (i := 106) (by decide +kernel), List.mem_of_getElem? (i := 213) (by decide +kernel), List.mem_of_getElem? (i := 214) (by decide +kernel)⟩
theorem lw_p13 : lw_okq (⟨"HammerEggs$Ring", "playBeat", "()I"⟩, 5) := ⟨⟨by decide +kernel, by decide +kernel⟩, List.mem_of_getElem? (i := 106) (by decide +kernel), List.mem_of_getElem? (i := 217) (by decide +kernel), List.mem_of_getElem? (i := 218) (by decide +kernel)⟩
theorem lw_p14 : lw_okq (⟨"HammerEggs$Ring", "comeDown", "(I)I"⟩, 5) := ⟨⟨by decide +kernel, by decide +kernel⟩, List.mem_of_getElem? (i := 106) (by decide +kernel), List.mem_of_getElem? (i := 221) (by decide +kernel), List.mem_of_getElem? (i := 222) (by decide +kernel)⟩
theorem lw_p15 : lw_okq (⟨"HammerEggs$Thing", "comesDownIn", "(I)Z"⟩, 8) := ⟨⟨by decide +kernel, by decide +kernel⟩, List.mem_of_getElem? (i := 227) (by decide +kernel), List.mem_of_getElem? (i := 225) (by decide +kernel), List.mem_of_getElem? (i := 226) (by decide +kernel)⟩
def lw_privs_1 : List (MethodName × Nat) := [(⟨"java/lang/Throwable", "fillInStackTrace", "(I)Ljava/lang/Throwable;"⟩, 6), (⟨"HammerEggs$Ring", "addJuggler", "(I)I"⟩, 5), (⟨"HammerEggs$Pattern", "write", "(III)V"⟩, 3), (⟨"HammerEggs", "testJuggler", "(I)V"⟩, 2), (⟨"HammerEggs$Ring", "hasJuggler", "(I)Z"⟩, 5), (⟨"HammerEggs", "testPlace", "(II)V"⟩, 2), (⟨"HammerEggs$Ring", "addThing", "(I)I"⟩, 5), (⟨"HammerEggs", "testThing", "(I)V"⟩, 2), (⟨"HammerEggs$Ring", "hasThing", "(I)Z"⟩, 5), (⟨"HammerEggs$Ring", "tellThing", "(II)I"⟩, 5), (⟨"HammerEggs$Ring", "tellJuggler", "(II)I"⟩, 5), (⟨"HammerEggs$Ring", "thingsFlyingTo", "(I)I"⟩, 5), (⟨"HammerEggs$Ring", "play", "(I)I"⟩, 5), (⟨"HammerEggs$Ring", "playBeat", "()I"⟩, 5), (⟨"HammerEggs$Ring", "comeDown", "(I)I"⟩, 5), (⟨"HammerEggs$Thing", "comesDownIn", "(I)Z"⟩, 8)]
theorem lw_r1 : ∀ q ∈ lw_privs_1, lw_okq q := List.forall_mem_cons.mpr ⟨lw_p0, List.forall_mem_cons.mpr ⟨lw_p1, List.forall_mem_cons.mpr ⟨lw_p2, List.forall_mem_cons.mpr ⟨lw_p3, List.forall_mem_cons.mpr ⟨lw_p4, List.forall_mem_cons.mpr ⟨lw_p5, List.forall_mem_cons.mpr ⟨lw_p6, List.forall_mem_cons.mpr ⟨lw_p7, List.forall_mem_cons.mpr ⟨lw_p8, List.forall_mem_cons.mpr ⟨lw_p9, List.forall_mem_cons.mpr ⟨lw_p10, List.forall_mem_cons.mpr ⟨lw_p11, List.forall_mem_cons.mpr ⟨lw_p12, List.forall_mem_cons.mpr ⟨lw_p13, List.forall_mem_cons.mpr ⟨lw_p14, List.forall_mem_cons.mpr ⟨lw_p15, fun _ h => absurd h List.not_mem_nil⟩⟩⟩⟩⟩⟩⟩⟩⟩⟩⟩⟩⟩⟩⟩⟩
theorem lw_p16 : lw_okq (⟨"HammerEggs$Juggler", "canCatch", "(II)Z"⟩, 5) := ⟨⟨by decide +kernel, by decide +kernel⟩, List.mem_of_getElem? (i := 233) (by decide +kernel), List.mem_of_getElem? (i := 231) (by decide +kernel), List.mem_of_getElem? (i := 232) (by decide +kernel)⟩
theorem lw_p17 : lw_okq (⟨"HammerEggs$Ring", "putIntoHand", "(III)V"⟩, 5) := ⟨⟨by decide +kernel, by decide +kernel⟩, List.mem_of_getElem? (i := 106) (by decide +kernel), List.mem_of_getElem? (i := 236) (by decide +kernel), List.mem_of_getElem? (i := 237) (by decide +kernel)⟩
theorem lw_p18 : lw_okq (⟨"HammerEggs$Juggler", "miss", "(LHammerEggs$Thing;)V"⟩, 5) := ⟨⟨by decide +kernel, by decide +kernel⟩, List.mem_of_getElem? (i := 233) (by decide +kernel), List.mem_of_getElem? (i := 240) (by decide +kernel), List.mem_of_getElem? (i := 241) (by decide +kernel)⟩
theorem lw_p19 : lw_okq (⟨"HammerEggs$Thing", "fall", "()V"⟩, 8) := ⟨⟨by decide +kernel, by decide +kernel⟩, List.mem_of_getElem? (i := 227) (by decide +kernel), List.mem_of_getElem? (i := 244) (by decide +kernel), List.mem_of_getElem? (i := 245) (by decide +kernel)⟩
theorem lw_p20 : lw_okq (⟨"HammerEggs$Ring", "throwFrom", "(LHammerEggs$Juggler;I)V"⟩, 5) := ⟨⟨by decide +kernel, by decide +kernel⟩, List.mem_of_getElem? (i := 106) (by decide +kernel), List.mem_of_getElem? (i := 248) (by decide +kernel), List.mem_of_getElem? (i := 249) (by decide +kernel)⟩
theorem lw_p21 : lw_okq (⟨"HammerEggs$Pattern", "placeIn", "(I)I"⟩, 3) := ⟨⟨by decide +kernel, by decide +kernel⟩, List.mem_of_getElem? (i := 111) (by decide +kernel), List.mem_of_getElem? (i := 252) (by decide +kernel), List.mem_of_getElem? (i := 253) (by decide +kernel)⟩
theorem lw_p22 : lw_okq (⟨"HammerEggs$Thing", "fly", "(III)V"⟩, 8) := ⟨⟨by decide +kernel, by decide +kernel⟩, List.mem_of_getElem? (i := 227) (by decide +kernel), List.mem_of_getElem? (i := 260) (by decide +kernel), List.mem_of_getElem? (i := 261) (by decide +kernel)⟩
theorem lw_p23 : lw_okq (⟨"HammerEggs$Thing", "beatsInAir", "(I)I"⟩, 8) := ⟨⟨by decide +kernel, by decide +kernel⟩, List.mem_of_getElem? (i := 227) (by decide +kernel), List.mem_of_getElem? (i := 264) (by decide +kernel), List.mem_of_getElem? (i := 265) (by decide +kernel)⟩
theorem lw_p24 : lw_okq (⟨"HammerEggs$Ring", "tellCount", "(I)I"⟩, 5) := ⟨⟨by decide +kernel, by decide +kernel⟩, List.mem_of_getElem? (i := 106) (by decide +kernel), List.mem_of_getElem? (i := 272) (by decide +kernel), List.mem_of_getElem? (i := 273) (by decide +kernel)⟩
theorem lw_p25 : lw_okq (⟨"HammerEggs$Ring", "thingsIn", "(I)I"⟩, 5) := ⟨⟨by decide +kernel, by decide +kernel⟩, List.mem_of_getElem? (i := 106) (by decide +kernel), List.mem_of_getElem? (i := 276) (by decide +kernel), List.mem_of_getElem? (i := 277) (by decide +kernel)⟩
theorem lw_p26 : lw_okq (⟨"HammerEggs$Ring", "allFell", "()I"⟩, 5) := ⟨⟨by decide +kernel, by decide +kernel⟩, List.mem_of_getElem? (i := 106) (by decide +kernel), List.mem_of_getElem? (i := 280) (by decide +kernel), List.mem_of_getElem? (i := 281) (by decide +kernel)⟩
theorem lw_p27 : lw_okq (⟨"HammerEggs$Ring", "allThrown", "()I"⟩, 5) := ⟨⟨by decide +kernel, by decide +kernel⟩, List.mem_of_getElem? (i := 106) (by decide +kernel), List.mem_of_getElem? (i := 284) (by decide +kernel), List.mem_of_getElem? (i := 285) (by decide +kernel)⟩
theorem lw_p28 : lw_okq (⟨"HammerEggs$Ring", "copyFrom", "(LHammerEggs$Ring;)V"⟩, 5) := ⟨⟨by decide +kernel, by decide +kernel⟩, List.mem_of_getElem? (i := 106) (by decide +kernel), List.mem_of_getElem? (i := 292) (by decide +kernel), List.mem_of_getElem? (i := 293) (by decide +kernel)⟩
theorem lw_p29 : lw_okq (⟨"HammerEggs$Juggler", "copyFrom", "(LHammerEggs$Juggler;)V"⟩, 5) := ⟨⟨by decide +kernel, by decide +kernel⟩, List.mem_of_getElem? (i := 233) (by decide +kernel), List.mem_of_getElem? (i := 296) (by decide +kernel), List.mem_of_getElem? (i := 297) (by decide +kernel)⟩
theorem lw_p30 : lw_okq (⟨"HammerEggs$Pattern", "copyFrom", "(LHammerEggs$Pattern;)V"⟩, 3) := ⟨⟨by decide +kernel, by decide +kernel⟩, List.mem_of_getElem? (i := 111) (by decide +kernel), List.mem_of_getElem? (i := 300) (by decide +kernel), List.mem_of_getElem? (i := 301) (by decide +kernel)⟩
theorem lw_p31 : lw_okq (⟨"HammerEggs$Thing", "copyFrom", "(LHammerEggs$Thing;)V"⟩, 8) := ⟨⟨by decide +kernel, by decide +kernel⟩, List.mem_of_getElem? (i := 227) (by decide +kernel), List.mem_of_getElem? (i := 304) (by decide +kernel), List.mem_of_getElem? (i := 305) (by decide +kernel)⟩
def lw_privs_2 : List (MethodName × Nat) := [(⟨"HammerEggs$Juggler", "canCatch", "(II)Z"⟩, 5), (⟨"HammerEggs$Ring", "putIntoHand", "(III)V"⟩, 5), (⟨"HammerEggs$Juggler", "miss", "(LHammerEggs$Thing;)V"⟩, 5), (⟨"HammerEggs$Thing", "fall", "()V"⟩, 8), (⟨"HammerEggs$Ring", "throwFrom", "(LHammerEggs$Juggler;I)V"⟩, 5), (⟨"HammerEggs$Pattern", "placeIn", "(I)I"⟩, 3), (⟨"HammerEggs$Thing", "fly", "(III)V"⟩, 8), (⟨"HammerEggs$Thing", "beatsInAir", "(I)I"⟩, 8), (⟨"HammerEggs$Ring", "tellCount", "(I)I"⟩, 5), (⟨"HammerEggs$Ring", "thingsIn", "(I)I"⟩, 5), (⟨"HammerEggs$Ring", "allFell", "()I"⟩, 5), (⟨"HammerEggs$Ring", "allThrown", "()I"⟩, 5), (⟨"HammerEggs$Ring", "copyFrom", "(LHammerEggs$Ring;)V"⟩, 5), (⟨"HammerEggs$Juggler", "copyFrom", "(LHammerEggs$Juggler;)V"⟩, 5), (⟨"HammerEggs$Pattern", "copyFrom", "(LHammerEggs$Pattern;)V"⟩, 3), (⟨"HammerEggs$Thing", "copyFrom", "(LHammerEggs$Thing;)V"⟩, 8)]
theorem lw_r2 : ∀ q ∈ lw_privs_2, lw_okq q := List.forall_mem_cons.mpr ⟨lw_p16, List.forall_mem_cons.mpr ⟨lw_p17, List.forall_mem_cons.mpr ⟨lw_p18, List.forall_mem_cons.mpr ⟨lw_p19, List.forall_mem_cons.mpr ⟨lw_p20, List.forall_mem_cons.mpr ⟨lw_p21, List.forall_mem_cons.mpr ⟨lw_p22, List.forall_mem_cons.mpr ⟨lw_p23, List.forall_mem_cons.mpr ⟨lw_p24, List.forall_mem_cons.mpr ⟨lw_p25, List.forall_mem_cons.mpr ⟨lw_p26, List.forall_mem_cons.mpr ⟨lw_p27, List.forall_mem_cons.mpr ⟨lw_p28, List.forall_mem_cons.mpr ⟨lw_p29, List.forall_mem_cons.mpr ⟨lw_p30, List.forall_mem_cons.mpr ⟨lw_p31, fun _ h => absurd h List.not_mem_nil⟩⟩⟩⟩⟩⟩⟩⟩⟩⟩⟩⟩⟩⟩⟩⟩
theorem lw_p32 : lw_okq (⟨"HammerEggs$Ring", "allBruises", "()I"⟩, 5) := ⟨⟨by decide +kernel, by decide +kernel⟩, List.mem_of_getElem? (i := 106) (by decide +kernel), List.mem_of_getElem? (i := 314) (by decide +kernel), List.mem_of_getElem? (i := 315) (by decide +kernel)⟩
theorem lw_p33 : lw_okq (⟨"HammerEggs", "fallenWith", "(IIII)I"⟩, 2) := ⟨⟨by decide +kernel, by decide +kernel⟩, List.mem_of_getElem? (i := 120) (by decide +kernel), List.mem_of_getElem? (i := 322) (by decide +kernel), List.mem_of_getElem? (i := 323) (by decide +kernel)⟩
theorem lw_p34 : lw_okq (⟨"HammerEggs$Pattern", "addTo", "(J)J"⟩, 3) := ⟨⟨by decide +kernel, by decide +kernel⟩, List.mem_of_getElem? (i := 111) (by decide +kernel), List.mem_of_getElem? (i := 337) (by decide +kernel), List.mem_of_getElem? (i := 338) (by decide +kernel)⟩
theorem lw_p35 : lw_okq (⟨"HammerEggs$Juggler", "thingsHeld", "()I"⟩, 5) := ⟨⟨by decide +kernel, by decide +kernel⟩, List.mem_of_getElem? (i := 233) (by decide +kernel), List.mem_of_getElem? (i := 498) (by decide +kernel), List.mem_of_getElem? (i := 499) (by decide +kernel)⟩
def lw_privs_3 : List (MethodName × Nat) := [(⟨"HammerEggs$Ring", "allBruises", "()I"⟩, 5), (⟨"HammerEggs", "fallenWith", "(IIII)I"⟩, 2), (⟨"HammerEggs$Pattern", "addTo", "(J)J"⟩, 3), (⟨"HammerEggs$Juggler", "thingsHeld", "()I"⟩, 5)]
theorem lw_r3 : ∀ q ∈ lw_privs_3, lw_okq q := List.forall_mem_cons.mpr ⟨lw_p32, List.forall_mem_cons.mpr ⟨lw_p33, List.forall_mem_cons.mpr ⟨lw_p34, List.forall_mem_cons.mpr ⟨lw_p35, fun _ h => absurd h List.not_mem_nil⟩⟩⟩⟩
def lw_privs : List (MethodName × Nat) := lw_privs_1 ++ (lw_privs_2 ++ (lw_privs_3))
def lw_tbl : List Cond := k2_sels lw_privs ++ tables_1
theorem lw_privs_ok : ∀ q ∈ lw_privs, lw_okq q := by
  show ∀ q ∈ lw_privs_1 ++ (lw_privs_2 ++ (lw_privs_3)), lw_okq q
  exact List.forall_mem_append.mpr ⟨lw_r1, List.forall_mem_append.mpr ⟨lw_r2, lw_r3⟩⟩
/-- the streams that the claim lets the run draw from -/
abbrev lw_cs : List Choice := [Jvm.Choice.named "NaN.bits"]
theorem lw_bits : nanBits ∈ lw_cs := by first | decide | exact List.mem_cons_self | simp [lw_cs, nanBits]
-- ===== end of PART A; then your names; then what follows =====
end
section
/-! ===== an array class over an array type: the word that the printed rows speak of ===== -/
def va_AOA (t : FieldType) (U : State) : Prop := (Cond.arrayOver (.array t)).before #[] U = true
theorem va_AOA.of {t : FieldType} {A : Array Value} {U : State} (h : (Cond.arrayOver (.array t)).before A U = true) : va_AOA t U := h
theorem va_AOA.use {t : FieldType} {A : Array Value} {U : State} (h : va_AOA t U) : (Cond.arrayOver (.array t)).before A U = true := h
end
section
/-! ===== BEGIN words of one list among another's, by their places ===== -/
theorem goodIn_r {big : List Cond} (ws : List Cond) (ps : List Nat) (hp : ws = ps.filterMap (fun i => big[i]?)) (h : ws.all goodWord = true) : GoodIn big ws := by
  intro w hw
  have h1 := List.all_eq_true.mp h w hw
  rw [hp] at hw
  obtain ⟨i, -, hi⟩ := List.mem_filterMap.mp hw
  have hm : w ∈ big := by first | exact List.mem_of_getElem? hi | exact List.getElem?_mem hi
  exact ⟨hm, good_of_word h1⟩
theorem goodIn_app {big a b : List Cond} (ha : GoodIn big a) (hb : GoodIn big b) : GoodIn big (a ++ b) := fun w h => (List.mem_append.mp h).elim (ha w) (hb w)
theorem goodIn_ca {big a b : List Cond} {c : Cond} (ha : GoodIn big (c :: a)) (hb : GoodIn big b) : GoodIn big (c :: (a ++ b)) := fun w h => (List.mem_cons.mp h).elim (fun e => ha w (List.mem_cons.mpr (Or.inl e))) (fun h => (List.mem_append.mp h).elim (fun h => ha w (List.mem_cons.mpr (Or.inr h))) (hb w))
theorem goodIn_sub {big ws : List Cond} (hm : ∀ w ∈ ws, w ∈ big) (h : ws.all goodWord = true) : GoodIn big ws := fun w hw => ⟨hm w hw, good_of_word (List.all_eq_true.mp h w hw)⟩
/-! ===== END ===== -/

/-! ===== BEGIN new T[n][m]: the outer array a place, the inner ones among the pooled ===== -/
/-- f, but v at every address of l -/
def vr_up {α : Type} (f : Nat → α) (l : List Nat) (v : α) : Nat → α := fun a => if a ∈ l then v else f a
theorem vr_up_in {α : Type} {f : Nat → α} {l : List Nat} {v : α} {a : Nat} (h : a ∈ l) : vr_up f l v a = v := if_pos h
theorem vr_up_ne {α : Type} {f : Nat → α} {l : List Nat} {v : α} {a : Nat} (h : a ∉ l) : vr_up f l v a = f a := if_neg h
theorem vr_rows {L l : List Nat} {f : Nat → va_E} {e : va_E} (h : ∀ a, a ∈ l → a ∉ L) : va_pl L f ++ l.map (fun a => (a, e)) = va_pl (L ++ l) (vr_up f l e) := by
  unfold va_pl
  rw [List.map_append]
  congr 1
  · apply List.map_congr_left
    intro a ha
    rw [vr_up_ne (fun q => h a q ha)]
  · apply List.map_congr_left
    intro a ha
    rw [vr_up_in ha]
theorem vr_lay {X rows : va_W} {x : Nat × va_E} {pl : va_W} {D : va_G} {cl : List vw_C} {H : Heap} (hP : va_P D cl (((X ++ pl) ++ [x]) ++ rows) H) : va_P D cl ((X ++ [x]) ++ (pl ++ rows)) H := by
  rw [List.append_assoc (X ++ pl)] at hP
  have h := va_P.swap hP
  rw [← List.append_assoc X] at h
  have h2 := va_P.swap h
  rw [List.append_assoc (X ++ [x])] at h2
  exact h2
theorem vr_layD {X rows : va_W} {x : Nat × va_E} {pl : va_W} {A : Nat → Prop} (hD : va_D A (((X ++ pl) ++ [x]) ++ rows)) : va_D A ((X ++ [x]) ++ (pl ++ rows)) := by
  rw [List.append_assoc (X ++ pl)] at hD
  have h := va_D.swap hD
  rw [← List.append_assoc X] at h
  have h2 := va_D.swap h
  rw [List.append_assoc (X ++ [x])] at h2
  exact h2
theorem vr_outer (c : ClassId) (N h0 : Nat) : ∀ i : Nat, Jvm.Free.Multi.outerC c N h0 i = arrV c N (fun j => va_rf (if j < i then some (h0 + 1 + j) else none))
  | 0 => by
    show ({ cls := c, slots := Array.replicate N .null, vm := .none } : Cell) = _
    rw [arrV_new]
    refine congrArg (arrV c N) (funext fun j => ?_)
    simp [va_rf]
  | i + 1 => by
    show (Jvm.Free.Multi.outerC c N h0 i).setSlot i (.ref (h0 + 1 + i)) = _
    rw [vr_outer c N h0 i, arrV_store]
    refine congrArg (arrV c N) (funext fun j => ?_)
    by_cases e : j = i
    · subst e
      simp [updV, va_rf]
    · by_cases h : j < i
      · simp [updV, e, h, Nat.lt_succ_of_lt h]
      · simp [updV, e, h, show ¬ j < i + 1 by omega]
section VGM
variable {p : Program} {l : Launch} {e : Env} {R : Room} {s : State} {m : MethodId} {args : Array Value} {below : List Frame} {meth : Method} {c : Code} {H : Heap} {locs : List Loc} {cells slots : Nat} {Q : State → Prop}
variable {cc : ByteArray} {pc : Nat} {ls : Array Slot} {rest : List Value} {D : va_G} {cl : List vw_C} {A : Nat → Prop} {a : Nat} {tys : List (ClassId × FieldType)} {ws : va_W} {H0 : Heap}
theorem va_mna {X : va_W} {L : List Nat} {f : Nat → va_E} {cc : ByteArray} (hexec : p.tables.exec = Jvm.exec) (hb : c.code = cc) {own : String} {index : Nat} {ty : FieldType} {cy : ClassId} (hown : s.vm.findClass own = some m.cls) (hclink : (Cond.classLink own index ("[" ++ (FieldType.array ty).toString)).before args s = true) (hover : va_AOA ty s) (harr : (Cond.arrayClass ty).before args s = true) (hcy : s.vm.findClass (FieldType.array ty).toString = some cy)
    (hK : va_K D cl tys s) (hP : va_P D cl (X ++ va_pl L f) H) (hD : va_D A (X ++ va_pl L f)) (hS : va_S A H0 H locs) (hA : ∀ q, H0.size ≤ q → A q) {n k : Int32} {N' K' : Nat} {z : vp_A} (hn : ¬ n < 0) (hk : ¬ k < 0) (hN : n.toNatClampNeg = N') (hM : k.toNatClampNeg = K')
    (hb1 : N' * 4 ≤ 536870912) (hb2 : K' * componentBytes ty ≤ 536870912) (hb3 : K' ≤ 536870912) (hdf : fits ty (defaultValue ty) = true) (hdd : (defaultValue ty).isDefault = true) (hcells : cells + (1 + N') ≤ R.cells) (hslots : slots + (N' + N' * K') ≤ R.slots) (hz : ∀ c : ClassId, Jvm.Free.Multi.innerC c K' (defaultValue ty) = vp_cell c z) (hdg : decode cc pc = .ok (.multianewarray index 2, 4))
    (kk : ∀ (q : Nat) (r : Nat → Nat) (cA : ClassId) (H1 : Heap), (∀ i j : Nat, i < N' → j < N' → r i = r j → i = j) → (∀ i : Nat, i < N' → r i ∉ L) → va_K D cl (tys ++ [(cA, .array ty)]) s →
      va_P D cl ((X ++ [(q, .inl (cA, N', .inr (.inr (.inr (.inr (fun i => if i < N' then some (r i) else none))))))]) ++ va_pl (L ++ (List.range N').map r) (vr_up f ((List.range N').map r) (.inl (cy, z)))) H1 → va_D A ((X ++ [(q, .inl (cA, N', .inr (.inr (.inr (.inr (fun i => if i < N' then some (r i) else none))))))]) ++ va_pl (L ++ (List.range N').map r) (vr_up f ((List.range N').map r) (.inl (cy, z)))) → va_S A H0 H1 locs →
      W p l e R s m args below meth c H1 locs (cells + 1 + N') (slots + N' + N' * K') Q (F0 m (pc + 4) ls (.ref q :: rest))) : W p l e R s m args below meth c H locs cells slots Q (F0 m pc ls (.int k :: .int n :: rest)) := by
  subst hN
  subst hM
  intro T hT Xs
  obtain ⟨vm₁, cA, comp, -, fA, fC, hO, -, X', step⟩ := Xs.multianewarray2F hexec hown hclink (va_AOA.use hover) harr (g := F0 m pc ls (.int k :: .int n :: rest)) rfl (by rw [hb]; exact hdg) rfl hn hk hb1 hb2 hb3 hdf hdd hcells hslots
  have ec : some cy = some comp := hcy.symm.trans fC
  cases ec
  generalize hF : Jvm.Free.Multi.fill (T.setVm vm₁) cA cy n.toNatClampNeg k.toNatClampNeg (defaultValue ty) n.toNatClampNeg = F at X' step
  have hTh : (T.setVm vm₁).heap = H := hT
  obtain ⟨f1, f2, -, -⟩ := Jvm.Free.Multi.fill_facts (T.setVm vm₁) cA cy n.toNatClampNeg k.toNatClampNeg (defaultValue ty) n.toNatClampNeg
  rw [hF, hTh] at f1 f2
  have hold : ∀ x : Nat, x < H.size → F.heap[x]? = H[x]? := fun x hx => by
    have := Jvm.Free.Multi.fill_old (T.setVm vm₁) cA cy n.toNatClampNeg k.toNatClampNeg (defaultValue ty) (a := x) (by rw [hTh]; exact hx) n.toNatClampNeg
    rw [hF, hTh] at this
    exact this
  have hrow : ∀ j : Nat, j < n.toNatClampNeg → F.heap[H.size + 1 + j]? = some (vp_cell cy z) := fun j hj => by
    have := Jvm.Free.Multi.fill_inner (T.setVm vm₁) cA cy n.toNatClampNeg k.toNatClampNeg (defaultValue ty) n.toNatClampNeg j hj
    rw [hF, hTh, hz] at this
    exact this
  have hout : Jvm.Free.Multi.outerC cA n.toNatClampNeg H.size n.toNatClampNeg = vp_cell cA (n.toNatClampNeg, .inr (.inr (.inr (.inr (fun i => if i < n.toNatClampNeg then some (H.size + 1 + i) else none))))) := by
    rw [vp_cell_q]
    exact vr_outer cA n.toNatClampNeg H.size n.toNatClampNeg
  rw [hout] at f2
  have hlt : ∀ a, a ∈ L → a < H.size := fun a ha => by
    obtain ⟨k9, hk9⟩ := va_pl_get (X := X) (f := f) ha
    exact (hP k9 _ hk9).lt
  have hnl : ∀ i : Nat, i < n.toNatClampNeg → H.size + 1 + i ∉ L := fun i _ h => by
    have := hlt _ h
    omega
  have hnm : ∀ a, a ∈ (List.range n.toNatClampNeg).map (fun i => H.size + 1 + i) → a ∉ L := fun a ha h => by
    obtain ⟨i, -, rfl⟩ := List.mem_map.mp ha
    have := hlt _ h
    omega
  have hP0 : va_P D cl (X ++ va_pl L f) F.heap := hP.kept (fun k9 x hx => hold x.1 ((hP k9 x hx).lt))
  have hP1 : va_P D cl ((X ++ va_pl L f) ++ [(H.size, .inl (cA, n.toNatClampNeg, .inr (.inr (.inr (.inr (fun i => if i < n.toNatClampNeg then some (H.size + 1 + i) else none))))))]) F.heap := hP0.app (fun k9 x hx => by
    have h0 : k9 < 1 := (List.getElem?_eq_some_iff.mp hx).1
    rw [show k9 = 0 by omega] at hx
    cases hx
    exact f2)
  have hP2 : va_P D cl (((X ++ va_pl L f) ++ [(H.size, .inl (cA, n.toNatClampNeg, .inr (.inr (.inr (.inr (fun i => if i < n.toNatClampNeg then some (H.size + 1 + i) else none))))))]) ++ ((List.range n.toNatClampNeg).map (fun i => H.size + 1 + i)).map (fun a => (a, .inl (cy, z)))) F.heap := hP1.app (fun k9 x hx => by
    obtain ⟨a, ha, rfl⟩ := List.mem_map.mp (List.mem_of_getElem? hx)
    obtain ⟨i, hi, rfl⟩ := List.mem_map.mp ha
    exact hrow i (List.mem_range.mp hi))
  have hD2 : va_D A (((X ++ va_pl L f) ++ [(H.size, .inl (cA, n.toNatClampNeg, .inr (.inr (.inr (.inr (fun i => if i < n.toNatClampNeg then some (H.size + 1 + i) else none))))))]) ++ ((List.range n.toNatClampNeg).map (fun i => H.size + 1 + i)).map (fun a => (a, .inl (cy, z)))) := by
    have hD1 := hD.push (e := .inl (cA, n.toNatClampNeg, .inr (.inr (.inr (.inr (fun i => if i < n.toNatClampNeg then some (H.size + 1 + i) else none)))))) hP rfl (hA _ hS.1)
    generalize hW1 : (X ++ va_pl L f) ++ [(H.size, .inl (cA, n.toNatClampNeg, .inr (.inr (.inr (.inr (fun i => if i < n.toNatClampNeg then some (H.size + 1 + i) else none))))))] = W1 at hD1 hP1 ⊢
    have hle : ∀ (k9 : Nat) (x : Nat × va_E), W1[k9]? = some x → x.1 ≤ H.size := fun k9 x hx => by
      rw [← hW1] at hx
      by_cases hl : k9 < (X ++ va_pl L f).length
      · rw [List.getElem?_append_left hl] at hx
        exact Nat.le_of_lt ((hP k9 x hx).lt)
      · rw [List.getElem?_append_right (by omega)] at hx
        have h0 : k9 - (X ++ va_pl L f).length < 1 := (List.getElem?_eq_some_iff.mp hx).1
        rw [show k9 - (X ++ va_pl L f).length = 0 by omega] at hx
        cases hx
        exact Nat.le_refl _
    have hr : ∀ (k9 : Nat) (x : Nat × va_E), (((List.range n.toNatClampNeg).map (fun i => H.size + 1 + i)).map (fun a => ((a, .inl (cy, z)) : Nat × va_E)))[k9]? = some x → x.1 = H.size + 1 + k9 := fun k9 x hx => by
      rw [List.getElem?_map, List.getElem?_map] at hx
      by_cases h9 : k9 < n.toNatClampNeg
      · rw [List.getElem?_range h9] at hx
        cases hx
        rfl
      · have hn0 : (List.range n.toNatClampNeg)[k9]? = none := List.getElem?_eq_none (by rw [List.length_range]; omega)
        rw [hn0] at hx
        cases hx
    refine ⟨fun i j x y hi hj hxy => ?_, fun k9 x hx => ?_⟩
    · by_cases h1 : i < W1.length <;> by_cases h2 : j < W1.length
      · rw [List.getElem?_append_left h1] at hi
        rw [List.getElem?_append_left h2] at hj
        exact hD1.1 i j x y hi hj hxy
      · rw [List.getElem?_append_left h1] at hi
        rw [List.getElem?_append_right (by omega)] at hj
        have := hle _ _ hi
        have := hr _ _ hj
        omega
      · rw [List.getElem?_append_right (by omega)] at hi
        rw [List.getElem?_append_left h2] at hj
        have := hle _ _ hj
        have := hr _ _ hi
        omega
      · rw [List.getElem?_append_right (by omega)] at hi hj
        have := hr _ _ hi
        have := hr _ _ hj
        omega
    · by_cases h1 : k9 < W1.length
      · rw [List.getElem?_append_left h1] at hx
        exact hD1.2 k9 x hx
      · rw [List.getElem?_append_right (by omega)] at hx
        have := hr _ _ hx
        exact hA _ (by have := hS.1; omega)
  have hAr : ArrOfT s cA (.array ty) := fun N9 z9 => by
    obtain ⟨-, k9, hk9, cm9, hkk9⟩ := (hO 0 0 0).1
    exact ⟨(fun q hq => by cases hq), k9, hk9, cm9, hkk9⟩
  have hK2 : va_K D cl (tys ++ [(cA, .array ty)]) s := ⟨hK.1, fun k9 x hx => by
    by_cases hl : k9 < tys.length
    · rw [List.getElem?_append_left hl] at hx
      exact hK.2 k9 x hx
    · rw [List.getElem?_append_right (by omega)] at hx
      have h0 : k9 - tys.length < 1 := (List.getElem?_eq_some_iff.mp hx).1
      rw [show k9 - tys.length = 0 by omega] at hx
      cases hx
      exact ⟨hAr, fA⟩⟩
  obtain ⟨t, a1, b1⟩ := kk H.size (fun i => H.size + 1 + i) cA F.heap (fun i j _ _ h => by have h9 : H.size + 1 + i = H.size + 1 + j := h; omega) hnl hK2 (by rw [← vr_rows hnm]; exact vr_lay hP2) (by rw [← vr_rows hnm]; exact vr_layD hD2) ⟨by rw [f1]; have := hS.1; omega, fun x h1 h2 => (hold x (Nat.lt_of_lt_of_le h1 hS.1)).trans (hS.2.1 x h1 h2), hS.2.2⟩ F rfl X'
  refine ⟨t, step t ?_, b1⟩
  have e : T.heap.size = H.size := by rw [hT]
  rw [e]
  exact a1
end VGM
/-! ===== END ===== -/

/-! ===== BEGIN exceptions that leave a method, and their catching by the caller (launches without stack traces) ===== -/
section VXA
/-! The laws vx_back, vx_callV, vx_callS, vx_callSW, vx_throw0, vx_throwS follow proofs of the library, with one case more: JvmDerived/Free/Laws.lean (Back.of_free), Shelf42/LK1.lean (callV, callS), Shelf/KitTraced.lean (throwNew0V, throwNewS). -/
/-- where a method has thrown q: the class by its name, the cell, what was written, the world -/
def vx_T (XC : String → State → State → Prop) (st : State) (q : Addr) (t : State) (mc ms : Nat) (free : Addr → Prop) : Prop :=
  ∃ (E : String) (ce : Cell) (L : List Loc), XC E st t ∧ t.heap[q]? = some ce ∧ ce.vm = .none ∧ st.vm.findClass E = some ce.cls ∧ st.WarmedH t.vm ∧ st.sameButNew ({ t with vm := st.vm } : State) L mc ms ∧ ∀ z ∈ L, free z.base
def vx_Q (Qc : Array Value → State → Outcome → State → Prop) (XC : String → State → State → Prop) (mc ms : Nat) (free : Addr → Prop) : Array Value → State → Outcome → State → Prop := fun a st o t =>
  (Qc a st o t ∧ ∃ L, FrameEnd st o t L mc ms ∧ ∀ q ∈ L, free q.base) ∨ ∃ q, o = .threw q ∧ vx_T XC st q t mc ms free
/-- a callee that returns or throws -/
def vx_Met (l : Launch) (y : MethodName) (ws : List Cond) (rm : Room) (Pc : Array Value → State → Prop) (Qc : Array Value → State → Outcome → State → Prop) (XC : String → State → State → Prop) (mc ms : Nat) (free : Addr → Prop) : Prop :=
  MetFree l y (headSpec ws rm) Pc (fun _ _ _ _ _ => True) (vx_Q Qc XC mc ms free)
def vx_Post (XC : String → State → State → Prop) (mc ms : Nat) (free : Addr → Prop) : Pt → Array Value → Addr → Pt → Prop := fun A a q B =>
  ∃ (g : JFrame) (mk : MethodId) (t : State) (L : List Loc) (E : String) (ce : Cell), B.U.heap = t.heap ∧ B.U.vm = t.vm ∧ XC E (A.U.calling g mk a) t ∧ t.heap[q]? = some ce ∧ ce.vm = .none ∧ A.U.vm.findClass E = some ce.cls ∧ B.locs = A.locs ++ L ∧ (∀ z ∈ L, free z.base) ∧ B.cells = A.cells + mc ∧ B.slots = A.slots + ms
def vx_Back (l : Launch) (R : Room) (p : Program) (e : Env) (below : List Frame) (s : State) (sargs : Array Value) (y : MethodName) (len W9 : Nat)
    (Pre : Pt → Array Value → Prop) (Post : Pt → Array Value → Option Value → Pt → Prop) (PostX : Pt → Array Value → Addr → Pt → Prop) : Prop :=
  ∀ (m : MethodId) (meth : Method) (c : Code) (A : Pt) (g : JFrame) (ig : Instr) (mk : MethodId) (a : Array Value),
    Stand p l e R s m sargs below meth c A.U A.locs A.cells A.slots → g.method = m → g.locals.size = c.maxLocals → decode c.code g.pc = .ok (ig, len) →
    2 * g.monitorRoom + (g.stack.map fun v => v.category).sum ≤ W9 → A.U.methodNamed? y = some mk → Pre A a →
    (∃ (v : Option Value) (B : Pt), Stand p l e R s m sargs below meth c B.U B.locs B.cells B.slots ∧ Post A a v B ∧
      Steps p.tables e below (doInvoke e (A.U.setTop g) [] mk a).1 (B.U.setTop { g with pc := g.pc + len, stack := v.toList ++ g.stack })) ∨
    (∃ (q : Addr) (B : Pt), Stand p l e R s m sargs below meth c B.U B.locs B.cells B.slots ∧ PostX A a q B ∧
      Steps p.tables e below (doInvoke e (A.U.setTop g) [] mk a).1 ((B.U.setTop g).pushFrame (.throwing q)))
section Payer
variable {l : Launch} {R : Room} {p : Program} {e : Env} {below : List Frame} {s : State} {sargs : Array Value} {y : MethodName} {len W9 : Nat}
theorem vx_back {ws : List Cond} {rm : Room} {Pc : Array Value → State → Prop} {Qc : Array Value → State → Outcome → State → Prop} {XC : String → State → State → Prop} {mc ms : Nat} {free : Addr → Prop} {bytes : ByteArray} {maxL : Nat} {ret : Option FieldType}
    (hM : vx_Met l y ws rm Pc Qc XC mc ms free) (hblind : FrameBlind Pc) (hrc : rm.cells = mc) (hrs : rm.slots = ms)
    (hframes : rm.frames + 1 ≤ R.frames) (hlocals : W9 + (maxL + 11) + rm.locals ≤ R.locals)
    (hws : ∀ w ∈ ws, ∀ a' U, s.WarmedH U.vm → w.before a' U = true) (hcode : Cond.code y bytes maxL ret ∈ ws) (hinit : ∀ a' U, s.WarmedH U.vm → (Cond.initialized y.cls).before a' U = true) :
    vx_Back l R p e below s sargs y len W9 (PreOf R mc ms Pc) (PostOf Qc mc ms free) (vx_Post XC mc ms free) := by
  intro m meth c A g ig mk a X hg hsize hdg hW hn hp
  have h1 : (headSpec ws rm).pre.before a A.U = true := atoms_intro fun w hw => hws w hw _ _ X.warmed
  have h2 : (Cond.code y bytes maxL ret).before a A.U = true := hws _ hcode _ _ X.warmed
  have h3 : (Cond.initialized y.cls).before a A.U = true := hinit _ _ X.warmed
  have h4 : A.cells + (headSpec ws rm).room.cells ≤ R.cells := by rw [show (headSpec ws rm).room.cells = mc from hrc]; exact hp.1
  have h5 : A.slots + (headSpec ws rm).room.slots ≤ R.slots := by rw [show (headSpec ws rm).room.slots = ms from hrs]; exact hp.2.1
  have hPc : Pc a (A.U.calling g mk a) := hblind _ _ _ _ hp.2.2
  obtain ⟨U, Ls, c0, s0⟩ := A
  dsimp only [Pt.U, Pt.locs, Pt.cells, Pt.slots] at h1 h2 h3 h4 h5 X hn hPc ⊢
  obtain ⟨methY, cY, hmY, hcY, -, hlY, -, -, -, -⟩ := Cond.code_spec hn h2
  obtain ⟨kY, hkY, -⟩ := className_of_methodNamed hn
  have hinitY : kY.init = .initialized := Cond.initialized_spec (findClass_of_methodNamed hn) hkY h3
  have h : At U g.method c below := by rw [hg]; exact X.here
  have hlocals9 : W9 + (maxL + 11) + (headSpec ws rm).room.locals ≤ R.locals := hlocals
  have happ : (headSpec ws rm).appliesLoose y e.platform (U.calling g mk a) = true :=
    Spec.appliesLoose_calling (g := g) h hdg hn hkY hinitY
      (X.room_calling (g := g) (R' := (headSpec ws rm).room) hsize hmY hcY hframes (by rw [hlY]; omega) h4 h5) h1
  obtain ⟨mid, hmid⟩ := h.above
  have hfr : (U.setTop g).frames = (.java g :: mid) ++ below := by rw [State.frames_setTop' g h.top, hmid]; rfl
  obtain ⟨o, s₂, hsteps, -, hend, hq⟩ := Steps.callFree hM p X.admits X.cas X.clock (acts := []) hfr happ hPc trivial
  have hq' : vx_Q Qc XC mc ms free a (U.calling g mk a) o s₂ := hq
  rw [State.frames_setTop' g h.top] at hend
  obtain ⟨g₀, hg0⟩ := Option.isSome_iff_exists.mp h.top
  obtain ⟨r, hr⟩ := State.topJava?_eq_some.mp hg0
  have hr' : (({ U with heap := s₂.heap, slotsUsed := s₂.slotsUsed } : State).setVm s₂.vm).frames = .java g₀ :: r := hr
  rcases hq' with ⟨hqc, L, hfe, hL⟩ | ⟨q, rfl, E, ce, L, hx, hce, hcv, hcl, hW₂, hsm, hL⟩
  · obtain ⟨⟨v, rfl⟩, hW₂, e2, q2, q3, q4, q5, q6⟩ := id hfe
    have e3 : s₂ = ({ (U.calling g mk a).setFrames s₂.frames with heap := s₂.heap, slotsUsed := s₂.slotsUsed } : State).setVm s₂.vm := by
      have : s₂ = ({ s₂ with vm := (U.calling g mk a).vm } : State).setVm s₂.vm := rfl
      rw [e2] at this
      exact this
    obtain ⟨c₂, i₂, len₂, hc₂, hd₂, hf₂⟩ := hend
    have hW' : U.WarmedH s₂.vm := hW₂
    have hcc : c₂ = c := by
      have h1 : s₂.code? g.method = U.code? g.method := by
        rw [State.code?_eq, State.code?_eq, hW'.alike.method?]
      exact Option.some.inj (hc₂.symm.trans (h1.trans h.code))
    subst hcc
    have hlen : len₂ = len := by rw [hdg] at hd₂; cases hd₂; rfl
    subst hlen
    have hs₂ : s₂ = (({ U with heap := s₂.heap, slotsUsed := s₂.slotsUsed } : State).setVm s₂.vm).setTop { g with pc := g.pc + len₂, stack := v.toList ++ g.stack } := by
      refine e3.trans ?_
      rw [hf₂, State.calling_eq h.top, State.setFrames_setFrames, State.setTop_of_frames _ hr', hr]
      rfl
    have hsame : U.sameButNew ({ U with heap := s₂.heap, slotsUsed := s₂.slotsUsed } : State) L mc ms := by
      refine ⟨?_, q2, q3, q4, q5, q6⟩
      obtain ⟨t, ht, -⟩ := State.frames_cons hr
      show ({ U with heap := s₂.heap, slotsUsed := s₂.slotsUsed } : State) = { U.setFrames U.frames with heap := s₂.heap, slotsUsed := s₂.slotsUsed }
      rw [State.setFrames_self ht]
    subst hg
    refine Or.inl ⟨v, ⟨(({ U with heap := s₂.heap, slotsUsed := s₂.slotsUsed } : State).setVm s₂.vm), Ls ++ L, c0 + mc, s0 + ms⟩,
      ⟨X.admits, X.cas, X.clock, X.frames, X.room, X.hears, X.method, X.code, (X.here.setHeapUsed s₂.heap s₂.slotsUsed).setVm hW'.alike, X.tail, State.WarmedH.trans X.warmed hW', X.limits, X.bytes, X.same.trans (hsame.setVm s.vm)⟩,
      ⟨g, mk, s₂, L, rfl, rfl, hqc, rfl, hL, rfl, rfl⟩, ?_⟩
    show Steps p.tables e below _ ((({ U with heap := s₂.heap, slotsUsed := s₂.slotsUsed } : State).setVm s₂.vm).setTop { g with pc := g.pc + len₂, stack := v.toList ++ g.stack })
    rw [← hs₂]
    exact hsteps
  · obtain ⟨e2, q2, q3, q4, q5, q6⟩ := id hsm
    have e3 : s₂ = ({ (U.calling g mk a).setFrames s₂.frames with heap := s₂.heap, slotsUsed := s₂.slotsUsed } : State).setVm s₂.vm := by
      have : s₂ = ({ s₂ with vm := (U.calling g mk a).vm } : State).setVm s₂.vm := rfl
      rw [e2] at this
      exact this
    have hf₂ : s₂.frames = .throwing q :: .java g :: U.frames.tail := hend
    have hW' : U.WarmedH s₂.vm := hW₂
    have hs₂ : s₂ = ((({ U with heap := s₂.heap, slotsUsed := s₂.slotsUsed } : State).setVm s₂.vm).setTop g).pushFrame (.throwing q) := by
      refine e3.trans ?_
      rw [hf₂, State.calling_eq h.top, State.setFrames_setFrames, State.pushFrame, State.frames_setTop _ hr', State.setTop_of_frames _ hr', State.setFrames_setFrames, hr]
      rfl
    have hsame : U.sameButNew ({ U with heap := s₂.heap, slotsUsed := s₂.slotsUsed } : State) L mc ms := by
      refine ⟨?_, q2, q3, q4, q5, q6⟩
      obtain ⟨t, ht, -⟩ := State.frames_cons hr
      show ({ U with heap := s₂.heap, slotsUsed := s₂.slotsUsed } : State) = { U.setFrames U.frames with heap := s₂.heap, slotsUsed := s₂.slotsUsed }
      rw [State.setFrames_self ht]
    subst hg
    refine Or.inr ⟨q, ⟨(({ U with heap := s₂.heap, slotsUsed := s₂.slotsUsed } : State).setVm s₂.vm), Ls ++ L, c0 + mc, s0 + ms⟩,
      ⟨X.admits, X.cas, X.clock, X.frames, X.room, X.hears, X.method, X.code, (X.here.setHeapUsed s₂.heap s₂.slotsUsed).setVm hW'.alike, X.tail, State.WarmedH.trans X.warmed hW', X.limits, X.bytes, X.same.trans (hsame.setVm s.vm)⟩,
      ⟨g, mk, s₂, L, E, ce, rfl, rfl, hx, hce, hcv, hcl, rfl, hL, rfl, rfl⟩, ?_⟩
    show Steps p.tables e below _ (((({ U with heap := s₂.heap, slotsUsed := s₂.slotsUsed } : State).setVm s₂.vm).setTop g).pushFrame (.throwing q))
    rw [← hs₂]
    exact hsteps
end Payer
section Calls
variable {p : Program} {l : Launch} {e : Env} {R : Room} {s : State} {m : MethodId} {args : Array Value} {below : List Frame} {meth : Method} {c : Code} {T : State} {locs : List Loc} {cells slots : Nat}
theorem vx_callV (X : Stand p l e R s m args below meth c T locs cells slots) (hexec : p.tables.exec = Jvm.exec) {own C : String} {index : Nat} {y : MethodName} {bytes : ByteArray} {maxL : Nat} {ret : Option FieldType}
    (hown : s.vm.findClass own = some m.cls) (hlink : (Cond.methodLink own index y).before args s = true) (hinst : (Cond.instanceMethod y).before args s = true) (hsel : (Cond.selects C y y).before args s = true)
    (hcode : (Cond.code y bytes maxL ret).before args s = true) (hy : y.cls ≠ "java/lang/invoke/MethodHandle" ∧ y.cls ≠ "java/lang/invoke/VarHandle")
    {W9 : Nat} {Pre : Pt → Array Value → Prop} {Post : Pt → Array Value → Option Value → Pt → Prop} {PostX : Pt → Array Value → Addr → Pt → Prop} (hK : vx_Back l R p e below s args y 3 W9 Pre Post PostX)
    {b : Addr} {cellB : Cell} (hcell : T.heap[b]? = some cellB) (hobj : cellB.vm.isStatics = false) (hcls : s.vm.findClass C = some cellB.cls)
    {g : JFrame} (hg : g.method = m) (hsize : g.locals.size = c.maxLocals) {argsL rest : List Value} (hlen : ∀ sig, parseMethodDescriptor y.desc = some sig → argsL.length = sig.parameters.length)
    (hstack : g.stack = argsL.reverse ++ .ref b :: rest) (hW : 2 * g.monitorRoom + (rest.map fun v => v.category).sum ≤ W9) (hdg : decode c.code g.pc = .ok (.invokevirtual index, 3))
    (hpre : ∀ vm₁, s.WarmedH vm₁ → Pre ⟨T.setVm vm₁, locs, cells, slots⟩ (Value.ref b :: argsL).toArray) :
    (∃ (v : Option Value) (vm₁ : Vm) (B : Pt), s.WarmedH vm₁ ∧ Stand p l e R s m args below meth c B.U B.locs B.cells B.slots ∧ Post ⟨T.setVm vm₁, locs, cells, slots⟩ (Value.ref b :: argsL).toArray v B ∧
      ∀ target, Steps p.tables e below (B.U.setTop { g with pc := g.pc + 3, stack := v.toList ++ rest }) target → Steps p.tables e below (T.setTop g) target) ∨
    (∃ (q : Addr) (vm₁ : Vm) (B : Pt), s.WarmedH vm₁ ∧ Stand p l e R s m args below meth c B.U B.locs B.cells B.slots ∧ PostX ⟨T.setVm vm₁, locs, cells, slots⟩ (Value.ref b :: argsL).toArray q B ∧
      Steps p.tables e below (T.setTop g) ((B.U.setTop { g with stack := rest }).pushFrame (.throwing q))) := by
  obtain ⟨mk, methM, hnamed, hmethM, hstM, habM⟩ := Cond.instanceMethod_spec hinst
  obtain ⟨methM', cM, hmethM', -, -, -, -, -, -, hsigM⟩ := Cond.code_spec hnamed hcode
  cases hmethM.symm.trans hmethM'
  obtain ⟨c2, r2, m2, q1, q2, q3, q4, kP, hkP, hkPi⟩ := Cond.selects_spec hsel
  cases hcls.symm.trans q1
  cases (State.methodFound?_of_named hnamed hy).symm.trans q2
  cases hnamed.symm.trans q3
  have hselP : selectMethod e.platform s.vm cellB.cls mk = .method mk := by rw [Launch.admits_selectMethod X.admits]; exact q4
  obtain ⟨vm₁, X₁, hstep₁⟩ := X.invokevirtual hexec hown hlink hnamed hmethM hstM hkP hkPi hy (a := b) (cell := cellB) hcell
    (fun z h => by rw [h] at hobj; cases hobj) hselP hmethM habM hkP hkPi (g := g) hg (argsL := argsL) (rest := rest) (hlen _ hsigM) hstack hdg
  rcases hK m meth c ⟨T.setVm vm₁, locs, cells, slots⟩ { g with stack := rest } (.invokevirtual index) mk (Value.ref b :: argsL).toArray X₁ hg hsize hdg hW (X₁.named hnamed) (hpre vm₁ X₁.warmed) with ⟨v, B, X', hpost, hsteps⟩ | ⟨q, B, X', hpost, hsteps⟩
  · exact Or.inl ⟨v, vm₁, B, X₁.warmed, X', hpost, fun target h => hstep₁ _ fun acts => by rw [doInvoke_state]; exact hsteps.trans h⟩
  · exact Or.inr ⟨q, vm₁, B, X₁.warmed, X', hpost, hstep₁ _ fun acts => by rw [doInvoke_state]; exact hsteps⟩
theorem vx_callS (X : Stand p l e R s m args below meth c T locs cells slots) (hexec : p.tables.exec = Jvm.exec) {own : String} {index : Nat} {y : MethodName} {bytes : ByteArray} {maxL : Nat} {ret : Option FieldType}
    (hown : s.vm.findClass own = some m.cls) (hlink : (Cond.methodLink own index y).before args s = true) (hstat : (Cond.static y).before args s = true) (hinit : (Cond.initialized y.cls).before args s = true)
    (hcode : (Cond.code y bytes maxL ret).before args s = true) (hy : y.cls ≠ "java/lang/invoke/MethodHandle" ∧ y.cls ≠ "java/lang/invoke/VarHandle")
    {W9 : Nat} {Pre : Pt → Array Value → Prop} {Post : Pt → Array Value → Option Value → Pt → Prop} {PostX : Pt → Array Value → Addr → Pt → Prop} (hK : vx_Back l R p e below s args y 3 W9 Pre Post PostX)
    {g : JFrame} (hg : g.method = m) (hsize : g.locals.size = c.maxLocals) {argsL rest : List Value} (hlen : ∀ sig, parseMethodDescriptor y.desc = some sig → argsL.length = sig.parameters.length)
    (hstack : g.stack = argsL.reverse ++ rest) (hW : 2 * g.monitorRoom + (rest.map fun v => v.category).sum ≤ W9) (hdg : decode c.code g.pc = .ok (.invokestatic index, 3))
    (hpre : ∀ vm₁, s.WarmedH vm₁ → Pre ⟨T.setVm vm₁, locs, cells, slots⟩ argsL.toArray) :
    (∃ (v : Option Value) (vm₁ : Vm) (B : Pt), s.WarmedH vm₁ ∧ Stand p l e R s m args below meth c B.U B.locs B.cells B.slots ∧ Post ⟨T.setVm vm₁, locs, cells, slots⟩ argsL.toArray v B ∧
      ∀ target, Steps p.tables e below (B.U.setTop { g with pc := g.pc + 3, stack := v.toList ++ rest }) target → Steps p.tables e below (T.setTop g) target) ∨
    (∃ (q : Addr) (vm₁ : Vm) (B : Pt), s.WarmedH vm₁ ∧ Stand p l e R s m args below meth c B.U B.locs B.cells B.slots ∧ PostX ⟨T.setVm vm₁, locs, cells, slots⟩ argsL.toArray q B ∧
      Steps p.tables e below (T.setTop g) ((B.U.setTop { g with stack := rest }).pushFrame (.throwing q))) := by
  obtain ⟨mk, hnamed⟩ := Cond.code_named hcode
  obtain ⟨methM, cM, hmethM, -, -, -, -, -, -, hsigM⟩ := Cond.code_spec hnamed hcode
  have hstatic : methM.isStatic = true := Cond.static_spec hnamed hmethM hstat
  obtain ⟨kP, hkP, -⟩ := className_of_methodNamed hnamed
  have hinitP : kP.init = .initialized := Cond.initialized_spec (findClass_of_methodNamed hnamed) hkP hinit
  obtain ⟨vm₁, X₁, hstep₁⟩ := X.invokestatic hexec hown hlink hnamed hmethM hstatic hkP hinitP hy (g := g) hg (argsL := argsL) (rest := rest) (hlen _ hsigM) hstack hdg
  rcases hK m meth c ⟨T.setVm vm₁, locs, cells, slots⟩ { g with stack := rest } (.invokestatic index) mk argsL.toArray X₁ hg hsize hdg hW (X₁.named hnamed) (hpre vm₁ X₁.warmed) with ⟨v, B, X', hpost, hsteps⟩ | ⟨q, B, X', hpost, hsteps⟩
  · exact Or.inl ⟨v, vm₁, B, X₁.warmed, X', hpost, fun target h => hstep₁ _ fun acts => by rw [doInvoke_state]; exact hsteps.trans h⟩
  · exact Or.inr ⟨q, vm₁, B, X₁.warmed, X', hpost, hstep₁ _ fun acts => by rw [doInvoke_state]; exact hsteps⟩
end Calls
theorem vx_cls {s : State} {T : State} {vm₁ : Vm} {E : String} {k : ClassId} (hW : s.WarmedH vm₁) (h : (T.setVm vm₁).vm.findClass E = some k) : s.vm.findClass E = some k := by
  have h1 : vm₁.findClass E = some k := h
  rw [hW.alike.findClass] at h1
  exact h1
/-- the method's frame g, with q thrown over it -/
def vx_W (p : Program) (l : Launch) (e : Env) (R : Room) (s : State) (m : MethodId) (args : Array Value) (below : List Frame) (meth : Method) (c : Code) (H : Heap) (locs : List Loc) (cells slots : Nat) (Q : State → Prop) (g : JFrame) (q : Addr) : Prop :=
  ∀ T : State, T.heap = H → Stand p l e R s m args below meth c T locs cells slots → ∃ t, Steps p.tables e below ((T.setTop g).pushFrame (.throwing q)) t ∧ Q t
def vx_Run (p : Program) (l : Launch) (e : Env) (R : Room) (s : State) (m : MethodId) (args : Array Value) (below : List Frame) (meth : Method) (c : Code) (H : Heap) (locs : List Loc) (cells slots mc ms : Nat) (g : JFrame) (rest : List Value) (Qa : State → Outcome → State → Prop) (XC : String → State → State → Prop) (free : Addr → Prop) : Prop :=
  ∀ T : State, T.heap = H → Stand p l e R s m args below meth c T locs cells slots →
    (∃ (v : Option Value) (st₀ t T' : State) (L : List Loc), st₀.heap = H ∧ Stand p l e R s m args below meth c T' (locs ++ L) (cells + mc) (slots + ms) ∧ (∀ q ∈ L, free q.base) ∧ T'.heap = t.heap ∧ T'.vm = t.vm ∧ Qa st₀ (.returned v) t ∧
      Goes p e below T g T' { g with pc := g.pc + 3, stack := v.toList ++ rest }) ∨
    (∃ (q : Addr) (st₀ t T' : State) (L : List Loc) (E : String) (ce : Cell), st₀.heap = H ∧ Stand p l e R s m args below meth c T' (locs ++ L) (cells + mc) (slots + ms) ∧ (∀ z ∈ L, free z.base) ∧ T'.heap = t.heap ∧ T'.vm = t.vm ∧ XC E st₀ t ∧ t.heap[q]? = some ce ∧ ce.vm = .none ∧ s.vm.findClass E = some ce.cls ∧
      Steps p.tables e below (T.setTop g) ((T'.setTop { g with stack := rest }).pushFrame (.throwing q)))
def vx_X {S : Type} (px : S → Prop) (B : String → S → State → Prop) (A : Nat → Prop) : String → State → State → Prop := fun E st t => ∃ u : S, px u ∧ B E u t ∧ va_F A st t
section Runs
variable {p : Program} {l : Launch} {e : Env} {R : Room} {s : State} {m : MethodId} {args : Array Value} {below : List Frame} {meth : Method} {c : Code} {H : Heap} {locs : List Loc} {cells slots : Nat}
variable {y : MethodName} {bytes cc : ByteArray} {maxL nL mc ms n index : Nat} {ret : Option FieldType} {ws : List Cond} {rm : Room} {Pc : Array Value → State → Prop} {Qc : Array Value → State → Outcome → State → Prop} {XC : String → State → State → Prop} {free : Addr → Prop} {Ts : List Cond} {own C : String} {b : Addr} {As rest : List Value} {g : JFrame}
theorem vx_callBack (cb : CallB R s args own index y bytes maxL ret ws rm mc ms n) (hM : vx_Met l y ws rm Pc Qc XC mc ms free) (hbl : FrameBlind Pc) : vx_Back l R p e below s args y 3 8 (PreOf R mc ms Pc) (PostOf Qc mc ms free) (vx_Post XC mc ms free) := by
  obtain ⟨hrc, hrs, hfr, hlo, hws, hcw, -, hini, -⟩ := cb
  exact vx_back (bytes := bytes) (maxL := maxL) (ret := ret) hM hbl hrc hrs hfr hlo hws hcw (fun a' U hW => word_at hW (Or.inl (by first | rfl | simp [Cond.onTables, Cond.keeps, Cond.steady])) hini)
theorem vx_runV (S : CallFix p m c cc nL s args Ts own) (hM : vx_Met l y ws rm Pc Qc XC mc ms free) (cw : CallW R s args own C index y bytes maxL ret ws rm mc ms n) (hp : PreV s H C b Pc As)
    (hg : g.method = m) (hn : As.length = n) (hsize : g.locals.size = nL) (hstack : g.stack = As.reverse ++ .ref b :: rest) (hW : 2 * g.monitorRoom + (rest.map fun v => v.category).sum ≤ 8) (hdg : decode cc g.pc = .ok (.invokevirtual index, 3)) (hf : cells + mc ≤ R.cells ∧ slots + ms ≤ R.slots) :
    vx_Run p l e R s m args below meth c H locs cells slots mc ms g rest (Qc (Value.ref b :: As).toArray) XC free := by
  have hK : vx_Back l R p e below s args y 3 8 (PreOf R mc ms Pc) (PostOf Qc mc ms free) (vx_Post XC mc ms free) := vx_callBack cw.1 hM hp.1
  obtain ⟨⟨-, -, -, -, -, -, hcode, -, hy, hlen, hl⟩, hin, hse⟩ := cw
  obtain ⟨hx, hb, hml, ho, -⟩ := S
  obtain ⟨-, ⟨cellB, hcB, hoB, hclB⟩, hPc⟩ := hp
  intro T hT X
  rcases vx_callV X hx (C := C) (bytes := bytes) (maxL := maxL) (ret := ret) ho hl hin hse hcode hy hK (by rw [hT]; exact hcB) hoB hclB hg (hsize.trans hml.symm) (argsL := As) (rest := rest) (fun sig h => hn.trans (hlen sig h)) hstack hW (by rw [hb]; exact hdg)
    (fun vm₁ hW₁ => ⟨hf.1, hf.2, hPc (T.setVm vm₁) hT hW₁⟩) with ⟨v, vm₁, ⟨U', l2, c2, s2⟩, hW₁, X', ⟨g', mk, t, L, e1, e2, hq, h1, hL, h2, h3⟩, st⟩ | ⟨q, vm₁, ⟨U', l2, c2, s2⟩, hW₁, X', ⟨g', mk, t, L, E, ce, e1, e2, hq, hce, hcv, hcl, h1, hL, h2, h3⟩, st⟩
  · dsimp only [Pt.U, Pt.locs, Pt.cells, Pt.slots] at X' e1 e2 h1 h2 h3 st
    subst h1; subst h2; subst h3
    exact Or.inl ⟨v, (T.setVm vm₁).calling g' mk (Value.ref b :: As).toArray, t, U', L, hT, X', hL, e1, e2, hq, st⟩
  · dsimp only [Pt.U, Pt.locs, Pt.cells, Pt.slots] at X' e1 e2 h1 h2 h3 st hcl
    subst h1; subst h2; subst h3
    exact Or.inr ⟨q, (T.setVm vm₁).calling g' mk (Value.ref b :: As).toArray, t, U', L, E, ce, hT, X', hL, e1, e2, hq, hce, hcv, vx_cls hW₁ hcl, st⟩
theorem vx_runS (S : CallFix p m c cc nL s args Ts own) (hM : vx_Met l y ws rm Pc Qc XC mc ms free) (cw : CallB R s args own index y bytes maxL ret ws rm mc ms n ∧ (Cond.static y).before args s = true) (hp : PreS s H Pc As)
    (hg : g.method = m) (hn : As.length = n) (hsize : g.locals.size = nL) (hstack : g.stack = As.reverse ++ rest) (hW : 2 * g.monitorRoom + (rest.map fun v => v.category).sum ≤ 8) (hdg : decode cc g.pc = .ok (.invokestatic index, 3)) (hf : cells + mc ≤ R.cells ∧ slots + ms ≤ R.slots) :
    vx_Run p l e R s m args below meth c H locs cells slots mc ms g rest (Qc As.toArray) XC free := by
  have hK : vx_Back l R p e below s args y 3 8 (PreOf R mc ms Pc) (PostOf Qc mc ms free) (vx_Post XC mc ms free) := vx_callBack cw.1 hM hp.1
  obtain ⟨⟨-, -, -, -, -, -, hcode, hini, hy, hlen, hl⟩, hstt⟩ := cw
  obtain ⟨hx, hb, hml, ho, -⟩ := S
  intro T hT X
  rcases vx_callS X hx (bytes := bytes) (maxL := maxL) (ret := ret) ho hl hstt hini hcode hy hK hg (hsize.trans hml.symm) (argsL := As) (rest := rest) (fun sig h => hn.trans (hlen sig h)) hstack hW (by rw [hb]; exact hdg)
    (fun vm₁ hW₁ => ⟨hf.1, hf.2, hp.2 (T.setVm vm₁) hT hW₁⟩) with ⟨v, vm₁, ⟨U', l2, c2, s2⟩, hW₁, X', ⟨g', mk, t, L, e1, e2, hq, h1, hL, h2, h3⟩, st⟩ | ⟨q, vm₁, ⟨U', l2, c2, s2⟩, hW₁, X', ⟨g', mk, t, L, E, ce, e1, e2, hq, hce, hcv, hcl, h1, hL, h2, h3⟩, st⟩
  · dsimp only [Pt.U, Pt.locs, Pt.cells, Pt.slots] at X' e1 e2 h1 h2 h3 st
    subst h1; subst h2; subst h3
    exact Or.inl ⟨v, (T.setVm vm₁).calling g' mk As.toArray, t, U', L, hT, X', hL, e1, e2, hq, st⟩
  · dsimp only [Pt.U, Pt.locs, Pt.cells, Pt.slots] at X' e1 e2 h1 h2 h3 st hcl
    subst h1; subst h2; subst h3
    exact Or.inr ⟨q, (T.setVm vm₁).calling g' mk As.toArray, t, U', L, E, ce, hT, X', hL, e1, e2, hq, hce, hcv, vx_cls hW₁ hcl, st⟩
end Runs
section Rows
variable {p : Program} {l : Launch} {e : Env} {R : Room} {s : State} {m : MethodId} {args : Array Value} {below : List Frame} {meth : Method} {c : Code} {H : Heap} {locs : List Loc} {cells slots : Nat} {Q : State → Prop}
variable {mc ms : Nat} {free : Addr → Prop} {A0 A1 : Nat → Prop} {H0 : Heap} {a : Array Value} {pc : Nat} {ls : Array Slot} {st0 rest : List Value}
theorem vx_keep {st₀ t T' : State} {L : List Loc} (h0 : st₀.heap = H) (e1 : T'.heap = t.heap) (hS : va_S A0 H0 H locs) (hA : ∀ q, q < H.size → A1 q → A0 q) (hf : ∀ q, free q → A0 q) (hL : ∀ q ∈ L, free q.base) (hF : va_F A1 st₀ t) :
    H.size ≤ T'.heap.size ∧ (∀ q : Nat, q < H.size → ¬ A1 q → T'.heap[q]? = H[q]?) ∧ va_S A0 H0 T'.heap (locs ++ L) := by
  obtain ⟨hz, hk⟩ := hF
  rw [h0] at hz hk
  exact ⟨by rw [e1]; exact hz, fun q h1 h2 => by rw [e1]; exact hk q h1 h2,
    ⟨Nat.le_trans hS.1 (by rw [e1]; exact hz), fun q h1 h2 => by rw [e1, hk q (Nat.lt_of_lt_of_le h1 hS.1) (fun z => h2 (hA q (Nat.lt_of_lt_of_le h1 hS.1) z))]; exact hS.2.1 q h1 h2, fun q hq => by
      rcases List.mem_append.mp hq with h | h
      · exact hS.2.2 q h
      · exact hf _ (hL q h)⟩⟩
theorem vx_calli {S SX : Type} {post : Int32 → S → Prop} {px : SX → Prop} {B : S → State → Prop} {BX : String → SX → State → Prop} {AX : Nat → Prop} (hr : vx_Run p l e R s m args below meth c H locs cells slots mc ms (F0 m pc ls st0) rest (va_Qi post B A1 a) (vx_X px BX AX) free) (hS : va_S A0 H0 H locs) (hA : ∀ q, q < H.size → A1 q → A0 q) (hf : ∀ q, free q → A0 q) (hAX : ∀ q, q < H.size → AX q → A0 q)
    (kx : ∀ (E : String) (ce : Cell) (q9 : Addr) (u : SX) (t : State) (H1 : Heap) (locs1 : List Loc), t.heap = H1 → s.vm.Alike t.vm → px u → BX E u t → H.size ≤ H1.size → (∀ q : Nat, q < H.size → ¬ AX q → H1[q]? = H[q]?) → va_S A0 H0 H1 locs1 → H1[q9]? = some ce → ce.vm = .none → s.vm.findClass E = some ce.cls → vx_W p l e R s m args below meth c H1 locs1 (cells + mc) (slots + ms) Q (F0 m pc ls rest) q9)
    (kk : ∀ (r : Int32) (u : S) (t : State) (H1 : Heap) (locs1 : List Loc), t.heap = H1 → s.vm.Alike t.vm → post r u → B u t → H.size ≤ H1.size → (∀ q : Nat, q < H.size → ¬ A1 q → H1[q]? = H[q]?) → va_S A0 H0 H1 locs1 → W p l e R s m args below meth c H1 locs1 (cells + mc) (slots + ms) Q (F0 m (pc + 3) ls (.int r :: rest))) : W p l e R s m args below meth c H locs cells slots Q (F0 m pc ls st0) := by
  intro T hT X
  rcases hr T hT X with ⟨v, st₀, t, T', L, h0, X', hL, e1, e2, ⟨⟨r, u, hv, hp, hb⟩, hF⟩, st⟩ | ⟨q, st₀, t, T', L, E, ce, h0, X', hL, e1, e2, ⟨u, hp, hb, hF⟩, hce, hcv, hcl, st⟩
  · cases hv
    obtain ⟨k1, k2, k3⟩ := vx_keep h0 e1 hS hA hf hL hF
    obtain ⟨t2, a1, b1⟩ := kk r u t T'.heap (locs ++ L) e1.symm (by rw [← e2]; exact X'.warmed.alike) hp hb k1 k2 k3 T' rfl X'
    exact ⟨t2, st t2 a1, b1⟩
  · obtain ⟨k1, k2, k3⟩ := vx_keep h0 e1 hS hAX hf hL hF
    obtain ⟨t2, a1, b1⟩ := kx E ce q u t T'.heap (locs ++ L) e1.symm (by rw [← e2]; exact X'.warmed.alike) hp hb k1 k2 k3 (by rw [e1]; exact hce) hcv hcl T' rfl X'
    exact ⟨t2, st.trans a1, b1⟩
theorem vx_calll {S SX : Type} {post : Int64 → S → Prop} {px : SX → Prop} {B : S → State → Prop} {BX : String → SX → State → Prop} {AX : Nat → Prop} (hr : vx_Run p l e R s m args below meth c H locs cells slots mc ms (F0 m pc ls st0) rest (va_Ql post B A1 a) (vx_X px BX AX) free) (hS : va_S A0 H0 H locs) (hA : ∀ q, q < H.size → A1 q → A0 q) (hf : ∀ q, free q → A0 q) (hAX : ∀ q, q < H.size → AX q → A0 q)
    (kx : ∀ (E : String) (ce : Cell) (q9 : Addr) (u : SX) (t : State) (H1 : Heap) (locs1 : List Loc), t.heap = H1 → s.vm.Alike t.vm → px u → BX E u t → H.size ≤ H1.size → (∀ q : Nat, q < H.size → ¬ AX q → H1[q]? = H[q]?) → va_S A0 H0 H1 locs1 → H1[q9]? = some ce → ce.vm = .none → s.vm.findClass E = some ce.cls → vx_W p l e R s m args below meth c H1 locs1 (cells + mc) (slots + ms) Q (F0 m pc ls rest) q9)
    (kk : ∀ (r : Int64) (u : S) (t : State) (H1 : Heap) (locs1 : List Loc), t.heap = H1 → s.vm.Alike t.vm → post r u → B u t → H.size ≤ H1.size → (∀ q : Nat, q < H.size → ¬ A1 q → H1[q]? = H[q]?) → va_S A0 H0 H1 locs1 → W p l e R s m args below meth c H1 locs1 (cells + mc) (slots + ms) Q (F0 m (pc + 3) ls (.long r :: rest))) : W p l e R s m args below meth c H locs cells slots Q (F0 m pc ls st0) := by
  intro T hT X
  rcases hr T hT X with ⟨v, st₀, t, T', L, h0, X', hL, e1, e2, ⟨⟨r, u, hv, hp, hb⟩, hF⟩, st⟩ | ⟨q, st₀, t, T', L, E, ce, h0, X', hL, e1, e2, ⟨u, hp, hb, hF⟩, hce, hcv, hcl, st⟩
  · cases hv
    obtain ⟨k1, k2, k3⟩ := vx_keep h0 e1 hS hA hf hL hF
    obtain ⟨t2, a1, b1⟩ := kk r u t T'.heap (locs ++ L) e1.symm (by rw [← e2]; exact X'.warmed.alike) hp hb k1 k2 k3 T' rfl X'
    exact ⟨t2, st t2 a1, b1⟩
  · obtain ⟨k1, k2, k3⟩ := vx_keep h0 e1 hS hAX hf hL hF
    obtain ⟨t2, a1, b1⟩ := kx E ce q u t T'.heap (locs ++ L) e1.symm (by rw [← e2]; exact X'.warmed.alike) hp hb k1 k2 k3 (by rw [e1]; exact hce) hcv hcl T' rfl X'
    exact ⟨t2, st.trans a1, b1⟩
theorem vx_callf {S SX : Type} {post : UInt32 → S → Prop} {px : SX → Prop} {B : S → State → Prop} {BX : String → SX → State → Prop} {AX : Nat → Prop} (hr : vx_Run p l e R s m args below meth c H locs cells slots mc ms (F0 m pc ls st0) rest (va_Qf post B A1 a) (vx_X px BX AX) free) (hS : va_S A0 H0 H locs) (hA : ∀ q, q < H.size → A1 q → A0 q) (hf : ∀ q, free q → A0 q) (hAX : ∀ q, q < H.size → AX q → A0 q)
    (kx : ∀ (E : String) (ce : Cell) (q9 : Addr) (u : SX) (t : State) (H1 : Heap) (locs1 : List Loc), t.heap = H1 → s.vm.Alike t.vm → px u → BX E u t → H.size ≤ H1.size → (∀ q : Nat, q < H.size → ¬ AX q → H1[q]? = H[q]?) → va_S A0 H0 H1 locs1 → H1[q9]? = some ce → ce.vm = .none → s.vm.findClass E = some ce.cls → vx_W p l e R s m args below meth c H1 locs1 (cells + mc) (slots + ms) Q (F0 m pc ls rest) q9)
    (kk : ∀ (r : UInt32) (u : S) (t : State) (H1 : Heap) (locs1 : List Loc), t.heap = H1 → s.vm.Alike t.vm → post r u → B u t → H.size ≤ H1.size → (∀ q : Nat, q < H.size → ¬ A1 q → H1[q]? = H[q]?) → va_S A0 H0 H1 locs1 → W p l e R s m args below meth c H1 locs1 (cells + mc) (slots + ms) Q (F0 m (pc + 3) ls (.float r :: rest))) : W p l e R s m args below meth c H locs cells slots Q (F0 m pc ls st0) := by
  intro T hT X
  rcases hr T hT X with ⟨v, st₀, t, T', L, h0, X', hL, e1, e2, ⟨⟨r, u, hv, hp, hb⟩, hF⟩, st⟩ | ⟨q, st₀, t, T', L, E, ce, h0, X', hL, e1, e2, ⟨u, hp, hb, hF⟩, hce, hcv, hcl, st⟩
  · cases hv
    obtain ⟨k1, k2, k3⟩ := vx_keep h0 e1 hS hA hf hL hF
    obtain ⟨t2, a1, b1⟩ := kk r u t T'.heap (locs ++ L) e1.symm (by rw [← e2]; exact X'.warmed.alike) hp hb k1 k2 k3 T' rfl X'
    exact ⟨t2, st t2 a1, b1⟩
  · obtain ⟨k1, k2, k3⟩ := vx_keep h0 e1 hS hAX hf hL hF
    obtain ⟨t2, a1, b1⟩ := kx E ce q u t T'.heap (locs ++ L) e1.symm (by rw [← e2]; exact X'.warmed.alike) hp hb k1 k2 k3 (by rw [e1]; exact hce) hcv hcl T' rfl X'
    exact ⟨t2, st.trans a1, b1⟩
theorem vx_calld {S SX : Type} {post : UInt64 → S → Prop} {px : SX → Prop} {B : S → State → Prop} {BX : String → SX → State → Prop} {AX : Nat → Prop} (hr : vx_Run p l e R s m args below meth c H locs cells slots mc ms (F0 m pc ls st0) rest (va_Qd post B A1 a) (vx_X px BX AX) free) (hS : va_S A0 H0 H locs) (hA : ∀ q, q < H.size → A1 q → A0 q) (hf : ∀ q, free q → A0 q) (hAX : ∀ q, q < H.size → AX q → A0 q)
    (kx : ∀ (E : String) (ce : Cell) (q9 : Addr) (u : SX) (t : State) (H1 : Heap) (locs1 : List Loc), t.heap = H1 → s.vm.Alike t.vm → px u → BX E u t → H.size ≤ H1.size → (∀ q : Nat, q < H.size → ¬ AX q → H1[q]? = H[q]?) → va_S A0 H0 H1 locs1 → H1[q9]? = some ce → ce.vm = .none → s.vm.findClass E = some ce.cls → vx_W p l e R s m args below meth c H1 locs1 (cells + mc) (slots + ms) Q (F0 m pc ls rest) q9)
    (kk : ∀ (r : UInt64) (u : S) (t : State) (H1 : Heap) (locs1 : List Loc), t.heap = H1 → s.vm.Alike t.vm → post r u → B u t → H.size ≤ H1.size → (∀ q : Nat, q < H.size → ¬ A1 q → H1[q]? = H[q]?) → va_S A0 H0 H1 locs1 → W p l e R s m args below meth c H1 locs1 (cells + mc) (slots + ms) Q (F0 m (pc + 3) ls (.double r :: rest))) : W p l e R s m args below meth c H locs cells slots Q (F0 m pc ls st0) := by
  intro T hT X
  rcases hr T hT X with ⟨v, st₀, t, T', L, h0, X', hL, e1, e2, ⟨⟨r, u, hv, hp, hb⟩, hF⟩, st⟩ | ⟨q, st₀, t, T', L, E, ce, h0, X', hL, e1, e2, ⟨u, hp, hb, hF⟩, hce, hcv, hcl, st⟩
  · cases hv
    obtain ⟨k1, k2, k3⟩ := vx_keep h0 e1 hS hA hf hL hF
    obtain ⟨t2, a1, b1⟩ := kk r u t T'.heap (locs ++ L) e1.symm (by rw [← e2]; exact X'.warmed.alike) hp hb k1 k2 k3 T' rfl X'
    exact ⟨t2, st t2 a1, b1⟩
  · obtain ⟨k1, k2, k3⟩ := vx_keep h0 e1 hS hAX hf hL hF
    obtain ⟨t2, a1, b1⟩ := kx E ce q u t T'.heap (locs ++ L) e1.symm (by rw [← e2]; exact X'.warmed.alike) hp hb k1 k2 k3 (by rw [e1]; exact hce) hcv hcl T' rfl X'
    exact ⟨t2, st.trans a1, b1⟩
theorem vx_callv {S SX : Type} {post : S → Prop} {px : SX → Prop} {B : S → State → Prop} {BX : String → SX → State → Prop} {AX : Nat → Prop} (hr : vx_Run p l e R s m args below meth c H locs cells slots mc ms (F0 m pc ls st0) rest (va_Qv post B A1 a) (vx_X px BX AX) free) (hS : va_S A0 H0 H locs) (hA : ∀ q, q < H.size → A1 q → A0 q) (hf : ∀ q, free q → A0 q) (hAX : ∀ q, q < H.size → AX q → A0 q)
    (kx : ∀ (E : String) (ce : Cell) (q9 : Addr) (u : SX) (t : State) (H1 : Heap) (locs1 : List Loc), t.heap = H1 → s.vm.Alike t.vm → px u → BX E u t → H.size ≤ H1.size → (∀ q : Nat, q < H.size → ¬ AX q → H1[q]? = H[q]?) → va_S A0 H0 H1 locs1 → H1[q9]? = some ce → ce.vm = .none → s.vm.findClass E = some ce.cls → vx_W p l e R s m args below meth c H1 locs1 (cells + mc) (slots + ms) Q (F0 m pc ls rest) q9)
    (kk : ∀ (u : S) (t : State) (H1 : Heap) (locs1 : List Loc), t.heap = H1 → s.vm.Alike t.vm → post u → B u t → H.size ≤ H1.size → (∀ q : Nat, q < H.size → ¬ A1 q → H1[q]? = H[q]?) → va_S A0 H0 H1 locs1 → W p l e R s m args below meth c H1 locs1 (cells + mc) (slots + ms) Q (F0 m (pc + 3) ls (rest))) : W p l e R s m args below meth c H locs cells slots Q (F0 m pc ls st0) := by
  intro T hT X
  rcases hr T hT X with ⟨v, st₀, t, T', L, h0, X', hL, e1, e2, ⟨⟨u, hv, hp, hb⟩, hF⟩, st⟩ | ⟨q, st₀, t, T', L, E, ce, h0, X', hL, e1, e2, ⟨u, hp, hb, hF⟩, hce, hcv, hcl, st⟩
  · cases hv
    obtain ⟨k1, k2, k3⟩ := vx_keep h0 e1 hS hA hf hL hF
    obtain ⟨t2, a1, b1⟩ := kk u t T'.heap (locs ++ L) e1.symm (by rw [← e2]; exact X'.warmed.alike) hp hb k1 k2 k3 T' rfl X'
    exact ⟨t2, st t2 a1, b1⟩
  · obtain ⟨k1, k2, k3⟩ := vx_keep h0 e1 hS hAX hf hL hF
    obtain ⟨t2, a1, b1⟩ := kx E ce q u t T'.heap (locs ++ L) e1.symm (by rw [← e2]; exact X'.warmed.alike) hp hb k1 k2 k3 (by rw [e1]; exact hce) hcv hcl T' rfl X'
    exact ⟨t2, st.trans a1, b1⟩
/-- caught by the row x of this method's table; the rows ahead don't take it -/
theorem vx_catch {own name : String} {E : String} {ce : Cell} {q : Addr} (hown : s.vm.findClass own = some m.cls) (pre : List ExceptionTableEntry) (x : ExceptionTableEntry) (suf : List ExceptionTableEntry) (hsplit : c.exceptionTable.toList = pre ++ x :: suf)
    (hpass : ∀ z ∈ pre, covers z pc = false ∨ (z.catchType ≠ 0 ∧ ∃ nm : String, (Cond.classLink own z.catchType nm).before args s = true ∧ va_Nc E nm s)) (hx : covers x pc = true) (h0 : x.catchType ≠ 0)
    (hlink : (Cond.classLink own x.catchType name).before args s = true) (hcast : (Cond.castable E name).before args s = true) (hcell : H[q]? = some ce) (hv : ce.vm = .none) (hcl : s.vm.findClass E = some ce.cls)
    (kk : W p l e R s m args below meth c H locs cells slots Q (F0 m x.handlerPc ls [.ref q])) : vx_W p l e R s m args below meth c H locs cells slots Q (F0 m pc ls rest) q := by
  intro T hT X
  have hpl : e.platform.magicAccessors = ({} : Platform).magicAccessors := by rw [X.admits.platform]
  obtain ⟨c3, c4, hc3, hc4, hasg⟩ := Cond.castable_spec hcast
  cases Option.some.inj (hc3.symm.trans hcl)
  obtain ⟨c5, hc5, hcl5⟩ := Cond.classLink_spec hown hlink e.platform hpl
  cases Option.some.inj (hc4.symm.trans hc5)
  obtain ⟨vm', X', st⟩ := X.thenCaughtThrough q (g := F0 m pc ls rest) rfl (Steps.refl _) (by rw [hT]; exact hcell) (by rw [hv]; rfl) (by obtain ⟨k9, h9, -⟩ := Vm.findClass_spec hcl; exact ⟨k9, h9⟩) pre x suf hsplit
    (fun z hz => by
      rcases hpass z hz with h | ⟨hz0, nm, hl1, hn1⟩
      · exact Or.inl h
      · obtain ⟨c6, hc6, hcl6⟩ := Cond.classLink_spec hown hl1 e.platform hpl
        obtain ⟨a8, b8, h1, h2, h3⟩ := hn1
        cases Option.some.inj (h1.symm.trans hcl)
        cases Option.some.inj (h2.symm.trans hc6)
        exact Or.inr ⟨hz0, _, hcl6, h3⟩) hx (Or.inr ⟨h0, c4, hcl5, hasg⟩)
  obtain ⟨t, a1, b1⟩ := kk (T.setVm vm') hT X'
  exact ⟨t, st.trans a1, b1⟩
end Rows
section Ends
variable {p : Program} {l : Launch} {e : Env} {R : Room} {s : State} {m : MethodId} {args : Array Value} {below : List Frame} {meth : Method} {c : Code} {H : Heap} {locs : List Loc} {cells slots : Nat} {Q : State → Prop}
variable {mc ms : Nat} {free : Addr → Prop} {A0 A1 : Nat → Prop} {H0 : Heap} {a : Array Value} {ls : Array Slot} {st0 rest : List Value}
variable {Qc : Array Value → State → Outcome → State → Prop} {XC : String → State → State → Prop}
/-- what a body that may throw owes at its end -/
def vx_MQ (below : List Frame) (Qc : Array Value → State → Outcome → State → Prop) (XC : String → State → State → Prop) (a : Array Value) (s : State) (mc ms : Nat) (free : Addr → Prop) : State → Prop := fun t =>
  ∃ o, t.status = .running ∧ Ended t below o ∧ vx_Q Qc XC mc ms free a s o t
theorem vx_ret {g : JFrame} {mc ms : Nat} (k : W p l e R s m args below meth c H locs cells slots (MQ below Qc args s mc ms free) g) : W p l e R s m args below meth c H locs cells slots (vx_MQ below Qc XC args s mc ms free) g := by
  intro T hT X
  obtain ⟨t, a1, o, b1, b2, b3, b4⟩ := k T hT X
  exact ⟨t, a1, o, b1, b2, Or.inl ⟨b3, b4⟩⟩
/-- not caught here: it goes on to the caller -/
theorem vx_widen {g : JFrame} {q : Addr} {k n : Nat} (h1 : cells ≤ k) (h2 : slots ≤ n) (kk : vx_W p l e R s m args below meth c H locs k n Q g q) : vx_W p l e R s m args below meth c H locs cells slots Q g q := fun T hT X => kk T hT (stand_widen X h1 h2)
theorem vx_out {pc : Nat} {E : String} {ce : Cell} {q : Addr} {mc ms : Nat} (hout : ∀ x ∈ c.exceptionTable.toList, covers x pc = false) (hlocks : meth.locks = false) (hcell : H[q]? = some ce) (hv : ce.vm = .none) (hcl : s.vm.findClass E = some ce.cls)
    (hx : ∀ t : State, t.heap = H → s.vm.Alike t.vm → XC E s t) (hf : ∀ z ∈ locs, free z.base) (hc : cells ≤ mc) (hs : slots ≤ ms) :
    vx_W p l e R s m args below meth c H locs cells slots (vx_MQ below Qc XC args s mc ms free) (F0 m pc ls rest) q := by
  intro T hT X
  obtain ⟨st1, hrun, hend, hW, hsm⟩ := X.leaveThrown q (g := F0 m pc ls rest) rfl rfl rfl hout hlocks
  have hcell9 : (T.setFrames (.throwing q :: below)).heap[q]? = some ce := by
    show T.heap[q]? = some ce
    rw [hT]; exact hcell
  exact ⟨_, st1, .threw q, hrun, hend, Or.inr ⟨q, rfl, E, ce, locs, hx _ hT hW.alike, hcell9, hv, hcl, hW, hsm.mono hc hs, hf⟩⟩
theorem vx_frame {U : State} {k n : Nat} (h : s.sameButNew ({ U with vm := s.vm } : State) locs k n) : s.heap.size ≤ U.heap.size ∧ ∀ q : Nat, q < s.heap.size → (∀ z ∈ locs, z.base ≠ q) → U.heap[q]? = s.heap[q]? := by
  obtain ⟨-, h2, -, -, -, h6⟩ := h
  refine ⟨h2, fun q hq hz => ?_⟩
  obtain ⟨c9, e1, e2, e3, e4⟩ := h6 q _ (Array.getElem?_eq_getElem hq)
  have hs : c9.slots = (s.heap[q]).slots := Array.ext_getElem? fun i => e4 i fun hm => hz _ hm rfl
  have h9 : c9 = s.heap[q] := by
    rw [hs] at e2
    exact e2
  have e5 : U.heap[q]? = some c9 := e1
  rw [e5, h9, Array.getElem?_eq_getElem hq]
/-- the words of a throw but the four that speak of the heap -/
def vx_no (w : Cond) : Bool := decide (w ≠ .isRef (.static Bundle.tN "UNASSIGNED_STACK" Bundle.steD)) && decide (w ≠ .isRef (.static Bundle.tN "SUPPRESSED_SENTINEL" Bundle.listD)) && decide (w ≠ .laysStatic Bundle.tN "UNASSIGNED_STACK" Bundle.steD) && decide (w ≠ .laysStatic Bundle.tN "SUPPRESSED_SENTINEL" Bundle.listD)
def vx_at0 (own : String) (ic : Nat) (X : String) (names : List String) : List Cond := (Bundle.ownAtoms0 own ic X names).filter vx_no
def vx_atS (own : String) (ic : Nat) (X : String) (names : List String) : List Cond := (Bundle.ownAtoms own ic X names).filter vx_no
/-- a word that the tables alone decide, or a good one -/
def vx_ot (w : Cond) : Bool := w.onTables || goodWord w
theorem vx_ot_at {args a' : Array Value} {s U : State} {w : Cond} (hW : s.WarmedH U.vm) (hvm : s.vm = U.vm) (hg : vx_ot w = true) (h : w.before args s = true) : w.before a' U = true := by
  simp only [vx_ot, Bool.or_eq_true] at hg
  rcases hg with hg | hg
  · exact va_tabs hg hvm h
  · exact word_at hW (good_of_word hg) h
/-- a list's words: the good ones out of the method's own list, the others by premises of their own -/
theorem vx_hat {args : Array Value} {s : State} {L B : List Cond} (h1 : ∀ w ∈ L.filter goodWord, w.before args s = true) (h2 : ∀ w ∈ L.filter (fun w => !goodWord w), w ∈ B) (h3 : ∀ w ∈ B, w.before args s = true) : ∀ w ∈ L, w.before args s = true := by
  intro w hw
  by_cases g : goodWord w = true
  · exact h1 w (List.mem_filter.mpr ⟨hw, g⟩)
  · refine h3 w (h2 w (List.mem_filter.mpr ⟨hw, ?_⟩))
    show (!goodWord w) = true
    cases hgw : goodWord w
    · rfl
    · exact absurd hgw g
theorem vx_c {args : Array Value} {s : State} {w : Cond} {B : List Cond} (h : w.before args s = true) (t : ∀ w ∈ B, w.before args s = true) : ∀ w' ∈ w :: B, w'.before args s = true := fun w' h' => (List.mem_cons.mp h').elim (fun e => by rw [e]; exact h) (t w')
theorem vx_n {args : Array Value} {s : State} : ∀ w ∈ ([] : List Cond), w.before args s = true := fun _ h => nomatch h
theorem vx_own {args : Array Value} {s : State} {L : List Cond} (h1 : ∀ w ∈ L.filter vx_no, w.before args s = true)
    (hU : (Cond.isRef (.static Bundle.tN "UNASSIGNED_STACK" Bundle.steD)).before args s = true) (hN : (Cond.isRef (.static Bundle.tN "SUPPRESSED_SENTINEL" Bundle.listD)).before args s = true)
    (lU : (Cond.laysStatic Bundle.tN "UNASSIGNED_STACK" Bundle.steD).before args s = true) (lN : (Cond.laysStatic Bundle.tN "SUPPRESSED_SENTINEL" Bundle.listD).before args s = true) : ∀ w ∈ L, w.before args s = true := by
  intro w hw
  by_cases e1 : w = .isRef (.static Bundle.tN "UNASSIGNED_STACK" Bundle.steD)
  · rw [e1]; exact hU
  · by_cases e2 : w = .isRef (.static Bundle.tN "SUPPRESSED_SENTINEL" Bundle.listD)
    · rw [e2]; exact hN
    · by_cases e3 : w = .laysStatic Bundle.tN "UNASSIGNED_STACK" Bundle.steD
      · rw [e3]; exact lU
      · by_cases e4 : w = .laysStatic Bundle.tN "SUPPRESSED_SENTINEL" Bundle.listD
        · rw [e4]; exact lN
        · exact h1 w (List.mem_filter.mpr ⟨hw, by unfold vx_no; rw [decide_eq_true e1, decide_eq_true e2, decide_eq_true e3, decide_eq_true e4]; rfl⟩)
/-- where a static field lies, its class's statics cell in H -/
def vx_L (C n d : String) (A : Nat → Prop) (U : State) (H : Heap) : Prop := ∃ (c : ClassId) (k : Class) (i : Nat) (f : Field) (a : Nat) (cell : Cell), U.vm.findClass C = some c ∧ U.fieldFound? C n d = some (c, k, i, f) ∧ f.isStatic = true ∧ k.statics = some a ∧ H[a]? = some cell ∧ cell.vm.isStatics = true ∧ cell.cls = c ∧ f.slot < cell.slots.size ∧ k.staticTypes[f.slot]? = some f.type ∧ ¬ A a
theorem vx_L.moved {C n d : String} {A : Nat → Prop} {u U : State} {H : Heap} (hvm : u.vm.Alike U.vm) (h : vx_L C n d A u H) : vx_L C n d A U H := by
  obtain ⟨c, k, i, f, a, cell, h1, h2, h3, h4, h5, h6, h7, h8, h9, h10⟩ := h
  obtain ⟨k', hi', he⟩ := State.fieldFound?_setVm hvm h2
  exact ⟨c, k', i, f, a, cell, by rw [hvm.findClass]; exact h1, hi', h3, by rw [he]; exact h4, h5, h6, h7, h8, by rw [he]; exact h9, h10⟩
theorem vx_L.kept {C n d : String} {A : Nat → Prop} {U : State} {H H1 : Heap} (h : vx_L C n d A U H) (hq : ∀ a : Nat, a < H.size → ¬ A a → H1[a]? = H[a]?) : vx_L C n d A U H1 := by
  obtain ⟨c, k, i, f, a, cell, h1, h2, h3, h4, h5, h6, h7, h8, h9, h10⟩ := h
  exact ⟨c, k, i, f, a, cell, h1, h2, h3, h4, by rw [hq a (Array.getElem?_eq_some_iff.mp h5).1 h10]; exact h5, h6, h7, h8, h9, h10⟩
theorem vx_L.narrow {C n d : String} {A B : Nat → Prop} {U : State} {H : Heap} (h : vx_L C n d A U H) (hAB : ∀ q, B q → A q) : vx_L C n d B U H := by
  obtain ⟨c, k, i, f, a, cell, h1, h2, h3, h4, h5, h6, h7, h8, h9, h10⟩ := h
  exact ⟨c, k, i, f, a, cell, h1, h2, h3, h4, h5, h6, h7, h8, h9, fun z => h10 (hAB _ z)⟩
theorem vx_L.word {C n d : String} {A : Nat → Prop} {s : State} {args : Array Value} (h : vx_L C n d A s s.heap) : (Cond.laysStatic C n d).before args s = true := by
  obtain ⟨c, k, i, f, a, cell, h1, h2, h3, h4, h5, h6, h7, h8, h9, -⟩ := h
  show (Cond.laysStatic C n d).holds args s none s [] = true
  exact Cond.laysStatic_of h1 h2 h3 h4 h5 h6 h7 h8 h9
/-- .. and what it holds: null or some reference -/
def vx_Zq (C n d : String) (A : Nat → Prop) (U : State) (H : Heap) : Prop := va_Zq C n d A U H ∧ vx_L C n d A U H
theorem vx_Zq.moved {C n d : String} {A : Nat → Prop} {u U : State} {H : Heap} (hvm : u.vm.Alike U.vm) (h : vx_Zq C n d A u H) : vx_Zq C n d A U H := ⟨va_Zq.moved hvm h.1, vx_L.moved hvm h.2⟩
theorem vx_Zq.kept {C n d : String} {A : Nat → Prop} {U : State} {H H1 : Heap} (h : vx_Zq C n d A U H) (hq : ∀ a : Nat, a < H.size → ¬ A a → H1[a]? = H[a]?) : vx_Zq C n d A U H1 := ⟨va_Zq.kept h.1 hq, vx_L.kept h.2 hq⟩
theorem vx_Zq.narrow {C n d : String} {A B : Nat → Prop} {U : State} {H : Heap} (h : vx_Zq C n d A U H) (hAB : ∀ q, B q → A q) : vx_Zq C n d B U H := ⟨va_Zq.narrow h.1 hAB, vx_L.narrow h.2 hAB⟩
theorem vx_Zqof {args : Array Value} {s : State} {C n d : String} {A : Nat → Prop} (hl : (Cond.laysStatic C n d).before args s = true) (hini : (Cond.initialized C).before args s = true) (h : (Cond.isRef (.static C n d)).before args s = true) (hA : ∀ a : Nat, a < s.heap.size → ¬ A a) : vx_Zq C n d A s s.heap := by
  refine ⟨va_Zqof hl hini h hA, ?_⟩
  obtain ⟨c, k, i, f, a, cell, h1, h2, h3, h4, h5, h6, h7, h8, h9⟩ := Cond.laysStatic_spec hl
  exact ⟨c, k, i, f, a, cell, h1, h2, h3, h4, h5, h6, h7, h8, h9, hA a (Array.getElem?_eq_some_iff.mp h5).1⟩
theorem vx_isRef {C n d : String} {v : Value} {A : Nat → Prop} {s : State} {args : Array Value} (h : va_Z C n d v A s s.heap) (hv : v.isRef = true) : (Cond.isRef (.static C n d)).before args s = true := by
  obtain ⟨cf, kf, fi, f, a, cell, h1, h2, h3, h4, h5, h6, h7, -⟩ := h
  have he : (Term.static C n d).eval args s none [] s = some v := by
    simp [Term.eval, State.fieldNamed?, h1, h2, h4, h5, h6, h7]
  simp only [Cond.before, Cond.holds, Cond.value, he]
  cases v <;> simp_all [Value.isRef]
theorem vx_isRefq {C n d : String} {A : Nat → Prop} {s : State} {args : Array Value} (h : va_Zq C n d A s s.heap) : (Cond.isRef (.static C n d)).before args s = true := by
  rcases h with h | ⟨t, h⟩
  · exact vx_isRef h rfl
  · exact vx_isRef h rfl
/-- the same frame, seen from here: as if the method were called anew in this heap -/
theorem vx_rebase {T : State} (X : Stand p l e R s m args below meth c T locs cells slots) {R' : Room} (hf : R'.frames ≤ R.frames) (hl : R'.locals ≤ R.locals) (hc : cells + R'.cells ≤ R.cells) (hs : slots + R'.slots ≤ R.slots) :
    Stand p l e R' ((T.setVm s.vm).setFrames (.invoking m args :: below)) m args below meth c T [] 0 0 := by
  have htop : (T.setVm s.vm).topJava?.isSome := X.here.top
  have hF : ((T.setVm s.vm).setFrames (.invoking m args :: below)).frames = .invoking m args :: below := State.frames_setFrames _ (State.cur_lt_of_top htop)
  obtain ⟨g₀, hg0⟩ := Option.isSome_iff_exists.mp htop
  obtain ⟨r, hr⟩ := State.topJava?_eq_some.mp hg0
  have hl9 : e.platform.stackLimits (T.setVm s.vm).me = e.platform.stackLimits s.me := X.limits
  have hb9 : (T.setVm s.vm).me.stackBytes = s.me.stackBytes := X.bytes
  refine ⟨X.admits, X.cas, X.clock, hF, ?_, X.hears, X.method, X.code, X.here, X.tail, X.warmed, ?_, ?_, ?_⟩
  · have h := X.room
    have hU : ((T.setVm s.vm).setFrames (.invoking m args :: below)).localsInUse = s.localsInUse := by
      rw [State.localsInUse_invoking hF (meth := meth) (c := c) X.method X.code, State.localsInUse_invoking X.frames X.method X.code]
    simp only [State.hasRoom, Bool.and_eq_true, decide_eq_true_eq] at h ⊢
    obtain ⟨⟨⟨⟨h1, h2, h3, h4, h5, h6⟩, h7⟩, h8⟩, h9⟩ := h
    rw [X.frames, List.length_cons] at h2 h3
    have q1 := X.heapSize
    have q2 := X.used
    simp only [hF, hU, List.length_cons, State.stackLimits_setFrames, State.stackBytes_setFrames, hl9, hb9]
    refine ⟨⟨⟨⟨by omega, by omega, by omega, by omega, by omega, h6⟩, ?_⟩, ?_⟩, X.book⟩
    · show T.heap.size + R'.cells ≤ e.platform.maxCells
      omega
    · show T.slotsUsed + R'.slots ≤ e.platform.maxSlots
      omega
  · rw [State.stackLimits_setFrames]; rfl
  · rw [State.stackBytes_setFrames]; rfl
  · refine ⟨?_, Nat.le_refl _, Nat.le_refl _, ?_, ?_, fun a c9 h9 => ⟨c9, h9, rfl, rfl, fun _ _ => rfl⟩⟩
    · obtain ⟨t, ht, -⟩ := State.frames_cons hr
      show T.setVm s.vm = { ((T.setVm s.vm).setFrames (.invoking m args :: below)).setFrames (T.setVm s.vm).frames with heap := T.heap, slotsUsed := T.slotsUsed }
      rw [State.setFrames_setFrames, State.setFrames_self ht]
      rfl
    · show T.slotsUsed = T.slotsUsed + ((T.heap.toList.drop T.heap.size).map (·.slots.size)).sum
      rw [List.drop_eq_nil_of_le (Nat.le_of_eq Array.length_toList)]
      rfl
    · show ((T.heap.toList.drop T.heap.size).map (·.slots.size)).sum ≤ 0
      rw [List.drop_eq_nil_of_le (Nat.le_of_eq Array.length_toList)]
      exact Nat.le_refl _
/-- 'throw new E()': new; dup; invokespecial; athrow -/
theorem vx_throw0 {cc : ByteArray} {pc : Nat} (hexec : p.tables.exec = Jvm.exec) (hb : c.code = cc) (hl : l.stackTraces = false) {own cls : String} {names : List String} {ik ic mc ms : Nat} {A : Nat → Prop}
    (hown : s.vm.findClass own = some m.cls) (hcls : Bundle.fit cls = true) (hnames : ∀ n ∈ names, Bundle.fit n = true)
    (hk : (Cond.classLink own ik cls).before args s = true) (hini : (Cond.initialized cls).before args s = true) (hat : ∀ w ∈ vx_at0 own ic cls names, w.before args s = true)
    (hgood : ∀ w ∈ Cond.classLink own ik cls :: Cond.initialized cls :: vx_at0 own ic cls names, vx_ot w = true)
    (hU : vx_Zq Bundle.tN "UNASSIGNED_STACK" Bundle.steD A s s.heap) (hN : vx_Zq Bundle.tN "SUPPRESSED_SENTINEL" Bundle.listD A s s.heap) (hS : va_S A s.heap H locs) (hsize : ls.size = c.maxLocals)
    (d0 : decode cc pc = .ok (.new ik, 3)) (d3 : decode cc (pc + 3) = .ok (.dup, 1)) (d4 : decode cc (pc + 4) = .ok (.invokespecial ic, 3)) (d7 : decode cc (pc + 7) = .ok (.athrow, 1))
    (hout : ∀ x ∈ c.exceptionTable.toList, covers x (pc + 7) = false)
    (hRframes : names.length + 3 < R.frames) (hRlocals : (rest.map fun v => v.category).sum + (13 * (names.length + 1) + 42) ≤ R.locals) (hRcells : cells + 1 ≤ R.cells) (hRslots : slots + 6 ≤ R.slots) (hlocks : meth.locks = false)
    (hx : ∀ t : State, s.vm.Alike t.vm → H.size ≤ t.heap.size → (∀ q : Nat, q < H.size → t.heap[q]? = H[q]?) → XC cls s t)
    (hf : ∀ z ∈ locs, free z.base) (hc : cells + 1 ≤ mc) (hs : slots + 6 ≤ ms) :
    W p l e R s m args below meth c H locs cells slots (vx_MQ below Qc XC args s mc ms free) (F0 m pc ls rest) := by
  intro T hT X
  have htr : e.platform.stackTraces = false := (show e.platform.stackTraces = l.stackTraces by rw [X.admits.platform]).trans hl
  have Y := vx_rebase X (R' := { frames := R.frames, locals := R.locals, cells := 1, slots := 6 }) (Nat.le_refl _) (Nat.le_refl _) hRcells hRslots
  obtain ⟨s', hA⟩ : ∃ z, z = (T.setVm s.vm).setFrames (.invoking m args :: below) := ⟨_, rfl⟩
  rw [← hA] at Y
  have hvm : s'.vm = s.vm := by rw [hA]; rfl
  have hhp : s'.heap = H := by rw [hA]; exact hT
  have hW0 : s.WarmedH s'.vm := by rw [hvm]; exact State.WarmedH.refl s
  have hat' : ∀ w ∈ vx_at0 own ic cls names, w.before args s' = true := fun w hw => vx_ot_at hW0 hvm.symm (hgood w (List.mem_cons_of_mem _ (List.mem_cons_of_mem _ hw))) (hat w hw)
  have hk' : (Cond.classLink own ik cls).before args s' = true := vx_ot_at hW0 hvm.symm (hgood _ List.mem_cons_self) hk
  have hini' : (Cond.initialized cls).before args s' = true := vx_ot_at hW0 hvm.symm (hgood _ (List.mem_cons_of_mem _ List.mem_cons_self)) hini
  have hU' : vx_Zq Bundle.tN "UNASSIGNED_STACK" Bundle.steD A s' s'.heap := by rw [hhp]; exact vx_Zq.moved hW0.alike (hU.kept hS.2.1)
  have hN' : vx_Zq Bundle.tN "SUPPRESSED_SENTINEL" Bundle.listD A s' s'.heap := by rw [hhp]; exact vx_Zq.moved hW0.alike (hN.kept hS.2.1)
  have h : ∀ w ∈ Bundle.ownAtoms0 own ic cls names, w.before args s' = true := vx_own hat' (vx_isRefq hU'.1) (vx_isRefq hN'.1) hU'.2.word hN'.2.word
  have hown' : s'.vm.findClass own = some m.cls := by rw [hvm]; exact hown
  have hins : (Cond.instantiable cls 6).before args s' = true := h _ (by simp [Bundle.ownAtoms0])
  obtain ⟨vm₁, cX, kX, hfX, hkX, -, -, X₁, st1⟩ := Y.newCold hexec (own := own) (C := cls) (index := ik) (n := 6) hown' hk' hins hini'
    (g := F0 m pc ls rest) rfl (by rw [hb]; exact d0) (Nat.le_refl _) (Nat.le_refl _)
  generalize hT1 : (T.setVm vm₁).pushCell { cls := cX, slots := kX.instanceTypes.map defaultValue, vm := .none } = T1 at X₁ st1
  have hcat : (Value.ref T.heap.size).category = 1 := rfl
  have hcellA : T1.heap[T.heap.size]? = some (freshCell cX kX) := by rw [← hT1]; exact State.heap_pushCell_size _ _
  have d3' : decode c.code (pc + 3) = .ok (.dup, 1) := by rw [hb]; exact d3
  obtain ⟨U, hsteps, hrun, hend, hW, hsame, ce, hce, hO⟩ := X₁.ctorThrow0 hexec htr (own := own) (cls := cls) (names := names) (ic := ic) hown' hcls hnames h (fun x hx => nomatch hx) hfX hkX hcellA (by rw [hhp, hT]; exact Nat.le_refl _)
    (g := { method := m, pc := pc + 4, locals := ls, stack := .ref T.heap.size :: .ref T.heap.size :: rest, locked := none }) rfl hsize rfl rfl (rest := rest) rfl
    (by rw [hb]; exact d4) (by rw [hb]; exact d7) hout hRframes (by simp only [List.map_cons, List.sum_cons, hcat]; omega) hlocks
  obtain ⟨f1, f2⟩ := vx_frame hsame
  rw [hhp] at f1 f2
  have hWs : s.WarmedH U.vm := State.WarmedH.trans hW0 hW
  have hcl : s.vm.findClass cls = some ce.cls := by
    have h9 := hO.cls
    rw [hvm] at h9
    exact h9
  have hall : s.sameButNew ({ U with vm := s.vm } : State) locs mc ms := by
    subst hA
    obtain ⟨e1, e2⟩ := hsame
    rw [State.setFrames_setFrames] at e1
    have h2 : (T.setVm s.vm).sameButNew ({ U with vm := s.vm } : State) [] (0 + 1) (0 + 6) := ⟨e1, e2⟩
    have h3 := X.same.trans h2
    rw [List.append_nil] at h3
    exact h3.mono hc hs
  refine ⟨U, ?_, .threw T.heap.size, hrun, hend, Or.inr ⟨T.heap.size, rfl, cls, ce, locs, hx U hWs.alike f1 (fun q hq => f2 q hq (fun z hz => nomatch hz)), hce, hO.vm, hcl, hWs, hall, hf⟩⟩
  refine st1 _ ?_
  show Steps p.tables e below (T1.setTop { method := m, pc := pc + 3, locals := ls, stack := .ref T.heap.size :: rest, locked := none }) _
  jvm_step X₁.here [X₁.here.top, hexec, d3', Value.category]
  exact hsteps
/-- 'throw new E("text")': new; dup; ldc; invokespecial; athrow -/
theorem vx_throwS {cc : ByteArray} {pc : Nat} (hexec : p.tables.exec = Jvm.exec) (hb : c.code = cc) (hl : l.stackTraces = false) {own cls text : String} {names : List String} {ik is ic mc ms sa : Nat} {A : Nat → Prop}
    (hown : s.vm.findClass own = some m.cls) (hcls : Bundle.fit cls = true) (hnames : ∀ n ∈ names, Bundle.fit n = true)
    (hk : (Cond.classLink own ik cls).before args s = true) (hini : (Cond.initialized cls).before args s = true) (hstr : vk_R own is text sa s) (hat : ∀ w ∈ vx_atS own ic cls names, w.before args s = true)
    (hgood : ∀ w ∈ Cond.classLink own ik cls :: Cond.initialized cls :: vx_atS own ic cls names, vx_ot w = true)
    (hU : vx_Zq Bundle.tN "UNASSIGNED_STACK" Bundle.steD A s s.heap) (hN : vx_Zq Bundle.tN "SUPPRESSED_SENTINEL" Bundle.listD A s s.heap) (hS : va_S A s.heap H locs) (hsize : ls.size = c.maxLocals)
    (d0 : decode cc pc = .ok (.new ik, 3)) (d3 : decode cc (pc + 3) = .ok (.dup, 1)) (d4 : decode cc (pc + 4) = .ok (.ldc is, 2)) (d6 : decode cc (pc + 6) = .ok (.invokespecial ic, 3)) (d9 : decode cc (pc + 9) = .ok (.athrow, 1))
    (hout : ∀ x ∈ c.exceptionTable.toList, covers x (pc + 9) = false)
    (hRframes : names.length + 3 < R.frames) (hRlocals : (rest.map fun v => v.category).sum + (13 * (names.length + 1) + 43) ≤ R.locals) (hRcells : cells + 1 ≤ R.cells) (hRslots : slots + 6 ≤ R.slots) (hlocks : meth.locks = false)
    (hx : ∀ t : State, s.vm.Alike t.vm → H.size ≤ t.heap.size → (∀ q : Nat, q < H.size → t.heap[q]? = H[q]?) → XC cls s t)
    (hf : ∀ z ∈ locs, free z.base) (hc : cells + 1 ≤ mc) (hs : slots + 6 ≤ ms) :
    W p l e R s m args below meth c H locs cells slots (vx_MQ below Qc XC args s mc ms free) (F0 m pc ls rest) := by
  intro T hT X
  have htr : e.platform.stackTraces = false := (show e.platform.stackTraces = l.stackTraces by rw [X.admits.platform]).trans hl
  have Y := vx_rebase X (R' := { frames := R.frames, locals := R.locals, cells := 1, slots := 6 }) (Nat.le_refl _) (Nat.le_refl _) hRcells hRslots
  obtain ⟨s', hA⟩ : ∃ z, z = (T.setVm s.vm).setFrames (.invoking m args :: below) := ⟨_, rfl⟩
  rw [← hA] at Y
  have hvm : s'.vm = s.vm := by rw [hA]; rfl
  have hhp : s'.heap = H := by rw [hA]; exact hT
  have hW0 : s.WarmedH s'.vm := by rw [hvm]; exact State.WarmedH.refl s
  have hat' : ∀ w ∈ vx_atS own ic cls names, w.before args s' = true := fun w hw => vx_ot_at hW0 hvm.symm (hgood w (List.mem_cons_of_mem _ (List.mem_cons_of_mem _ hw))) (hat w hw)
  have hk' : (Cond.classLink own ik cls).before args s' = true := vx_ot_at hW0 hvm.symm (hgood _ List.mem_cons_self) hk
  have hini' : (Cond.initialized cls).before args s' = true := vx_ot_at hW0 hvm.symm (hgood _ (List.mem_cons_of_mem _ List.mem_cons_self)) hini
  have hU' : vx_Zq Bundle.tN "UNASSIGNED_STACK" Bundle.steD A s' s'.heap := by rw [hhp]; exact vx_Zq.moved hW0.alike (hU.kept hS.2.1)
  have hN' : vx_Zq Bundle.tN "SUPPRESSED_SENTINEL" Bundle.listD A s' s'.heap := by rw [hhp]; exact vx_Zq.moved hW0.alike (hN.kept hS.2.1)
  have h : ∀ w ∈ Bundle.ownAtoms own ic cls names, w.before args s' = true := vx_own hat' (vx_isRefq hU'.1) (vx_isRefq hN'.1) hU'.2.word hN'.2.word
  have hown' : s'.vm.findClass own = some m.cls := by rw [hvm]; exact hown
  have hins : (Cond.instantiable cls 6).before args s' = true := h _ (by simp [Bundle.ownAtoms])
  obtain ⟨vm₁, cX, kX, hfX, hkX, -, -, X₁, st1⟩ := Y.newCold hexec (own := own) (C := cls) (index := ik) (n := 6) hown' hk' hins hini'
    (g := F0 m pc ls rest) rfl (by rw [hb]; exact d0) (Nat.le_refl _) (Nat.le_refl _)
  generalize hT1 : (T.setVm vm₁).pushCell { cls := cX, slots := kX.instanceTypes.map defaultValue, vm := .none } = T1 at X₁ st1
  have hcat : (Value.ref T.heap.size).category = 1 := rfl
  have hcellA : T1.heap[T.heap.size]? = some (freshCell cX kX) := by rw [← hT1]; exact State.heap_pushCell_size _ _
  have d3' : decode c.code (pc + 3) = .ok (.dup, 1) := by rw [hb]; exact d3
  have d4' : decode c.code (pc + 4) = .ok (.ldc is, 2) := by rw [hb]; exact d4
  have hstr' : vk_R own is text sa s' := vk_R.warm hW0 hstr
  obtain ⟨U, hsteps, hrun, hend, hW, hsame, ce, hce, hO⟩ := X₁.ctorThrowS hexec htr (own := own) (cls := cls) (names := names) (ic := ic) hown' hcls hnames h (fun x hx => nomatch hx) hfX hkX hcellA (by rw [hhp, hT]; exact Nat.le_refl _) (msg := .ref sa) rfl
    (g := { method := m, pc := pc + 6, locals := ls, stack := .ref sa :: .ref T.heap.size :: .ref T.heap.size :: rest, locked := none }) rfl hsize rfl rfl (rest := rest) rfl
    (by rw [hb]; exact d6) (by rw [hb]; exact d9) hout hRframes (by simp only [List.map_cons, List.sum_cons, hcat]; omega) hlocks
  obtain ⟨f1, f2⟩ := vx_frame hsame
  rw [hhp] at f1 f2
  have hWs : s.WarmedH U.vm := State.WarmedH.trans hW0 hW
  have hcl : s.vm.findClass cls = some ce.cls := by
    have h9 := hO.cls
    rw [hvm] at h9
    exact h9
  have hall : s.sameButNew ({ U with vm := s.vm } : State) locs mc ms := by
    subst hA
    obtain ⟨e1, e2⟩ := hsame
    rw [State.setFrames_setFrames] at e1
    have h2 : (T.setVm s.vm).sameButNew ({ U with vm := s.vm } : State) [] (0 + 1) (0 + 6) := ⟨e1, e2⟩
    have h3 := X.same.trans h2
    rw [List.append_nil] at h3
    exact h3.mono hc hs
  refine ⟨U, ?_, .threw T.heap.size, hrun, hend, Or.inr ⟨T.heap.size, rfl, cls, ce, locs, hx U hWs.alike f1 (fun q hq => f2 q hq (fun z hz => nomatch hz)), hce, hO.vm, hcl, hWs, hall, hf⟩⟩
  refine st1 _ ?_
  show Steps p.tables e below (T1.setTop { method := m, pc := pc + 3, locals := ls, stack := .ref T.heap.size :: rest, locked := none }) _
  jvm_step X₁.here [X₁.here.top, hexec, d3', Value.category]
  exact X₁.ldcString hexec (own := own) (text := text) (index := is) (a := sa) hown' hstr'.1 hstr'.2
    (g := { method := m, pc := pc + 4, locals := ls, stack := .ref T.heap.size :: .ref T.heap.size :: rest, locked := none }) rfl d4' _ hsteps
/-- 'throw new E("text")', the text by a wide index -/
theorem vx_throwSW {cc : ByteArray} {pc : Nat} (hexec : p.tables.exec = Jvm.exec) (hb : c.code = cc) (hl : l.stackTraces = false) {own cls text : String} {names : List String} {ik is ic mc ms sa : Nat} {A : Nat → Prop}
    (hown : s.vm.findClass own = some m.cls) (hcls : Bundle.fit cls = true) (hnames : ∀ n ∈ names, Bundle.fit n = true)
    (hk : (Cond.classLink own ik cls).before args s = true) (hini : (Cond.initialized cls).before args s = true) (hstr : vk_R own is text sa s) (hat : ∀ w ∈ vx_atS own ic cls names, w.before args s = true)
    (hgood : ∀ w ∈ Cond.classLink own ik cls :: Cond.initialized cls :: vx_atS own ic cls names, vx_ot w = true)
    (hU : vx_Zq Bundle.tN "UNASSIGNED_STACK" Bundle.steD A s s.heap) (hN : vx_Zq Bundle.tN "SUPPRESSED_SENTINEL" Bundle.listD A s s.heap) (hS : va_S A s.heap H locs) (hsize : ls.size = c.maxLocals)
    (d0 : decode cc pc = .ok (.new ik, 3)) (d3 : decode cc (pc + 3) = .ok (.dup, 1)) (d4 : decode cc (pc + 4) = .ok (.ldc_w is, 3)) (d7 : decode cc (pc + 7) = .ok (.invokespecial ic, 3)) (d10 : decode cc (pc + 10) = .ok (.athrow, 1))
    (hout : ∀ x ∈ c.exceptionTable.toList, covers x (pc + 10) = false)
    (hRframes : names.length + 3 < R.frames) (hRlocals : (rest.map fun v => v.category).sum + (13 * (names.length + 1) + 43) ≤ R.locals) (hRcells : cells + 1 ≤ R.cells) (hRslots : slots + 6 ≤ R.slots) (hlocks : meth.locks = false)
    (hx : ∀ t : State, s.vm.Alike t.vm → H.size ≤ t.heap.size → (∀ q : Nat, q < H.size → t.heap[q]? = H[q]?) → XC cls s t)
    (hf : ∀ z ∈ locs, free z.base) (hc : cells + 1 ≤ mc) (hs : slots + 6 ≤ ms) :
    W p l e R s m args below meth c H locs cells slots (vx_MQ below Qc XC args s mc ms free) (F0 m pc ls rest) := by
  intro T hT X
  have htr : e.platform.stackTraces = false := (show e.platform.stackTraces = l.stackTraces by rw [X.admits.platform]).trans hl
  have Y := vx_rebase X (R' := { frames := R.frames, locals := R.locals, cells := 1, slots := 6 }) (Nat.le_refl _) (Nat.le_refl _) hRcells hRslots
  obtain ⟨s', hA⟩ : ∃ z, z = (T.setVm s.vm).setFrames (.invoking m args :: below) := ⟨_, rfl⟩
  rw [← hA] at Y
  have hvm : s'.vm = s.vm := by rw [hA]; rfl
  have hhp : s'.heap = H := by rw [hA]; exact hT
  have hW0 : s.WarmedH s'.vm := by rw [hvm]; exact State.WarmedH.refl s
  have hat' : ∀ w ∈ vx_atS own ic cls names, w.before args s' = true := fun w hw => vx_ot_at hW0 hvm.symm (hgood w (List.mem_cons_of_mem _ (List.mem_cons_of_mem _ hw))) (hat w hw)
  have hk' : (Cond.classLink own ik cls).before args s' = true := vx_ot_at hW0 hvm.symm (hgood _ List.mem_cons_self) hk
  have hini' : (Cond.initialized cls).before args s' = true := vx_ot_at hW0 hvm.symm (hgood _ (List.mem_cons_of_mem _ List.mem_cons_self)) hini
  have hU' : vx_Zq Bundle.tN "UNASSIGNED_STACK" Bundle.steD A s' s'.heap := by rw [hhp]; exact vx_Zq.moved hW0.alike (hU.kept hS.2.1)
  have hN' : vx_Zq Bundle.tN "SUPPRESSED_SENTINEL" Bundle.listD A s' s'.heap := by rw [hhp]; exact vx_Zq.moved hW0.alike (hN.kept hS.2.1)
  have h : ∀ w ∈ Bundle.ownAtoms own ic cls names, w.before args s' = true := vx_own hat' (vx_isRefq hU'.1) (vx_isRefq hN'.1) hU'.2.word hN'.2.word
  have hown' : s'.vm.findClass own = some m.cls := by rw [hvm]; exact hown
  have hins : (Cond.instantiable cls 6).before args s' = true := h _ (by simp [Bundle.ownAtoms])
  obtain ⟨vm₁, cX, kX, hfX, hkX, -, -, X₁, st1⟩ := Y.newCold hexec (own := own) (C := cls) (index := ik) (n := 6) hown' hk' hins hini'
    (g := F0 m pc ls rest) rfl (by rw [hb]; exact d0) (Nat.le_refl _) (Nat.le_refl _)
  generalize hT1 : (T.setVm vm₁).pushCell { cls := cX, slots := kX.instanceTypes.map defaultValue, vm := .none } = T1 at X₁ st1
  have hcat : (Value.ref T.heap.size).category = 1 := rfl
  have hcellA : T1.heap[T.heap.size]? = some (freshCell cX kX) := by rw [← hT1]; exact State.heap_pushCell_size _ _
  have d3' : decode c.code (pc + 3) = .ok (.dup, 1) := by rw [hb]; exact d3
  have d4' : decode c.code (pc + 4) = .ok (.ldc_w is, 3) := by rw [hb]; exact d4
  have hstr' : vk_R own is text sa s' := vk_R.warm hW0 hstr
  obtain ⟨U, hsteps, hrun, hend, hW, hsame, ce, hce, hO⟩ := X₁.ctorThrowS hexec htr (own := own) (cls := cls) (names := names) (ic := ic) hown' hcls hnames h (fun x hx => nomatch hx) hfX hkX hcellA (by rw [hhp, hT]; exact Nat.le_refl _) (msg := .ref sa) rfl
    (g := { method := m, pc := pc + 7, locals := ls, stack := .ref sa :: .ref T.heap.size :: .ref T.heap.size :: rest, locked := none }) rfl hsize rfl rfl (rest := rest) rfl
    (by rw [hb]; exact d7) (by rw [hb]; exact d10) hout hRframes (by simp only [List.map_cons, List.sum_cons, hcat]; omega) hlocks
  obtain ⟨f1, f2⟩ := vx_frame hsame
  rw [hhp] at f1 f2
  have hWs : s.WarmedH U.vm := State.WarmedH.trans hW0 hW
  have hcl : s.vm.findClass cls = some ce.cls := by
    have h9 := hO.cls
    rw [hvm] at h9
    exact h9
  have hall : s.sameButNew ({ U with vm := s.vm } : State) locs mc ms := by
    subst hA
    obtain ⟨e1, e2⟩ := hsame
    rw [State.setFrames_setFrames] at e1
    have h2 : (T.setVm s.vm).sameButNew ({ U with vm := s.vm } : State) [] (0 + 1) (0 + 6) := ⟨e1, e2⟩
    have h3 := X.same.trans h2
    rw [List.append_nil] at h3
    exact h3.mono hc hs
  refine ⟨U, ?_, .threw T.heap.size, hrun, hend, Or.inr ⟨T.heap.size, rfl, cls, ce, locs, hx U hWs.alike f1 (fun q hq => f2 q hq (fun z hz => nomatch hz)), hce, hO.vm, hcl, hWs, hall, hf⟩⟩
  refine st1 _ ?_
  show Steps p.tables e below (T1.setTop { method := m, pc := pc + 3, locals := ls, stack := .ref T.heap.size :: rest, locked := none }) _
  jvm_step X₁.here [X₁.here.top, hexec, d3', Value.category]
  exact X₁.ldcStringW hexec (own := own) (text := text) (index := is) (a := sa) hown' hstr'.1 hstr'.2
    (g := { method := m, pc := pc + 4, locals := ls, stack := .ref T.heap.size :: .ref T.heap.size :: rest, locked := none }) rfl d4' _ hsteps
end Ends
section Bodies
variable {l : Launch}
theorem vx_ofW {y : MethodName} {ws ws' : List Cond} {rm : Room} {Pc : Array Value → State → Prop} {Qc : Array Value → State → Outcome → State → Prop} {XC : String → State → State → Prop} {mc ms : Nat} {free : Addr → Prop} {cc : ByteArray} {maxL : Nat} {ret : Option FieldType}
    (hy : plainName y.cls = true) (hw : ws = Cond.code y cc maxL ret :: ws')
    (body : ∀ p e s m args below meth c s₁, BodyLoose p l y (headSpec ws rm) cc maxL ret e s m args below meth c s₁ → c.maxLocals = maxL → (∀ x ∈ c.exceptionTable.toList, False) → Pc args s →
      W p l e (headSpec ws rm).room s m args below meth c s.heap [] 0 0 (vx_MQ below Qc XC args s mc ms free) (entryFrame m args maxL)) : vx_Met l y ws rm Pc Qc XC mc ms free := by
  refine MetFree.of_bodyS (code := cc) (maxLocals := maxL) (ret := ret) hy ?_ ?_
  · intro args s m h hn
    obtain ⟨meth, c, h1, h2, h3, h4, h5, h6, -, -⟩ := Cond.code_spec hn (atoms_spec (ws := ws) h _ (by rw [hw]; exact List.mem_cons_self))
    exact ⟨meth, c, h1, h2, h3, h4, h5, h6⟩
  · intro p e s m args below meth c s₁ B hml hP _
    have hh0 : s₁.heap = s.heap := by rw [B.state]; rfl
    have ht : ∀ x ∈ c.exceptionTable.toList, False := by
      obtain ⟨meth9, c9, h1, h2, -, -, -, -, h7, -⟩ := Cond.code_spec B.named (atoms_spec (ws := ws) B.pre _ (by rw [hw]; exact List.mem_cons_self))
      cases Option.some.inj (h1.symm.trans B.method)
      cases Option.some.inj (h2.symm.trans (Stand.of_body B).code)
      intro x hx
      rw [Array.isEmpty_iff.mp h7] at hx
      cases hx
    obtain ⟨t, a1, o, b1, b2, b3⟩ := body p e s m args below meth c s₁ B hml ht hP s₁ hh0 (Stand.of_body B)
    exact ⟨t, o, a1, b1, b2, b3⟩
/-- the table of a body with handlers -/
theorem vx_table {p : Program} {x y : MethodName} {S : Spec} {cc bytes : ByteArray} {maxL maxL' : Nat} {ret ret' : Option FieldType} {e : Env} {s s₁ : State} {m : MethodId} {args : Array Value} {below : List Frame} {meth : Method} {c : Code} {hh : List (Nat × Nat × Nat × Nat)}
    (B : BodyLoose p l y S cc maxL ret e s m args below meth c s₁) (h : (Cond.codeWith y bytes maxL' ret' hh).before args s = true) : c.exceptionTable.toList = tableOf hh := by
  obtain ⟨m9, meth9, c9, hn9, h1, h2, -, -, h6, -⟩ := Cond.codeWith_spec h
  cases Option.some.inj (hn9.symm.trans B.named)
  cases Option.some.inj (h1.symm.trans B.method)
  cases Option.some.inj (h2.symm.trans (Stand.of_body B).code)
  rw [← h6, table_eq]
end Bodies
end VXA
/-! ===== END ===== -/
/-! ===== BEGIN a static call of a method with an exception table ===== -/
section VXS
variable {p : Program} {l : Launch} {e : Env} {R : Room} {s : State} {m : MethodId} {args : Array Value} {below : List Frame} {meth : Method} {c : Code} {T : State} {H : Heap} {locs : List Loc} {cells slots : Nat}
abbrev vx_CSW (R : Room) (s : State) (args : Array Value) (own : String) (index : Nat) (y : MethodName) (bytes : ByteArray) (maxL : Nat) (ret : Option FieldType) (hh : List (Nat × Nat × Nat × Nat)) (ws : List Cond) (rm : Room) (mc ms n : Nat) : Prop :=
  (rm.cells = mc ∧ rm.slots = ms ∧ rm.frames + 1 ≤ R.frames ∧ 8 + (maxL + 11) + rm.locals ≤ R.locals ∧ (∀ w ∈ ws, ∀ (a' : Array Value) (U : State), s.WarmedH U.vm → w.before a' U = true) ∧ Cond.codeWith y bytes maxL ret hh ∈ ws) ∧
  (Cond.codeWith y bytes maxL ret hh).before args s = true ∧ (Cond.initialized y.cls).before args s = true ∧ (y.cls ≠ "java/lang/invoke/MethodHandle" ∧ y.cls ≠ "java/lang/invoke/VarHandle") ∧
  (∀ sig, parseMethodDescriptor y.desc = some sig → n = sig.parameters.length) ∧ (Cond.methodLink own index y).before args s = true ∧ (Cond.static y).before args s = true
theorem vx_cwSW {own : String} {index maxL mc ms : Nat} {y : MethodName} {bytes : ByteArray} {ret : Option FieldType} {hh : List (Nat × Nat × Nat × Nat)} {Ts ws ws' : List Cond} {rm : Room} (n : Nat) (ht : ∀ w ∈ Ts, w.before args s = true) (hT : GoodIn Ts (va_wsS own index y ws)) (hw : ws = Cond.codeWith y bytes maxL ret hh :: ws') (hrc : rm.cells = mc) (hrs : rm.slots = ms)
    (hd : y.cls ≠ "java/lang/invoke/MethodHandle" ∧ y.cls ≠ "java/lang/invoke/VarHandle" ∧ (parseMethodDescriptor y.desc).map (fun d => d.parameters.length) = some n) (hR : rm.frames + 1 ≤ R.frames ∧ 8 + (maxL + 11) + rm.locals ≤ R.locals) :
    vx_CSW R s args own index y bytes maxL ret hh ws rm mc ms n := by
  have ok : ∀ w ∈ va_wsS own index y ws, w.before args s = true := fun w h => ht w (hT w h).1
  have hG : GoodIn Ts ws := fun w h => hT w (by unfold va_wsS; exact List.mem_append_right _ h)
  have hc : Cond.codeWith y bytes maxL ret hh ∈ ws := by rw [hw]; exact List.mem_cons_self
  refine ⟨⟨hrc, hrs, hR.1, hR.2, pay_in ht hG, hc⟩, ht _ (hG _ hc).1, ok _ (by simp [va_wsS]), ⟨hd.1, hd.2.1⟩, fun sig h => ?_, ok _ (by simp [va_wsS]), ok _ (by simp [va_wsS])⟩
  have h2 := hd.2.2
  rw [h] at h2
  exact (Option.some.inj h2).symm
theorem vx_callSW (X : Stand p l e R s m args below meth c T locs cells slots) (hexec : p.tables.exec = Jvm.exec) {own : String} {index : Nat} {y : MethodName} {bytes : ByteArray} {maxL : Nat} {ret : Option FieldType} {hh : List (Nat × Nat × Nat × Nat)}
    (hown : s.vm.findClass own = some m.cls) (hlink : (Cond.methodLink own index y).before args s = true) (hstat : (Cond.static y).before args s = true) (hinit : (Cond.initialized y.cls).before args s = true)
    (hcode : (Cond.codeWith y bytes maxL ret hh).before args s = true) (hy : y.cls ≠ "java/lang/invoke/MethodHandle" ∧ y.cls ≠ "java/lang/invoke/VarHandle")
    {W9 : Nat} {Pre : Pt → Array Value → Prop} {Post : Pt → Array Value → Option Value → Pt → Prop} (hK : Back l R p e below s args y 3 W9 Pre Post)
    {g : JFrame} (hg : g.method = m) (hsize : g.locals.size = c.maxLocals) {argsL rest : List Value} (hlen : ∀ sig, parseMethodDescriptor y.desc = some sig → argsL.length = sig.parameters.length)
    (hstack : g.stack = argsL.reverse ++ rest) (hW : 2 * g.monitorRoom + (rest.map fun v => v.category).sum ≤ W9) (hdg : decode c.code g.pc = .ok (.invokestatic index, 3))
    (hpre : ∀ vm₁, s.WarmedH vm₁ → Pre ⟨T.setVm vm₁, locs, cells, slots⟩ argsL.toArray) :
    ∃ (v : Option Value) (vm₁ : Vm) (B : Pt), s.WarmedH vm₁ ∧ Stand p l e R s m args below meth c B.U B.locs B.cells B.slots ∧ Post ⟨T.setVm vm₁, locs, cells, slots⟩ argsL.toArray v B ∧
      ∀ target, Steps p.tables e below (B.U.setTop { g with pc := g.pc + 3, stack := v.toList ++ rest }) target → Steps p.tables e below (T.setTop g) target := by
  obtain ⟨mk, methM, cM, hnamed, hmethM, -, -, -, -, -, -, hsigM⟩ := Cond.codeWith_spec hcode
  have hstatic : methM.isStatic = true := Cond.static_spec hnamed hmethM hstat
  obtain ⟨kP, hkP, -⟩ := className_of_methodNamed hnamed
  have hinitP : kP.init = .initialized := Cond.initialized_spec (findClass_of_methodNamed hnamed) hkP hinit
  obtain ⟨vm₁, X₁, hstep₁⟩ := X.invokestatic hexec hown hlink hnamed hmethM hstatic hkP hinitP hy (g := g) hg (argsL := argsL) (rest := rest) (hlen _ hsigM) hstack hdg
  obtain ⟨v, B, X', hpost, hsteps⟩ := hK m meth c ⟨T.setVm vm₁, locs, cells, slots⟩ { g with stack := rest } (.invokestatic index) mk argsL.toArray X₁ hg hsize hdg hW (X₁.named hnamed) (hpre vm₁ X₁.warmed)
  exact ⟨v, vm₁, B, X₁.warmed, X', hpost, fun target h => hstep₁ _ fun acts => by rw [doInvoke_state]; exact hsteps.trans h⟩
theorem vx_runSW {y : MethodName} {bytes cc : ByteArray} {maxL nL mc ms n index : Nat} {ret : Option FieldType} {hh : List (Nat × Nat × Nat × Nat)} {ws : List Cond} {rm : Room} {Pc : Array Value → State → Prop} {Qc : Array Value → State → Outcome → State → Prop} {free : Addr → Prop} {Ts : List Cond} {own : String} {As rest : List Value} {g : JFrame}
    (S : CallFix p m c cc nL s args Ts own) (hM : Met l y ws rm Pc Qc mc ms free) (cw : vx_CSW R s args own index y bytes maxL ret hh ws rm mc ms n) (hp : PreS s H Pc As)
    (hg : g.method = m) (hn : As.length = n) (hsize : g.locals.size = nL) (hstack : g.stack = As.reverse ++ rest) (hW : 2 * g.monitorRoom + (rest.map fun v => v.category).sum ≤ 8) (hdg : decode cc g.pc = .ok (.invokestatic index, 3)) (hf : cells + mc ≤ R.cells ∧ slots + ms ≤ R.slots) :
    va_Run p l e R s m args below meth c H locs cells slots mc ms g rest (Qc As.toArray) (free) := by
  obtain ⟨⟨hrc, hrs, hfr, hlo, hws, hcw⟩, hcode, hini, hy, hlen, hl, hstt⟩ := cw
  have hK : Back l R p e below s args y 3 8 (PreOf R mc ms Pc) (PostOf Qc mc ms free) := va_backW (hh := hh) (bytes := bytes) (maxL := maxL) (ret := ret) hM hp.1 hrc hrs hfr hlo hws hcw (fun a' U hW => word_at hW (Or.inl (by first | rfl | simp [Cond.onTables, Cond.keeps, Cond.steady])) hini)
  obtain ⟨hx, hb, hml, ho, -⟩ := S
  intro T hT X
  obtain ⟨v, vm₁, ⟨U', l2, c2, s2⟩, hW₁, X', ⟨g', mk, t, L, e1, e2, hq, h1, hL, h2, h3⟩, st⟩ := vx_callSW X hx (hh := hh) (bytes := bytes) (maxL := maxL) (ret := ret) ho hl hstt hini hcode hy hK hg (hsize.trans hml.symm) (argsL := As) (rest := rest) (fun sig h => hn.trans (hlen sig h)) hstack hW (by rw [hb]; exact hdg)
    (fun vm₁ hW₁ => ⟨hf.1, hf.2, hp.2 (T.setVm vm₁) hT hW₁⟩)
  dsimp only [Pt.U, Pt.locs, Pt.cells, Pt.slots] at X' e1 e2 h1 h2 h3 st
  subst h1; subst h2; subst h3
  exact ⟨v, (T.setVm vm₁).calling g' mk As.toArray, t, U', L, hT, X', hL, e1, e2, hq, st⟩
/-- not caught here, past rows that name other classes: it goes on to the caller -/
theorem vx_outP {p : Program} {l : Launch} {e : Env} {R : Room} {s : State} {m : MethodId} {args : Array Value} {below : List Frame} {meth : Method} {c : Code} {H : Heap} {locs : List Loc} {cells slots : Nat} {free : Addr → Prop} {ls : Array Slot} {rest : List Value} {Qc : Array Value → State → Outcome → State → Prop} {XC : String → State → State → Prop}
    {pc : Nat} {own E : String} {ce : Cell} {q : Addr} {mc ms : Nat} (hown : s.vm.findClass own = some m.cls) (hlocks : meth.locks = false)
    (hpass : ∀ z ∈ c.exceptionTable.toList, covers z pc = false ∨ (z.catchType ≠ 0 ∧ ∃ nm : String, (Cond.classLink own z.catchType nm).before args s = true ∧ va_Nc E nm s)) (hcell : H[q]? = some ce) (hv : ce.vm = .none) (hcl : s.vm.findClass E = some ce.cls)
    (hx : ∀ t : State, t.heap = H → s.vm.Alike t.vm → XC E s t) (hf : ∀ z ∈ locs, free z.base) (hc : cells ≤ mc) (hs : slots ≤ ms) :
    vx_W p l e R s m args below meth c H locs cells slots (vx_MQ below Qc XC args s mc ms free) (F0 m pc ls rest) q := by
  intro T hT X
  have hpl : e.platform.magicAccessors = ({} : Platform).magicAccessors := by rw [X.admits.platform]
  obtain ⟨vm', hW', X', st⟩ := X.outThrough hlocks q (g := F0 m pc ls rest) rfl rfl rfl (cell := ce) (by rw [hT]; exact hcell) (by rw [hv]; rfl)
    (by obtain ⟨k9, h9, -⟩ := Vm.findClass_spec hcl; exact ⟨k9, h9⟩) (fun z hz => by
      rcases hpass z hz with h | ⟨hz0, nm, hl1, hn1⟩
      · exact Or.inl h
      · obtain ⟨c6, hc6, hcl6⟩ := Cond.classLink_spec hown hl1 e.platform hpl
        obtain ⟨a8, b8, h1, h2, h3⟩ := hn1
        cases Option.some.inj (h1.symm.trans hcl)
        cases Option.some.inj (h2.symm.trans hc6)
        exact Or.inr ⟨hz0, _, hcl6, h3⟩)
  obtain ⟨g₀, hfr⟩ := X'.frames_eq
  have hcell9 : ((T.setVm vm').setFrames (.throwing q :: below)).heap[q]? = some ce := by
    show T.heap[q]? = some ce
    rw [hT]; exact hcell
  have hend : Ended ((T.setVm vm').setFrames (.throwing q :: below)) below (.threw q) := State.frames_setFrames _ (State.cur_lt_of_frames hfr)
  refine ⟨(T.setVm vm').setFrames (.throwing q :: below), ?_, .threw q, X'.here.running, hend, Or.inr ⟨q, rfl, E, ce, locs, hx _ hT (X'.ends _).1.alike, hcell9, hv, hcl, (X'.ends _).1, (X'.ends _).2.mono hc hs, hf⟩⟩
  rw [X.pushThrowing_eq]
  exact st
/-- a thing of a world lies in the heap -/
theorem vx_lt {D : va_G} {cl : List vw_C} {ws : va_W} {H1 : Heap} (h : va_P D cl ws H1) {k : Nat} {q : Nat × va_E} (hk : ws[k]? = some q) : q.1 < H1.size := (h k q hk).lt
end VXS
/-! ===== END ===== -/
/-! ===== BEGIN methods with a table of their own: called by a name, returning or throwing ===== -/
section VXH
/-! vx_backW, vx_callVX, vx_callSX, vx_callVW, vx_runVW, vx_runVX, vx_runSX, vx_ofWH follow the same proofs as their sisters above (Free/Laws.lean, Shelf42/LK1.lean); vx_outP calls Shelf42/NT130.lean (outThrough). -/
section
variable {l : Launch} {R : Room} {p : Program} {e : Env} {below : List Frame} {s : State} {sargs : Array Value} {y : MethodName} {len W9 : Nat}
theorem vx_backW {ws : List Cond} {rm : Room} {Pc : Array Value → State → Prop} {Qc : Array Value → State → Outcome → State → Prop} {XC : String → State → State → Prop} {mc ms : Nat} {free : Addr → Prop} {bytes : ByteArray} {maxL : Nat} {ret : Option FieldType} {hh : List (Nat × Nat × Nat × Nat)}
    (hM : vx_Met l y ws rm Pc Qc XC mc ms free) (hblind : FrameBlind Pc) (hrc : rm.cells = mc) (hrs : rm.slots = ms)
    (hframes : rm.frames + 1 ≤ R.frames) (hlocals : W9 + (maxL + 11) + rm.locals ≤ R.locals)
    (hws : ∀ w ∈ ws, ∀ a' U, s.WarmedH U.vm → w.before a' U = true) (hcode : Cond.codeWith y bytes maxL ret hh ∈ ws) (hinit : ∀ a' U, s.WarmedH U.vm → (Cond.initialized y.cls).before a' U = true) :
    vx_Back l R p e below s sargs y len W9 (PreOf R mc ms Pc) (PostOf Qc mc ms free) (vx_Post XC mc ms free) := by
  intro m meth c A g ig mk a X hg hsize hdg hW hn hp
  have h1 : (headSpec ws rm).pre.before a A.U = true := atoms_intro fun w hw => hws w hw _ _ X.warmed
  have h2 : (Cond.codeWith y bytes maxL ret hh).before a A.U = true := hws _ hcode _ _ X.warmed
  have h3 : (Cond.initialized y.cls).before a A.U = true := hinit _ _ X.warmed
  have h4 : A.cells + (headSpec ws rm).room.cells ≤ R.cells := by rw [show (headSpec ws rm).room.cells = mc from hrc]; exact hp.1
  have h5 : A.slots + (headSpec ws rm).room.slots ≤ R.slots := by rw [show (headSpec ws rm).room.slots = ms from hrs]; exact hp.2.1
  have hPc : Pc a (A.U.calling g mk a) := hblind _ _ _ _ hp.2.2
  obtain ⟨U, Ls, c0, s0⟩ := A
  dsimp only [Pt.U, Pt.locs, Pt.cells, Pt.slots] at h1 h2 h3 h4 h5 X hn hPc ⊢
  obtain ⟨m9, methY, cY, hn9, hmY, hcY, -, hlY, -⟩ := Cond.codeWith_spec h2
  cases Option.some.inj (hn9.symm.trans hn)
  obtain ⟨kY, hkY, -⟩ := className_of_methodNamed hn
  have hinitY : kY.init = .initialized := Cond.initialized_spec (findClass_of_methodNamed hn) hkY h3
  have h : At U g.method c below := by rw [hg]; exact X.here
  have hlocals9 : W9 + (maxL + 11) + (headSpec ws rm).room.locals ≤ R.locals := hlocals
  have happ : (headSpec ws rm).appliesLoose y e.platform (U.calling g mk a) = true :=
    Spec.appliesLoose_calling (g := g) h hdg hn hkY hinitY
      (X.room_calling (g := g) (R' := (headSpec ws rm).room) hsize hmY hcY hframes (by rw [hlY]; omega) h4 h5) h1
  obtain ⟨mid, hmid⟩ := h.above
  have hfr : (U.setTop g).frames = (.java g :: mid) ++ below := by rw [State.frames_setTop' g h.top, hmid]; rfl
  obtain ⟨o, s₂, hsteps, -, hend, hq⟩ := Steps.callFree hM p X.admits X.cas X.clock (acts := []) hfr happ hPc trivial
  have hq' : vx_Q Qc XC mc ms free a (U.calling g mk a) o s₂ := hq
  rw [State.frames_setTop' g h.top] at hend
  obtain ⟨g₀, hg0⟩ := Option.isSome_iff_exists.mp h.top
  obtain ⟨r, hr⟩ := State.topJava?_eq_some.mp hg0
  have hr' : (({ U with heap := s₂.heap, slotsUsed := s₂.slotsUsed } : State).setVm s₂.vm).frames = .java g₀ :: r := hr
  rcases hq' with ⟨hqc, L, hfe, hL⟩ | ⟨q, rfl, E, ce, L, hx, hce, hcv, hcl, hW₂, hsm, hL⟩
  · obtain ⟨⟨v, rfl⟩, hW₂, e2, q2, q3, q4, q5, q6⟩ := id hfe
    have e3 : s₂ = ({ (U.calling g mk a).setFrames s₂.frames with heap := s₂.heap, slotsUsed := s₂.slotsUsed } : State).setVm s₂.vm := by
      have : s₂ = ({ s₂ with vm := (U.calling g mk a).vm } : State).setVm s₂.vm := rfl
      rw [e2] at this
      exact this
    obtain ⟨c₂, i₂, len₂, hc₂, hd₂, hf₂⟩ := hend
    have hW' : U.WarmedH s₂.vm := hW₂
    have hcc : c₂ = c := by
      have h1 : s₂.code? g.method = U.code? g.method := by
        rw [State.code?_eq, State.code?_eq, hW'.alike.method?]
      exact Option.some.inj (hc₂.symm.trans (h1.trans h.code))
    subst hcc
    have hlen : len₂ = len := by rw [hdg] at hd₂; cases hd₂; rfl
    subst hlen
    have hs₂ : s₂ = (({ U with heap := s₂.heap, slotsUsed := s₂.slotsUsed } : State).setVm s₂.vm).setTop { g with pc := g.pc + len₂, stack := v.toList ++ g.stack } := by
      refine e3.trans ?_
      rw [hf₂, State.calling_eq h.top, State.setFrames_setFrames, State.setTop_of_frames _ hr', hr]
      rfl
    have hsame : U.sameButNew ({ U with heap := s₂.heap, slotsUsed := s₂.slotsUsed } : State) L mc ms := by
      refine ⟨?_, q2, q3, q4, q5, q6⟩
      obtain ⟨t, ht, -⟩ := State.frames_cons hr
      show ({ U with heap := s₂.heap, slotsUsed := s₂.slotsUsed } : State) = { U.setFrames U.frames with heap := s₂.heap, slotsUsed := s₂.slotsUsed }
      rw [State.setFrames_self ht]
    subst hg
    refine Or.inl ⟨v, ⟨(({ U with heap := s₂.heap, slotsUsed := s₂.slotsUsed } : State).setVm s₂.vm), Ls ++ L, c0 + mc, s0 + ms⟩,
      ⟨X.admits, X.cas, X.clock, X.frames, X.room, X.hears, X.method, X.code, (X.here.setHeapUsed s₂.heap s₂.slotsUsed).setVm hW'.alike, X.tail, State.WarmedH.trans X.warmed hW', X.limits, X.bytes, X.same.trans (hsame.setVm s.vm)⟩,
      ⟨g, mk, s₂, L, rfl, rfl, hqc, rfl, hL, rfl, rfl⟩, ?_⟩
    show Steps p.tables e below _ ((({ U with heap := s₂.heap, slotsUsed := s₂.slotsUsed } : State).setVm s₂.vm).setTop { g with pc := g.pc + len₂, stack := v.toList ++ g.stack })
    rw [← hs₂]
    exact hsteps
  · obtain ⟨e2, q2, q3, q4, q5, q6⟩ := id hsm
    have e3 : s₂ = ({ (U.calling g mk a).setFrames s₂.frames with heap := s₂.heap, slotsUsed := s₂.slotsUsed } : State).setVm s₂.vm := by
      have : s₂ = ({ s₂ with vm := (U.calling g mk a).vm } : State).setVm s₂.vm := rfl
      rw [e2] at this
      exact this
    have hf₂ : s₂.frames = .throwing q :: .java g :: U.frames.tail := hend
    have hW' : U.WarmedH s₂.vm := hW₂
    have hs₂ : s₂ = ((({ U with heap := s₂.heap, slotsUsed := s₂.slotsUsed } : State).setVm s₂.vm).setTop g).pushFrame (.throwing q) := by
      refine e3.trans ?_
      rw [hf₂, State.calling_eq h.top, State.setFrames_setFrames, State.pushFrame, State.frames_setTop _ hr', State.setTop_of_frames _ hr', State.setFrames_setFrames, hr]
      rfl
    have hsame : U.sameButNew ({ U with heap := s₂.heap, slotsUsed := s₂.slotsUsed } : State) L mc ms := by
      refine ⟨?_, q2, q3, q4, q5, q6⟩
      obtain ⟨t, ht, -⟩ := State.frames_cons hr
      show ({ U with heap := s₂.heap, slotsUsed := s₂.slotsUsed } : State) = { U.setFrames U.frames with heap := s₂.heap, slotsUsed := s₂.slotsUsed }
      rw [State.setFrames_self ht]
    subst hg
    refine Or.inr ⟨q, ⟨(({ U with heap := s₂.heap, slotsUsed := s₂.slotsUsed } : State).setVm s₂.vm), Ls ++ L, c0 + mc, s0 + ms⟩,
      ⟨X.admits, X.cas, X.clock, X.frames, X.room, X.hears, X.method, X.code, (X.here.setHeapUsed s₂.heap s₂.slotsUsed).setVm hW'.alike, X.tail, State.WarmedH.trans X.warmed hW', X.limits, X.bytes, X.same.trans (hsame.setVm s.vm)⟩,
      ⟨g, mk, s₂, L, E, ce, rfl, rfl, hx, hce, hcv, hcl, rfl, hL, rfl, rfl⟩, ?_⟩
    show Steps p.tables e below _ (((({ U with heap := s₂.heap, slotsUsed := s₂.slotsUsed } : State).setVm s₂.vm).setTop g).pushFrame (.throwing q))
    rw [← hs₂]
    exact hsteps
end
variable {p : Program} {l : Launch} {e : Env} {R : Room} {s : State} {m : MethodId} {args : Array Value} {below : List Frame} {meth : Method} {c : Code} {T : State} {H : Heap} {locs : List Loc} {cells slots : Nat}
theorem vx_callVX (X : Stand p l e R s m args below meth c T locs cells slots) (hexec : p.tables.exec = Jvm.exec) {own C : String} {index : Nat} {y : MethodName} {bytes : ByteArray} {maxL : Nat} {ret : Option FieldType} {hh : List (Nat × Nat × Nat × Nat)}
    (hown : s.vm.findClass own = some m.cls) (hlink : (Cond.methodLink own index y).before args s = true) (hinst : (Cond.instanceMethod y).before args s = true) (hsel : (Cond.selects C y y).before args s = true)
    (hcode : (Cond.codeWith y bytes maxL ret hh).before args s = true) (hy : y.cls ≠ "java/lang/invoke/MethodHandle" ∧ y.cls ≠ "java/lang/invoke/VarHandle")
    {W9 : Nat} {Pre : Pt → Array Value → Prop} {Post : Pt → Array Value → Option Value → Pt → Prop} {PostX : Pt → Array Value → Addr → Pt → Prop} (hK : vx_Back l R p e below s args y 3 W9 Pre Post PostX)
    {b : Addr} {cellB : Cell} (hcell : T.heap[b]? = some cellB) (hobj : cellB.vm.isStatics = false) (hcls : s.vm.findClass C = some cellB.cls)
    {g : JFrame} (hg : g.method = m) (hsize : g.locals.size = c.maxLocals) {argsL rest : List Value} (hlen : ∀ sig, parseMethodDescriptor y.desc = some sig → argsL.length = sig.parameters.length)
    (hstack : g.stack = argsL.reverse ++ .ref b :: rest) (hW : 2 * g.monitorRoom + (rest.map fun v => v.category).sum ≤ W9) (hdg : decode c.code g.pc = .ok (.invokevirtual index, 3))
    (hpre : ∀ vm₁, s.WarmedH vm₁ → Pre ⟨T.setVm vm₁, locs, cells, slots⟩ (Value.ref b :: argsL).toArray) :
    (∃ (v : Option Value) (vm₁ : Vm) (B : Pt), s.WarmedH vm₁ ∧ Stand p l e R s m args below meth c B.U B.locs B.cells B.slots ∧ Post ⟨T.setVm vm₁, locs, cells, slots⟩ (Value.ref b :: argsL).toArray v B ∧
      ∀ target, Steps p.tables e below (B.U.setTop { g with pc := g.pc + 3, stack := v.toList ++ rest }) target → Steps p.tables e below (T.setTop g) target) ∨
    (∃ (q : Addr) (vm₁ : Vm) (B : Pt), s.WarmedH vm₁ ∧ Stand p l e R s m args below meth c B.U B.locs B.cells B.slots ∧ PostX ⟨T.setVm vm₁, locs, cells, slots⟩ (Value.ref b :: argsL).toArray q B ∧
      Steps p.tables e below (T.setTop g) ((B.U.setTop { g with stack := rest }).pushFrame (.throwing q))) := by
  obtain ⟨mk, methM, hnamed, hmethM, hstM, habM⟩ := Cond.instanceMethod_spec hinst
  obtain ⟨m8, methM', cM, hn8, hmethM', -, -, -, -, -, -, hsigM⟩ := Cond.codeWith_spec hcode
  cases Option.some.inj (hn8.symm.trans hnamed)
  cases hmethM.symm.trans hmethM'
  obtain ⟨c2, r2, m2, q1, q2, q3, q4, kP, hkP, hkPi⟩ := Cond.selects_spec hsel
  cases hcls.symm.trans q1
  cases (State.methodFound?_of_named hnamed hy).symm.trans q2
  cases hnamed.symm.trans q3
  have hselP : selectMethod e.platform s.vm cellB.cls mk = .method mk := by rw [Launch.admits_selectMethod X.admits]; exact q4
  obtain ⟨vm₁, X₁, hstep₁⟩ := X.invokevirtual hexec hown hlink hnamed hmethM hstM hkP hkPi hy (a := b) (cell := cellB) hcell
    (fun z h => by rw [h] at hobj; cases hobj) hselP hmethM habM hkP hkPi (g := g) hg (argsL := argsL) (rest := rest) (hlen _ hsigM) hstack hdg
  rcases hK m meth c ⟨T.setVm vm₁, locs, cells, slots⟩ { g with stack := rest } (.invokevirtual index) mk (Value.ref b :: argsL).toArray X₁ hg hsize hdg hW (X₁.named hnamed) (hpre vm₁ X₁.warmed) with ⟨v, B, X', hpost, hsteps⟩ | ⟨q, B, X', hpost, hsteps⟩
  · exact Or.inl ⟨v, vm₁, B, X₁.warmed, X', hpost, fun target h => hstep₁ _ fun acts => by rw [doInvoke_state]; exact hsteps.trans h⟩
  · exact Or.inr ⟨q, vm₁, B, X₁.warmed, X', hpost, hstep₁ _ fun acts => by rw [doInvoke_state]; exact hsteps⟩
theorem vx_callSX (X : Stand p l e R s m args below meth c T locs cells slots) (hexec : p.tables.exec = Jvm.exec) {own : String} {index : Nat} {y : MethodName} {bytes : ByteArray} {maxL : Nat} {ret : Option FieldType} {hh : List (Nat × Nat × Nat × Nat)}
    (hown : s.vm.findClass own = some m.cls) (hlink : (Cond.methodLink own index y).before args s = true) (hstat : (Cond.static y).before args s = true) (hinit : (Cond.initialized y.cls).before args s = true)
    (hcode : (Cond.codeWith y bytes maxL ret hh).before args s = true) (hy : y.cls ≠ "java/lang/invoke/MethodHandle" ∧ y.cls ≠ "java/lang/invoke/VarHandle")
    {W9 : Nat} {Pre : Pt → Array Value → Prop} {Post : Pt → Array Value → Option Value → Pt → Prop} {PostX : Pt → Array Value → Addr → Pt → Prop} (hK : vx_Back l R p e below s args y 3 W9 Pre Post PostX)
    {g : JFrame} (hg : g.method = m) (hsize : g.locals.size = c.maxLocals) {argsL rest : List Value} (hlen : ∀ sig, parseMethodDescriptor y.desc = some sig → argsL.length = sig.parameters.length)
    (hstack : g.stack = argsL.reverse ++ rest) (hW : 2 * g.monitorRoom + (rest.map fun v => v.category).sum ≤ W9) (hdg : decode c.code g.pc = .ok (.invokestatic index, 3))
    (hpre : ∀ vm₁, s.WarmedH vm₁ → Pre ⟨T.setVm vm₁, locs, cells, slots⟩ argsL.toArray) :
    (∃ (v : Option Value) (vm₁ : Vm) (B : Pt), s.WarmedH vm₁ ∧ Stand p l e R s m args below meth c B.U B.locs B.cells B.slots ∧ Post ⟨T.setVm vm₁, locs, cells, slots⟩ argsL.toArray v B ∧
      ∀ target, Steps p.tables e below (B.U.setTop { g with pc := g.pc + 3, stack := v.toList ++ rest }) target → Steps p.tables e below (T.setTop g) target) ∨
    (∃ (q : Addr) (vm₁ : Vm) (B : Pt), s.WarmedH vm₁ ∧ Stand p l e R s m args below meth c B.U B.locs B.cells B.slots ∧ PostX ⟨T.setVm vm₁, locs, cells, slots⟩ argsL.toArray q B ∧
      Steps p.tables e below (T.setTop g) ((B.U.setTop { g with stack := rest }).pushFrame (.throwing q))) := by
  obtain ⟨mk, methM, cM, hnamed, hmethM, -, -, -, -, -, -, hsigM⟩ := Cond.codeWith_spec hcode
  have hstatic : methM.isStatic = true := Cond.static_spec hnamed hmethM hstat
  obtain ⟨kP, hkP, -⟩ := className_of_methodNamed hnamed
  have hinitP : kP.init = .initialized := Cond.initialized_spec (findClass_of_methodNamed hnamed) hkP hinit
  obtain ⟨vm₁, X₁, hstep₁⟩ := X.invokestatic hexec hown hlink hnamed hmethM hstatic hkP hinitP hy (g := g) hg (argsL := argsL) (rest := rest) (hlen _ hsigM) hstack hdg
  rcases hK m meth c ⟨T.setVm vm₁, locs, cells, slots⟩ { g with stack := rest } (.invokestatic index) mk argsL.toArray X₁ hg hsize hdg hW (X₁.named hnamed) (hpre vm₁ X₁.warmed) with ⟨v, B, X', hpost, hsteps⟩ | ⟨q, B, X', hpost, hsteps⟩
  · exact Or.inl ⟨v, vm₁, B, X₁.warmed, X', hpost, fun target h => hstep₁ _ fun acts => by rw [doInvoke_state]; exact hsteps.trans h⟩
  · exact Or.inr ⟨q, vm₁, B, X₁.warmed, X', hpost, hstep₁ _ fun acts => by rw [doInvoke_state]; exact hsteps⟩
theorem vx_callVW (X : Stand p l e R s m args below meth c T locs cells slots) (hexec : p.tables.exec = Jvm.exec) {own C : String} {index : Nat} {y : MethodName} {bytes : ByteArray} {maxL : Nat} {ret : Option FieldType} {hh : List (Nat × Nat × Nat × Nat)}
    (hown : s.vm.findClass own = some m.cls) (hlink : (Cond.methodLink own index y).before args s = true) (hinst : (Cond.instanceMethod y).before args s = true) (hsel : (Cond.selects C y y).before args s = true)
    (hcode : (Cond.codeWith y bytes maxL ret hh).before args s = true) (hy : y.cls ≠ "java/lang/invoke/MethodHandle" ∧ y.cls ≠ "java/lang/invoke/VarHandle")
    {W9 : Nat} {Pre : Pt → Array Value → Prop} {Post : Pt → Array Value → Option Value → Pt → Prop} (hK : Back l R p e below s args y 3 W9 Pre Post)
    {b : Addr} {cellB : Cell} (hcell : T.heap[b]? = some cellB) (hobj : cellB.vm.isStatics = false) (hcls : s.vm.findClass C = some cellB.cls)
    {g : JFrame} (hg : g.method = m) (hsize : g.locals.size = c.maxLocals) {argsL rest : List Value} (hlen : ∀ sig, parseMethodDescriptor y.desc = some sig → argsL.length = sig.parameters.length)
    (hstack : g.stack = argsL.reverse ++ .ref b :: rest) (hW : 2 * g.monitorRoom + (rest.map fun v => v.category).sum ≤ W9) (hdg : decode c.code g.pc = .ok (.invokevirtual index, 3))
    (hpre : ∀ vm₁, s.WarmedH vm₁ → Pre ⟨T.setVm vm₁, locs, cells, slots⟩ (Value.ref b :: argsL).toArray) :
    ∃ (v : Option Value) (vm₁ : Vm) (B : Pt), s.WarmedH vm₁ ∧ Stand p l e R s m args below meth c B.U B.locs B.cells B.slots ∧ Post ⟨T.setVm vm₁, locs, cells, slots⟩ (Value.ref b :: argsL).toArray v B ∧
      ∀ target, Steps p.tables e below (B.U.setTop { g with pc := g.pc + 3, stack := v.toList ++ rest }) target → Steps p.tables e below (T.setTop g) target := by
  obtain ⟨mk, methM, hnamed, hmethM, hstM, habM⟩ := Cond.instanceMethod_spec hinst
  obtain ⟨m8, methM', cM, hn8, hmethM', -, -, -, -, -, -, hsigM⟩ := Cond.codeWith_spec hcode
  cases Option.some.inj (hn8.symm.trans hnamed)
  cases hmethM.symm.trans hmethM'
  obtain ⟨c2, r2, m2, q1, q2, q3, q4, kP, hkP, hkPi⟩ := Cond.selects_spec hsel
  cases hcls.symm.trans q1
  cases (State.methodFound?_of_named hnamed hy).symm.trans q2
  cases hnamed.symm.trans q3
  have hselP : selectMethod e.platform s.vm cellB.cls mk = .method mk := by rw [Launch.admits_selectMethod X.admits]; exact q4
  obtain ⟨vm₁, X₁, hstep₁⟩ := X.invokevirtual hexec hown hlink hnamed hmethM hstM hkP hkPi hy (a := b) (cell := cellB) hcell
    (fun z h => by rw [h] at hobj; cases hobj) hselP hmethM habM hkP hkPi (g := g) hg (argsL := argsL) (rest := rest) (hlen _ hsigM) hstack hdg
  obtain ⟨v, B, X', hpost, hsteps⟩ := hK m meth c ⟨T.setVm vm₁, locs, cells, slots⟩ { g with stack := rest } (.invokevirtual index) mk (Value.ref b :: argsL).toArray X₁ hg hsize hdg hW (X₁.named hnamed) (hpre vm₁ X₁.warmed)
  exact ⟨v, vm₁, B, X₁.warmed, X', hpost, fun target h => hstep₁ _ fun acts => by rw [doInvoke_state]; exact hsteps.trans h⟩
abbrev vx_CVW (R : Room) (s : State) (args : Array Value) (own C : String) (index : Nat) (y : MethodName) (bytes : ByteArray) (maxL : Nat) (ret : Option FieldType) (hh : List (Nat × Nat × Nat × Nat)) (ws : List Cond) (rm : Room) (mc ms n : Nat) : Prop :=
  (rm.cells = mc ∧ rm.slots = ms ∧ rm.frames + 1 ≤ R.frames ∧ 8 + (maxL + 11) + rm.locals ≤ R.locals ∧ (∀ w ∈ ws, ∀ (a' : Array Value) (U : State), s.WarmedH U.vm → w.before a' U = true) ∧ Cond.codeWith y bytes maxL ret hh ∈ ws) ∧
  (Cond.codeWith y bytes maxL ret hh).before args s = true ∧ (Cond.initialized y.cls).before args s = true ∧ (y.cls ≠ "java/lang/invoke/MethodHandle" ∧ y.cls ≠ "java/lang/invoke/VarHandle") ∧
  (∀ sig, parseMethodDescriptor y.desc = some sig → n = sig.parameters.length) ∧ (Cond.methodLink own index y).before args s = true ∧ (Cond.instanceMethod y).before args s = true ∧ (Cond.selects C y y).before args s = true
theorem vx_cwVW {own C : String} {index maxL mc ms : Nat} {y : MethodName} {bytes : ByteArray} {ret : Option FieldType} {hh : List (Nat × Nat × Nat × Nat)} {Ts ws ws' : List Cond} {rm : Room} (n : Nat) (ht : ∀ w ∈ Ts, w.before args s = true) (hT : GoodIn Ts (wsV own index C y ws)) (hw : ws = Cond.codeWith y bytes maxL ret hh :: ws') (hrc : rm.cells = mc) (hrs : rm.slots = ms)
    (hd : y.cls = C ∧ y.cls ≠ "java/lang/invoke/MethodHandle" ∧ y.cls ≠ "java/lang/invoke/VarHandle" ∧ (parseMethodDescriptor y.desc).map (fun d => d.parameters.length) = some n) (hR : rm.frames + 1 ≤ R.frames ∧ 8 + (maxL + 11) + rm.locals ≤ R.locals) :
    vx_CVW R s args own C index y bytes maxL ret hh ws rm mc ms n := by
  obtain ⟨hC, hd⟩ := hd
  subst hC
  have ok : ∀ w ∈ wsV own index y.cls y ws, w.before args s = true := fun w h => ht w (hT w h).1
  have hG : GoodIn Ts ws := fun w h => hT w (by unfold wsV; exact List.mem_append_right _ h)
  have hc : Cond.codeWith y bytes maxL ret hh ∈ ws := by rw [hw]; exact List.mem_cons_self
  refine ⟨⟨hrc, hrs, hR.1, hR.2, pay_in ht hG, hc⟩, ht _ (hG _ hc).1, ok _ (by simp [wsV]), ⟨hd.1, hd.2.1⟩, fun sig h => ?_, ok _ (by simp [wsV]), ok _ (by simp [wsV]), ok _ (by simp [wsV])⟩
  have h2 := hd.2.2
  rw [h] at h2
  exact (Option.some.inj h2).symm
theorem vx_runVW {y : MethodName} {bytes cc : ByteArray} {maxL nL mc ms n index : Nat} {ret : Option FieldType} {hh : List (Nat × Nat × Nat × Nat)} {ws : List Cond} {rm : Room} {Pc : Array Value → State → Prop} {Qc : Array Value → State → Outcome → State → Prop} {free : Addr → Prop} {Ts : List Cond} {own C : String} {b : Addr} {As rest : List Value} {g : JFrame}
    (S : CallFix p m c cc nL s args Ts own) (hM : Met l y ws rm Pc Qc mc ms free) (cw : vx_CVW R s args own C index y bytes maxL ret hh ws rm mc ms n) (hp : PreV s H C b Pc As)
    (hg : g.method = m) (hn : As.length = n) (hsize : g.locals.size = nL) (hstack : g.stack = As.reverse ++ .ref b :: rest) (hW : 2 * g.monitorRoom + (rest.map fun v => v.category).sum ≤ 8) (hdg : decode cc g.pc = .ok (.invokevirtual index, 3)) (hf : cells + mc ≤ R.cells ∧ slots + ms ≤ R.slots) :
    va_Run p l e R s m args below meth c H locs cells slots mc ms g rest (Qc (Value.ref b :: As).toArray) free := by
  obtain ⟨⟨hrc, hrs, hfr, hlo, hws, hcw⟩, hcode, hini, hy, hlen, hl, hin, hse⟩ := cw
  have hK : Back l R p e below s args y 3 8 (PreOf R mc ms Pc) (PostOf Qc mc ms free) := va_backW (hh := hh) (bytes := bytes) (maxL := maxL) (ret := ret) hM hp.1 hrc hrs hfr hlo hws hcw (fun a' U hW => word_at hW (Or.inl (by first | rfl | simp [Cond.onTables, Cond.keeps, Cond.steady])) hini)
  obtain ⟨hx, hb, hml, ho, -⟩ := S
  obtain ⟨-, ⟨cellB, hcB, hoB, hclB⟩, hPc⟩ := hp
  intro T hT X
  obtain ⟨v, vm₁, ⟨U', l2, c2, s2⟩, hW₁, X', ⟨g', mk, t, L, e1, e2, hq, h1, hL, h2, h3⟩, st⟩ := vx_callVW X hx (C := C) (hh := hh) (bytes := bytes) (maxL := maxL) (ret := ret) ho hl hin hse hcode hy hK (by rw [hT]; exact hcB) hoB hclB hg (hsize.trans hml.symm) (argsL := As) (rest := rest) (fun sig h => hn.trans (hlen sig h)) hstack hW (by rw [hb]; exact hdg)
    (fun vm₁ hW₁ => ⟨hf.1, hf.2, hPc (T.setVm vm₁) hT hW₁⟩)
  dsimp only [Pt.U, Pt.locs, Pt.cells, Pt.slots] at X' e1 e2 h1 h2 h3 st
  subst h1; subst h2; subst h3
  exact ⟨v, (T.setVm vm₁).calling g' mk (Value.ref b :: As).toArray, t, U', L, hT, X', hL, e1, e2, hq, st⟩
section
variable {y : MethodName} {bytes cc : ByteArray} {maxL nL mc ms n index : Nat} {ret : Option FieldType} {ws : List Cond} {rm : Room} {Pc : Array Value → State → Prop} {Qc : Array Value → State → Outcome → State → Prop} {XC : String → State → State → Prop} {free : Addr → Prop} {Ts : List Cond} {own C : String} {b : Addr} {As rest : List Value} {g : JFrame}
theorem vx_runVX {hh : List (Nat × Nat × Nat × Nat)} (S : CallFix p m c cc nL s args Ts own) (hM : vx_Met l y ws rm Pc Qc XC mc ms free) (cw : vx_CVW R s args own C index y bytes maxL ret hh ws rm mc ms n) (hp : PreV s H C b Pc As)
    (hg : g.method = m) (hn : As.length = n) (hsize : g.locals.size = nL) (hstack : g.stack = As.reverse ++ .ref b :: rest) (hW : 2 * g.monitorRoom + (rest.map fun v => v.category).sum ≤ 8) (hdg : decode cc g.pc = .ok (.invokevirtual index, 3)) (hf : cells + mc ≤ R.cells ∧ slots + ms ≤ R.slots) :
    vx_Run p l e R s m args below meth c H locs cells slots mc ms g rest (Qc (Value.ref b :: As).toArray) XC free := by
  obtain ⟨⟨hrc, hrs, hfr, hlo, hws, hcw⟩, hcode, hini, hy, hlen, hl, hin, hse⟩ := cw
  have hK : vx_Back l R p e below s args y 3 8 (PreOf R mc ms Pc) (PostOf Qc mc ms free) (vx_Post XC mc ms free) := vx_backW (hh := hh) (bytes := bytes) (maxL := maxL) (ret := ret) hM hp.1 hrc hrs hfr hlo hws hcw (fun a' U hW => word_at hW (Or.inl (by first | rfl | simp [Cond.onTables, Cond.keeps, Cond.steady])) hini)
  obtain ⟨hx, hb, hml, ho, -⟩ := S
  obtain ⟨-, ⟨cellB, hcB, hoB, hclB⟩, hPc⟩ := hp
  intro T hT X
  rcases vx_callVX X hx (C := C) (hh := hh) (bytes := bytes) (maxL := maxL) (ret := ret) ho hl hin hse hcode hy hK (by rw [hT]; exact hcB) hoB hclB hg (hsize.trans hml.symm) (argsL := As) (rest := rest) (fun sig h => hn.trans (hlen sig h)) hstack hW (by rw [hb]; exact hdg)
    (fun vm₁ hW₁ => ⟨hf.1, hf.2, hPc (T.setVm vm₁) hT hW₁⟩) with ⟨v, vm₁, ⟨U', l2, c2, s2⟩, hW₁, X', ⟨g', mk, t, L, e1, e2, hq, h1, hL, h2, h3⟩, st⟩ | ⟨q, vm₁, ⟨U', l2, c2, s2⟩, hW₁, X', ⟨g', mk, t, L, E, ce, e1, e2, hq, hce, hcv, hcl, h1, hL, h2, h3⟩, st⟩
  · dsimp only [Pt.U, Pt.locs, Pt.cells, Pt.slots] at X' e1 e2 h1 h2 h3 st
    subst h1; subst h2; subst h3
    exact Or.inl ⟨v, (T.setVm vm₁).calling g' mk (Value.ref b :: As).toArray, t, U', L, hT, X', hL, e1, e2, hq, st⟩
  · dsimp only [Pt.U, Pt.locs, Pt.cells, Pt.slots] at X' e1 e2 h1 h2 h3 st hcl
    subst h1; subst h2; subst h3
    exact Or.inr ⟨q, (T.setVm vm₁).calling g' mk (Value.ref b :: As).toArray, t, U', L, E, ce, hT, X', hL, e1, e2, hq, hce, hcv, vx_cls hW₁ hcl, st⟩
theorem vx_runSX {hh : List (Nat × Nat × Nat × Nat)} (S : CallFix p m c cc nL s args Ts own) (hM : vx_Met l y ws rm Pc Qc XC mc ms free) (cw : vx_CSW R s args own index y bytes maxL ret hh ws rm mc ms n) (hp : PreS s H Pc As)
    (hg : g.method = m) (hn : As.length = n) (hsize : g.locals.size = nL) (hstack : g.stack = As.reverse ++ rest) (hW : 2 * g.monitorRoom + (rest.map fun v => v.category).sum ≤ 8) (hdg : decode cc g.pc = .ok (.invokestatic index, 3)) (hf : cells + mc ≤ R.cells ∧ slots + ms ≤ R.slots) :
    vx_Run p l e R s m args below meth c H locs cells slots mc ms g rest (Qc As.toArray) XC free := by
  obtain ⟨⟨hrc, hrs, hfr, hlo, hws, hcw⟩, hcode, hini, hy, hlen, hl, hstt⟩ := cw
  have hK : vx_Back l R p e below s args y 3 8 (PreOf R mc ms Pc) (PostOf Qc mc ms free) (vx_Post XC mc ms free) := vx_backW (hh := hh) (bytes := bytes) (maxL := maxL) (ret := ret) hM hp.1 hrc hrs hfr hlo hws hcw (fun a' U hW => word_at hW (Or.inl (by first | rfl | simp [Cond.onTables, Cond.keeps, Cond.steady])) hini)
  obtain ⟨hx, hb, hml, ho, -⟩ := S
  intro T hT X
  rcases vx_callSX X hx (hh := hh) (bytes := bytes) (maxL := maxL) (ret := ret) ho hl hstt hini hcode hy hK hg (hsize.trans hml.symm) (argsL := As) (rest := rest) (fun sig h => hn.trans (hlen sig h)) hstack hW (by rw [hb]; exact hdg)
    (fun vm₁ hW₁ => ⟨hf.1, hf.2, hp.2 (T.setVm vm₁) hT hW₁⟩) with ⟨v, vm₁, ⟨U', l2, c2, s2⟩, hW₁, X', ⟨g', mk, t, L, e1, e2, hq, h1, hL, h2, h3⟩, st⟩ | ⟨q, vm₁, ⟨U', l2, c2, s2⟩, hW₁, X', ⟨g', mk, t, L, E, ce, e1, e2, hq, hce, hcv, hcl, h1, hL, h2, h3⟩, st⟩
  · dsimp only [Pt.U, Pt.locs, Pt.cells, Pt.slots] at X' e1 e2 h1 h2 h3 st
    subst h1; subst h2; subst h3
    exact Or.inl ⟨v, (T.setVm vm₁).calling g' mk As.toArray, t, U', L, hT, X', hL, e1, e2, hq, st⟩
  · dsimp only [Pt.U, Pt.locs, Pt.cells, Pt.slots] at X' e1 e2 h1 h2 h3 st hcl
    subst h1; subst h2; subst h3
    exact Or.inr ⟨q, (T.setVm vm₁).calling g' mk As.toArray, t, U', L, E, ce, hT, X', hL, e1, e2, hq, hce, hcv, vx_cls hW₁ hcl, st⟩
end
end VXH
theorem vx_ofWH {l : Launch} {y : MethodName} {ws ws' : List Cond} {rm : Room} {Pc : Array Value → State → Prop} {Qc : Array Value → State → Outcome → State → Prop} {XC : String → State → State → Prop} {mc ms : Nat} {free : Addr → Prop} {cc : ByteArray} {maxL : Nat} {ret : Option FieldType} {hh : List (Nat × Nat × Nat × Nat)}
    (hy : plainName y.cls = true) (hw : ws = Cond.codeWith y cc maxL ret hh :: ws')
    (body : ∀ p e s m args below meth c s₁, BodyLoose p l y (headSpec ws rm) cc maxL ret e s m args below meth c s₁ → c.maxLocals = maxL → Pc args s →
      W p l e (headSpec ws rm).room s m args below meth c s.heap [] 0 0 (vx_MQ below Qc XC args s mc ms free) (entryFrame m args maxL)) : vx_Met l y ws rm Pc Qc XC mc ms free := by
  refine MetFree.of_bodyS (code := cc) (maxLocals := maxL) (ret := ret) hy ?_ ?_
  · intro args s m h hn
    obtain ⟨m9, meth, c, hn9, h1, h2, h3, h4, -, h5, h6, -⟩ := Cond.codeWith_spec (atoms_spec (ws := ws) h _ (by rw [hw]; exact List.mem_cons_self))
    cases hn.symm.trans hn9
    exact ⟨meth, c, h1, h2, h3, h4, h5, h6⟩
  · intro p e s m args below meth c s₁ B hml hP _
    have hh0 : s₁.heap = s.heap := by rw [B.state]; rfl
    obtain ⟨t, a1, o, b1, b2, b3⟩ := body p e s m args below meth c s₁ B hml hP s₁ hh0 (Stand.of_body B)
    exact ⟨t, o, a1, b1, b2, b3⟩
/-! ===== END ===== -/
end
section
/-! ===== BEGIN printed: names, fields, word lists, decode rows ===== -/
def RX0 : String := "HammerEggs$Juggler"
def TX0 : u_T := fun k => match k with
  | 0 => ("HammerEggs$Juggler", "pattern", "LHammerEggs$Pattern;", true)
  | 1 => ("HammerEggs$Juggler", "hands", "[I", true)
  | 2 => ("HammerEggs$Juggler", "skill", "I", false)
  | 3 => ("HammerEggs$Juggler", "bruises", "I", false)
  | _ => ("HammerEggs$Juggler", "caught", "I", false)
def tyX0 : Nat → FieldType := fun k => match k with
  | 0 => .object "HammerEggs$Pattern"
  | 1 => .array .int
  | 2 => .int
  | 3 => .int
  | _ => .int
abbrev wsX00 : List Cond := u_ws RX0 TX0 5
theorem nmX0 : ∀ a, a < 5 → ∀ b, b < 5 → a ≠ b → (TX0 a).2.1 ≠ (TX0 b).2.1 := by decide +kernel
theorem tyX0_ok : ∀ k, k < 5 → parseFieldDescriptor (TX0 k).2.2.1 = some (tyX0 k) := by decide +kernel
abbrev cX0_init : ByteArray := prog_2_method_1_code
def yX0_init : MethodName := ⟨RX0, "<init>", "()V"⟩
abbrev cX0_copyFrom : ByteArray := prog_2_method_2_code
def yX0_copyFrom : MethodName := ⟨RX0, "copyFrom", "(LHammerEggs$Juggler;)V"⟩
abbrev cX0_canCatch : ByteArray := prog_2_method_3_code
def yX0_canCatch : MethodName := ⟨RX0, "canCatch", "(II)Z"⟩
abbrev cX0_miss : ByteArray := prog_2_method_4_code
def yX0_miss : MethodName := ⟨RX0, "miss", "(LHammerEggs$Thing;)V"⟩
abbrev cX0_thingsHeld : ByteArray := prog_2_method_5_code
def yX0_thingsHeld : MethodName := ⟨RX0, "thingsHeld", "()I"⟩
def RX1 : String := "HammerEggs$Pattern"
def TX1 : u_T := fun k => match k with
  | 0 => ("HammerEggs$Pattern", "heights", "[I", true)
  | 1 => ("HammerEggs$Pattern", "receivers", "[I", true)
  | _ => ("HammerEggs$Pattern", "length", "I", false)
def tyX1 : Nat → FieldType := fun k => match k with
  | 0 => .array .int
  | 1 => .array .int
  | _ => .int
abbrev wsX10 : List Cond := u_ws RX1 TX1 3
theorem nmX1 : ∀ a, a < 3 → ∀ b, b < 3 → a ≠ b → (TX1 a).2.1 ≠ (TX1 b).2.1 := by decide +kernel
theorem tyX1_ok : ∀ k, k < 3 → parseFieldDescriptor (TX1 k).2.2.1 = some (tyX1 k) := by decide +kernel
abbrev cX1_init : ByteArray := prog_3_method_1_code
def yX1_init : MethodName := ⟨RX1, "<init>", "()V"⟩
abbrev cX1_write : ByteArray := prog_3_method_2_code
def yX1_write : MethodName := ⟨RX1, "write", "(III)V"⟩
abbrev cX1_copyFrom : ByteArray := prog_3_method_3_code
def yX1_copyFrom : MethodName := ⟨RX1, "copyFrom", "(LHammerEggs$Pattern;)V"⟩
abbrev cX1_placeIn : ByteArray := prog_3_method_4_code
def yX1_placeIn : MethodName := ⟨RX1, "placeIn", "(I)I"⟩
abbrev cX1_addTo : ByteArray := prog_3_method_9_code
def yX1_addTo : MethodName := ⟨RX1, "addTo", "(J)J"⟩
def RX2 : String := "HammerEggs$Ring"
def TX2 : u_T := fun k => match k with
  | 0 => ("HammerEggs$Ring", "jugglers", "[LHammerEggs$Juggler;", true)
  | 1 => ("HammerEggs$Ring", "things", "[LHammerEggs$Thing;", true)
  | 2 => ("HammerEggs$Ring", "jugglerCount", "I", false)
  | 3 => ("HammerEggs$Ring", "thingCount", "I", false)
  | _ => ("HammerEggs$Ring", "beat", "I", false)
def tyX2 : Nat → FieldType := fun k => match k with
  | 0 => .array (.object "HammerEggs$Juggler")
  | 1 => .array (.object "HammerEggs$Thing")
  | 2 => .int
  | 3 => .int
  | _ => .int
abbrev wsX20 : List Cond := u_ws RX2 TX2 5
theorem nmX2 : ∀ a, a < 5 → ∀ b, b < 5 → a ≠ b → (TX2 a).2.1 ≠ (TX2 b).2.1 := by decide +kernel
theorem tyX2_ok : ∀ k, k < 5 → parseFieldDescriptor (TX2 k).2.2.1 = some (tyX2 k) := by decide +kernel
abbrev cX2_init : ByteArray := prog_4_method_1_code
def yX2_init : MethodName := ⟨RX2, "<init>", "()V"⟩
abbrev cX2_copyFrom : ByteArray := prog_4_method_2_code
def yX2_copyFrom : MethodName := ⟨RX2, "copyFrom", "(LHammerEggs$Ring;)V"⟩
abbrev cX2_hasJuggler : ByteArray := prog_4_method_3_code
def yX2_hasJuggler : MethodName := ⟨RX2, "hasJuggler", "(I)Z"⟩
abbrev cX2_hasThing : ByteArray := prog_4_method_4_code
def yX2_hasThing : MethodName := ⟨RX2, "hasThing", "(I)Z"⟩
abbrev cX2_addJuggler : ByteArray := prog_4_method_5_code
def yX2_addJuggler : MethodName := ⟨RX2, "addJuggler", "(I)I"⟩
abbrev cX2_addThing : ByteArray := prog_4_method_6_code
def yX2_addThing : MethodName := ⟨RX2, "addThing", "(I)I"⟩
abbrev cX2_putIntoHand : ByteArray := prog_4_method_7_code
def yX2_putIntoHand : MethodName := ⟨RX2, "putIntoHand", "(III)V"⟩
abbrev cX2_play : ByteArray := prog_4_method_8_code
def yX2_play : MethodName := ⟨RX2, "play", "(I)I"⟩
abbrev cX2_playBeat : ByteArray := prog_4_method_9_code
def yX2_playBeat : MethodName := ⟨RX2, "playBeat", "()I"⟩
abbrev cX2_comeDown : ByteArray := prog_4_method_10_code
def yX2_comeDown : MethodName := ⟨RX2, "comeDown", "(I)I"⟩
abbrev cX2_throwFrom : ByteArray := prog_4_method_11_code
def yX2_throwFrom : MethodName := ⟨RX2, "throwFrom", "(LHammerEggs$Juggler;I)V"⟩
abbrev cX2_thingsIn : ByteArray := prog_4_method_12_code
def yX2_thingsIn : MethodName := ⟨RX2, "thingsIn", "(I)I"⟩
abbrev cX2_thingsFlyingTo : ByteArray := prog_4_method_13_code
def yX2_thingsFlyingTo : MethodName := ⟨RX2, "thingsFlyingTo", "(I)I"⟩
abbrev cX2_allThrown : ByteArray := prog_4_method_14_code
def yX2_allThrown : MethodName := ⟨RX2, "allThrown", "()I"⟩
abbrev cX2_allFell : ByteArray := prog_4_method_15_code
def yX2_allFell : MethodName := ⟨RX2, "allFell", "()I"⟩
abbrev cX2_allBruises : ByteArray := prog_4_method_16_code
def yX2_allBruises : MethodName := ⟨RX2, "allBruises", "()I"⟩
abbrev cX2_tellThing : ByteArray := prog_4_method_17_code
def yX2_tellThing : MethodName := ⟨RX2, "tellThing", "(II)I"⟩
abbrev cX2_tellJuggler : ByteArray := prog_4_method_18_code
def yX2_tellJuggler : MethodName := ⟨RX2, "tellJuggler", "(II)I"⟩
abbrev cX2_tellCount : ByteArray := prog_4_method_19_code
def yX2_tellCount : MethodName := ⟨RX2, "tellCount", "(I)I"⟩
def RX3 : String := "HammerEggs$Thing"
def TX3 : u_T := fun k => match k with
  | 0 => ("HammerEggs$Thing", "kind", "I", false)
  | 1 => ("HammerEggs$Thing", "state", "I", false)
  | 2 => ("HammerEggs$Thing", "juggler", "I", false)
  | 3 => ("HammerEggs$Thing", "hand", "I", false)
  | 4 => ("HammerEggs$Thing", "due", "I", false)
  | 5 => ("HammerEggs$Thing", "height", "I", false)
  | 6 => ("HammerEggs$Thing", "thrown", "I", false)
  | _ => ("HammerEggs$Thing", "fell", "I", false)
def tyX3 : Nat → FieldType := fun k => match k with
  | 0 => .int
  | 1 => .int
  | 2 => .int
  | 3 => .int
  | 4 => .int
  | 5 => .int
  | 6 => .int
  | _ => .int
abbrev wsX30 : List Cond := u_ws RX3 TX3 8
theorem nmX3 : ∀ a, a < 8 → ∀ b, b < 8 → a ≠ b → (TX3 a).2.1 ≠ (TX3 b).2.1 := by decide +kernel
theorem tyX3_ok : ∀ k, k < 8 → parseFieldDescriptor (TX3 k).2.2.1 = some (tyX3 k) := by decide +kernel
abbrev cX3_init : ByteArray := prog_5_method_1_code
def yX3_init : MethodName := ⟨RX3, "<init>", "()V"⟩
abbrev cX3_copyFrom : ByteArray := prog_5_method_2_code
def yX3_copyFrom : MethodName := ⟨RX3, "copyFrom", "(LHammerEggs$Thing;)V"⟩
abbrev cX3_comesDownIn : ByteArray := prog_5_method_3_code
def yX3_comesDownIn : MethodName := ⟨RX3, "comesDownIn", "(I)Z"⟩
abbrev cX3_beatsInAir : ByteArray := prog_5_method_4_code
def yX3_beatsInAir : MethodName := ⟨RX3, "beatsInAir", "(I)I"⟩
abbrev cX3_fly : ByteArray := prog_5_method_5_code
def yX3_fly : MethodName := ⟨RX3, "fly", "(III)V"⟩
abbrev cX3_fall : ByteArray := prog_5_method_6_code
def yX3_fall : MethodName := ⟨RX3, "fall", "()V"⟩
def RX4 : String := "HammerEggs"
def TX4 : u_T := fun k => match k with
  | 0 => ("HammerEggs", "now", "LHammerEggs$Ring;", true)
  | _ => ("HammerEggs", "trial", "LHammerEggs$Ring;", true)
def tyX4 : Nat → FieldType := fun k => match k with
  | 0 => .object "HammerEggs$Ring"
  | _ => .object "HammerEggs$Ring"
abbrev wsX40 : List Cond := u_ws RX4 TX4 2
theorem nmX4 : ∀ a, a < 2 → ∀ b, b < 2 → a ≠ b → (TX4 a).2.1 ≠ (TX4 b).2.1 := by decide +kernel
theorem tyX4_ok : ∀ k, k < 2 → parseFieldDescriptor (TX4 k).2.2.1 = some (tyX4 k) := by decide +kernel
abbrev cX4_init : ByteArray := prog_1_method_1_code
def yX4_init : MethodName := ⟨RX4, "<init>", "()V"⟩
abbrev cX4_come : ByteArray := prog_1_method_2_code
def yX4_come : MethodName := ⟨RX4, "come", "(I)I"⟩
abbrev cX4_setPattern : ByteArray := prog_1_method_3_code
def yX4_setPattern : MethodName := ⟨RX4, "setPattern", "(III)I"⟩
abbrev cX4_pass : ByteArray := prog_1_method_4_code
def yX4_pass : MethodName := ⟨RX4, "pass", "(III)I"⟩
abbrev cX4_written : ByteArray := prog_1_method_5_code
def yX4_written : MethodName := ⟨RX4, "written", "(III)I"⟩
abbrev cX4_make : ByteArray := prog_1_method_6_code
def yX4_make : MethodName := ⟨RX4, "make", "(I)I"⟩
abbrev cX4_give : ByteArray := prog_1_method_7_code
def yX4_give : MethodName := ⟨RX4, "give", "(III)I"⟩
abbrev cX4_thing : ByteArray := prog_1_method_8_code
def yX4_thing : MethodName := ⟨RX4, "thing", "(II)I"⟩
abbrev cX4_juggler : ByteArray := prog_1_method_9_code
def yX4_juggler : MethodName := ⟨RX4, "juggler", "(II)I"⟩
abbrev cX4_go : ByteArray := prog_1_method_13_code
def yX4_go : MethodName := ⟨RX4, "go", "(I)I"⟩
abbrev cX4_count : ByteArray := prog_1_method_14_code
def yX4_count : MethodName := ⟨RX4, "count", "(I)I"⟩
abbrev cX4_falls : ByteArray := prog_1_method_15_code
def yX4_falls : MethodName := ⟨RX4, "falls", "()I"⟩
abbrev cX4_foresee : ByteArray := prog_1_method_16_code
def yX4_foresee : MethodName := ⟨RX4, "foresee", "(II)I"⟩
abbrev cX4_advise : ByteArray := prog_1_method_17_code
def yX4_advise : MethodName := ⟨RX4, "advise", "(II)I"⟩
abbrev cX4_mean : ByteArray := prog_1_method_18_code
def yX4_mean : MethodName := ⟨RX4, "mean", "()D"⟩
abbrev cX4_digest : ByteArray := prog_1_method_19_code
def yX4_digest : MethodName := ⟨RX4, "digest", "()J"⟩
abbrev cX4_fallenWith : ByteArray := prog_1_method_20_code
def yX4_fallenWith : MethodName := ⟨RX4, "fallenWith", "(IIII)I"⟩
abbrev cX4_testJuggler : ByteArray := prog_1_method_21_code
def yX4_testJuggler : MethodName := ⟨RX4, "testJuggler", "(I)V"⟩
abbrev cX4_testPlace : ByteArray := prog_1_method_22_code
def yX4_testPlace : MethodName := ⟨RX4, "testPlace", "(II)V"⟩
abbrev cX4_testThing : ByteArray := prog_1_method_23_code
def yX4_testThing : MethodName := ⟨RX4, "testThing", "(I)V"⟩
abbrev cX4_testWhat : ByteArray := prog_1_method_24_code
def yX4_testWhat : MethodName := ⟨RX4, "testWhat", "(II)V"⟩
abbrev cX4_testBeats : ByteArray := prog_1_method_25_code
def yX4_testBeats : MethodName := ⟨RX4, "testBeats", "(II)V"⟩
abbrev cX4_powerOfTen : ByteArray := prog_1_method_26_code
def yX4_powerOfTen : MethodName := ⟨RX4, "powerOfTen", "(I)I"⟩
def RX5 : String := "HammerEggsModel$State"
def TX5 : u_T := fun k => match k with
  | _ => ("", "", "", false)
def tyX5 : Nat → FieldType := fun k => match k with
  | _ => .int
abbrev wsX50 : List Cond := u_ws RX5 TX5 0
theorem nmX5 : ∀ a, a < 0 → ∀ b, b < 0 → a ≠ b → (TX5 a).2.1 ≠ (TX5 b).2.1 := by decide +kernel
theorem tyX5_ok : ∀ k, k < 0 → parseFieldDescriptor (TX5 k).2.2.1 = some (tyX5 k) := by decide +kernel
def RX6 : String := "HammerEggsModel"
def TX6 : u_T := fun k => match k with
  | _ => ("", "", "", false)
def tyX6 : Nat → FieldType := fun k => match k with
  | _ => .int
abbrev wsX60 : List Cond := u_ws RX6 TX6 0
theorem nmX6 : ∀ a, a < 0 → ∀ b, b < 0 → a ≠ b → (TX6 a).2.1 ≠ (TX6 b).2.1 := by decide +kernel
theorem tyX6_ok : ∀ k, k < 0 → parseFieldDescriptor (TX6 k).2.2.1 = some (tyX6 k) := by decide +kernel
def RJ9 : String := "java/lang/Math"
def TJ9 : u_T := fun k => match k with
  | _ => ("", "", "", false)
def tyJ9 : Nat → FieldType := fun k => match k with
  | _ => .int
abbrev wsJ90 : List Cond := u_ws RJ9 TJ9 0
theorem nmJ9 : ∀ a, a < 0 → ∀ b, b < 0 → a ≠ b → (TJ9 a).2.1 ≠ (TJ9 b).2.1 := by decide +kernel
theorem tyJ9_ok : ∀ k, k < 0 → parseFieldDescriptor (TJ9 k).2.2.1 = some (tyJ9 k) := by decide +kernel
abbrev cJ9_floorMod_7cf53 : ByteArray := prog_13_method_50_code
def yJ9_floorMod_7cf53 : MethodName := ⟨RJ9, "floorMod", "(II)I"⟩
def RJ0 : String := "java/lang/String"
def TJ0 : u_T := fun k => match k with
  | _ => ("", "", "", false)
def tyJ0 : Nat → FieldType := fun k => match k with
  | _ => .int
abbrev wsJ00 : List Cond := u_ws RJ0 TJ0 0
theorem nmJ0 : ∀ a, a < 0 → ∀ b, b < 0 → a ≠ b → (TJ0 a).2.1 ≠ (TJ0 b).2.1 := by decide +kernel
theorem tyJ0_ok : ∀ k, k < 0 → parseFieldDescriptor (TJ0 k).2.2.1 = some (tyJ0 k) := by decide +kernel
def RL : String := "HammerEggsLaw"
abbrev cL_below : ByteArray := method_2_code
def yL_below : MethodName := ⟨RL, "below", "(II)I"⟩
abbrev cL_cell : ByteArray := method_3_code
def yL_cell : MethodName := ⟨RL, "cell", "([II)I"⟩
abbrev cL_heights : ByteArray := method_4_code
def yL_heights : MethodName := ⟨RL, "heights", "(II)I"⟩
abbrev cL_ring : ByteArray := method_5_code
def yL_ring : MethodName := ⟨RL, "ring", "([I)LHammerEggs;"⟩
abbrev cL_give : ByteArray := method_6_code
def yL_give : MethodName := ⟨RL, "give", "(LHammerEggs;III)I"⟩
abbrev cL_law : ByteArray := code
def yL_law : MethodName := ⟨RL, "law", "([I)Z"⟩
abbrev vwCl : List vw_C := [(RX0, TX0, 5), (RX1, TX1, 3), (RX2, TX2, 5), (RX3, TX3, 8), (RX4, TX4, 2)]
end
section
theorem dX0_init_0 : decode cX0_init 0 = .ok (.aload_n 0, 1) := by decide +kernel
theorem dX0_init_1 : decode cX0_init 1 = .ok (.invokespecial 3, 3) := by decide +kernel
theorem dX0_init_4 : decode cX0_init 4 = .ok (.aload_n 0, 1) := by decide +kernel
theorem dX0_init_5 : decode cX0_init 5 = .ok (.new 9, 3) := by decide +kernel
theorem dX0_init_8 : decode cX0_init 8 = .ok (.dup, 1) := by decide +kernel
theorem dX0_init_9 : decode cX0_init 9 = .ok (.invokespecial 11, 3) := by decide +kernel
theorem dX0_init_12 : decode cX0_init 12 = .ok (.putfield 12, 3) := by decide +kernel
theorem dX0_init_15 : decode cX0_init 15 = .ok (.aload_n 0, 1) := by decide +kernel
theorem dX0_init_16 : decode cX0_init 16 = .ok (.iconst 2, 1) := by decide +kernel
theorem dX0_init_17 : decode cX0_init 17 = .ok (.newarray .int, 2) := by decide +kernel
theorem dX0_init_19 : decode cX0_init 19 = .ok (.dup, 1) := by decide +kernel
theorem dX0_init_20 : decode cX0_init 20 = .ok (.iconst 0, 1) := by decide +kernel
theorem dX0_init_21 : decode cX0_init 21 = .ok (.iconst (-1), 1) := by decide +kernel
theorem dX0_init_22 : decode cX0_init 22 = .ok (.iastore, 1) := by decide +kernel
theorem dX0_init_23 : decode cX0_init 23 = .ok (.dup, 1) := by decide +kernel
theorem dX0_init_24 : decode cX0_init 24 = .ok (.iconst 1, 1) := by decide +kernel
theorem dX0_init_25 : decode cX0_init 25 = .ok (.iconst (-1), 1) := by decide +kernel
theorem dX0_init_26 : decode cX0_init 26 = .ok (.iastore, 1) := by decide +kernel
theorem dX0_init_27 : decode cX0_init 27 = .ok (.putfield 18, 3) := by decide +kernel
theorem dX0_init_30 : decode cX0_init 30 = .ok (.return_, 1) := by decide +kernel
theorem dX0_copyFrom_0 : decode cX0_copyFrom 0 = .ok (.aload_n 0, 1) := by decide +kernel
theorem dX0_copyFrom_1 : decode cX0_copyFrom 1 = .ok (.getfield 12, 3) := by decide +kernel
theorem dX0_copyFrom_4 : decode cX0_copyFrom 4 = .ok (.aload_n 1, 1) := by decide +kernel
theorem dX0_copyFrom_5 : decode cX0_copyFrom 5 = .ok (.getfield 12, 3) := by decide +kernel
theorem dX0_copyFrom_8 : decode cX0_copyFrom 8 = .ok (.invokevirtual 22, 3) := by decide +kernel
theorem dX0_copyFrom_11 : decode cX0_copyFrom 11 = .ok (.iconst 0, 1) := by decide +kernel
theorem dX0_copyFrom_12 : decode cX0_copyFrom 12 = .ok (.istore_n 2, 1) := by decide +kernel
theorem dX0_copyFrom_13 : decode cX0_copyFrom 13 = .ok (.iload_n 2, 1) := by decide +kernel
theorem dX0_copyFrom_14 : decode cX0_copyFrom 14 = .ok (.iconst 2, 1) := by decide +kernel
theorem dX0_copyFrom_15 : decode cX0_copyFrom 15 = .ok (.if_icmp .ge 21, 3) := by decide +kernel
theorem dX0_copyFrom_18 : decode cX0_copyFrom 18 = .ok (.aload_n 0, 1) := by decide +kernel
theorem dX0_copyFrom_19 : decode cX0_copyFrom 19 = .ok (.getfield 18, 3) := by decide +kernel
theorem dX0_copyFrom_22 : decode cX0_copyFrom 22 = .ok (.iload_n 2, 1) := by decide +kernel
theorem dX0_copyFrom_23 : decode cX0_copyFrom 23 = .ok (.aload_n 1, 1) := by decide +kernel
theorem dX0_copyFrom_24 : decode cX0_copyFrom 24 = .ok (.getfield 18, 3) := by decide +kernel
theorem dX0_copyFrom_27 : decode cX0_copyFrom 27 = .ok (.iload_n 2, 1) := by decide +kernel
theorem dX0_copyFrom_28 : decode cX0_copyFrom 28 = .ok (.iaload, 1) := by decide +kernel
theorem dX0_copyFrom_29 : decode cX0_copyFrom 29 = .ok (.iastore, 1) := by decide +kernel
theorem dX0_copyFrom_30 : decode cX0_copyFrom 30 = .ok (.iinc 2 1, 3) := by decide +kernel
theorem dX0_copyFrom_33 : decode cX0_copyFrom 33 = .ok (.goto (-20), 3) := by decide +kernel
theorem dX0_copyFrom_36 : decode cX0_copyFrom 36 = .ok (.aload_n 0, 1) := by decide +kernel
theorem dX0_copyFrom_37 : decode cX0_copyFrom 37 = .ok (.aload_n 1, 1) := by decide +kernel
theorem dX0_copyFrom_38 : decode cX0_copyFrom 38 = .ok (.getfield 26, 3) := by decide +kernel
theorem dX0_copyFrom_41 : decode cX0_copyFrom 41 = .ok (.putfield 26, 3) := by decide +kernel
theorem dX0_copyFrom_44 : decode cX0_copyFrom 44 = .ok (.aload_n 0, 1) := by decide +kernel
theorem dX0_copyFrom_45 : decode cX0_copyFrom 45 = .ok (.aload_n 1, 1) := by decide +kernel
theorem dX0_copyFrom_46 : decode cX0_copyFrom 46 = .ok (.getfield 30, 3) := by decide +kernel
theorem dX0_copyFrom_49 : decode cX0_copyFrom 49 = .ok (.putfield 30, 3) := by decide +kernel
theorem dX0_copyFrom_52 : decode cX0_copyFrom 52 = .ok (.aload_n 0, 1) := by decide +kernel
theorem dX0_copyFrom_53 : decode cX0_copyFrom 53 = .ok (.aload_n 1, 1) := by decide +kernel
theorem dX0_copyFrom_54 : decode cX0_copyFrom 54 = .ok (.getfield 33, 3) := by decide +kernel
theorem dX0_copyFrom_57 : decode cX0_copyFrom 57 = .ok (.putfield 33, 3) := by decide +kernel
theorem dX0_copyFrom_60 : decode cX0_copyFrom 60 = .ok (.return_, 1) := by decide +kernel
theorem dX0_canCatch_0 : decode cX0_canCatch 0 = .ok (.aload_n 0, 1) := by decide +kernel
theorem dX0_canCatch_1 : decode cX0_canCatch 1 = .ok (.getfield 18, 3) := by decide +kernel
theorem dX0_canCatch_4 : decode cX0_canCatch 4 = .ok (.iload_n 2, 1) := by decide +kernel
theorem dX0_canCatch_5 : decode cX0_canCatch 5 = .ok (.iaload, 1) := by decide +kernel
theorem dX0_canCatch_6 : decode cX0_canCatch 6 = .ok (.iconst (-1), 1) := by decide +kernel
theorem dX0_canCatch_7 : decode cX0_canCatch 7 = .ok (.if_icmp .ne 17, 3) := by decide +kernel
theorem dX0_canCatch_10 : decode cX0_canCatch 10 = .ok (.iload_n 1, 1) := by decide +kernel
theorem dX0_canCatch_11 : decode cX0_canCatch 11 = .ok (.aload_n 0, 1) := by decide +kernel
theorem dX0_canCatch_12 : decode cX0_canCatch 12 = .ok (.getfield 26, 3) := by decide +kernel
theorem dX0_canCatch_15 : decode cX0_canCatch 15 = .ok (.iconst 2, 1) := by decide +kernel
theorem dX0_canCatch_16 : decode cX0_canCatch 16 = .ok (.iadd, 1) := by decide +kernel
theorem dX0_canCatch_17 : decode cX0_canCatch 17 = .ok (.if_icmp .gt 7, 3) := by decide +kernel
theorem dX0_canCatch_20 : decode cX0_canCatch 20 = .ok (.iconst 1, 1) := by decide +kernel
theorem dX0_canCatch_21 : decode cX0_canCatch 21 = .ok (.goto 4, 3) := by decide +kernel
theorem dX0_canCatch_24 : decode cX0_canCatch 24 = .ok (.iconst 0, 1) := by decide +kernel
theorem dX0_canCatch_25 : decode cX0_canCatch 25 = .ok (.ireturn, 1) := by decide +kernel
theorem dX0_miss_0 : decode cX0_miss 0 = .ok (.aload_n 1, 1) := by decide +kernel
theorem dX0_miss_1 : decode cX0_miss 1 = .ok (.getfield 36, 3) := by decide +kernel
theorem dX0_miss_4 : decode cX0_miss 4 = .ok (.iconst 1, 1) := by decide +kernel
theorem dX0_miss_5 : decode cX0_miss 5 = .ok (.if_icmp .ne 13, 3) := by decide +kernel
theorem dX0_miss_8 : decode cX0_miss 8 = .ok (.aload_n 0, 1) := by decide +kernel
theorem dX0_miss_9 : decode cX0_miss 9 = .ok (.dup, 1) := by decide +kernel
theorem dX0_miss_10 : decode cX0_miss 10 = .ok (.getfield 30, 3) := by decide +kernel
theorem dX0_miss_13 : decode cX0_miss 13 = .ok (.iconst 1, 1) := by decide +kernel
theorem dX0_miss_14 : decode cX0_miss 14 = .ok (.iadd, 1) := by decide +kernel
theorem dX0_miss_15 : decode cX0_miss 15 = .ok (.putfield 30, 3) := by decide +kernel
theorem dX0_miss_18 : decode cX0_miss 18 = .ok (.aload_n 1, 1) := by decide +kernel
theorem dX0_miss_19 : decode cX0_miss 19 = .ok (.invokevirtual 41, 3) := by decide +kernel
theorem dX0_miss_22 : decode cX0_miss 22 = .ok (.return_, 1) := by decide +kernel
theorem dX0_thingsHeld_0 : decode cX0_thingsHeld 0 = .ok (.iconst 0, 1) := by decide +kernel
theorem dX0_thingsHeld_1 : decode cX0_thingsHeld 1 = .ok (.istore_n 1, 1) := by decide +kernel
theorem dX0_thingsHeld_2 : decode cX0_thingsHeld 2 = .ok (.iconst 0, 1) := by decide +kernel
theorem dX0_thingsHeld_3 : decode cX0_thingsHeld 3 = .ok (.istore_n 2, 1) := by decide +kernel
theorem dX0_thingsHeld_4 : decode cX0_thingsHeld 4 = .ok (.iload_n 2, 1) := by decide +kernel
theorem dX0_thingsHeld_5 : decode cX0_thingsHeld 5 = .ok (.iconst 2, 1) := by decide +kernel
theorem dX0_thingsHeld_6 : decode cX0_thingsHeld 6 = .ok (.if_icmp .ge 22, 3) := by decide +kernel
theorem dX0_thingsHeld_9 : decode cX0_thingsHeld 9 = .ok (.aload_n 0, 1) := by decide +kernel
theorem dX0_thingsHeld_10 : decode cX0_thingsHeld 10 = .ok (.getfield 18, 3) := by decide +kernel
theorem dX0_thingsHeld_13 : decode cX0_thingsHeld 13 = .ok (.iload_n 2, 1) := by decide +kernel
theorem dX0_thingsHeld_14 : decode cX0_thingsHeld 14 = .ok (.iaload, 1) := by decide +kernel
theorem dX0_thingsHeld_15 : decode cX0_thingsHeld 15 = .ok (.iconst (-1), 1) := by decide +kernel
theorem dX0_thingsHeld_16 : decode cX0_thingsHeld 16 = .ok (.if_icmp .eq 6, 3) := by decide +kernel
theorem dX0_thingsHeld_19 : decode cX0_thingsHeld 19 = .ok (.iinc 1 1, 3) := by decide +kernel
theorem dX0_thingsHeld_22 : decode cX0_thingsHeld 22 = .ok (.iinc 2 1, 3) := by decide +kernel
theorem dX0_thingsHeld_25 : decode cX0_thingsHeld 25 = .ok (.goto (-21), 3) := by decide +kernel
theorem dX0_thingsHeld_28 : decode cX0_thingsHeld 28 = .ok (.iload_n 1, 1) := by decide +kernel
theorem dX0_thingsHeld_29 : decode cX0_thingsHeld 29 = .ok (.ireturn, 1) := by decide +kernel
theorem dX1_init_0 : decode cX1_init 0 = .ok (.aload_n 0, 1) := by decide +kernel
theorem dX1_init_1 : decode cX1_init 1 = .ok (.invokespecial 3, 3) := by decide +kernel
theorem dX1_init_4 : decode cX1_init 4 = .ok (.aload_n 0, 1) := by decide +kernel
theorem dX1_init_5 : decode cX1_init 5 = .ok (.bipush 8, 2) := by decide +kernel
theorem dX1_init_7 : decode cX1_init 7 = .ok (.newarray .int, 2) := by decide +kernel
theorem dX1_init_9 : decode cX1_init 9 = .ok (.putfield 9, 3) := by decide +kernel
theorem dX1_init_12 : decode cX1_init 12 = .ok (.aload_n 0, 1) := by decide +kernel
theorem dX1_init_13 : decode cX1_init 13 = .ok (.bipush 8, 2) := by decide +kernel
theorem dX1_init_15 : decode cX1_init 15 = .ok (.newarray .int, 2) := by decide +kernel
theorem dX1_init_17 : decode cX1_init 17 = .ok (.putfield 15, 3) := by decide +kernel
theorem dX1_init_20 : decode cX1_init 20 = .ok (.aload_n 0, 1) := by decide +kernel
theorem dX1_init_21 : decode cX1_init 21 = .ok (.iconst 1, 1) := by decide +kernel
theorem dX1_init_22 : decode cX1_init 22 = .ok (.putfield 18, 3) := by decide +kernel
theorem dX1_init_25 : decode cX1_init 25 = .ok (.return_, 1) := by decide +kernel
theorem dX1_write_0 : decode cX1_write 0 = .ok (.aload_n 0, 1) := by decide +kernel
theorem dX1_write_1 : decode cX1_write 1 = .ok (.iload_n 2, 1) := by decide +kernel
theorem dX1_write_2 : decode cX1_write 2 = .ok (.putfield 18, 3) := by decide +kernel
theorem dX1_write_5 : decode cX1_write 5 = .ok (.iload_n 3, 1) := by decide +kernel
theorem dX1_write_6 : decode cX1_write 6 = .ok (.istore 4, 2) := by decide +kernel
theorem dX1_write_8 : decode cX1_write 8 = .ok (.aload_n 0, 1) := by decide +kernel
theorem dX1_write_9 : decode cX1_write 9 = .ok (.getfield 18, 3) := by decide +kernel
theorem dX1_write_12 : decode cX1_write 12 = .ok (.iconst 1, 1) := by decide +kernel
theorem dX1_write_13 : decode cX1_write 13 = .ok (.isub, 1) := by decide +kernel
theorem dX1_write_14 : decode cX1_write 14 = .ok (.istore 5, 2) := by decide +kernel
theorem dX1_write_16 : decode cX1_write 16 = .ok (.iload 5, 2) := by decide +kernel
theorem dX1_write_18 : decode cX1_write 18 = .ok (.ifCond .lt 36, 3) := by decide +kernel
theorem dX1_write_21 : decode cX1_write 21 = .ok (.aload_n 0, 1) := by decide +kernel
theorem dX1_write_22 : decode cX1_write 22 = .ok (.getfield 9, 3) := by decide +kernel
theorem dX1_write_25 : decode cX1_write 25 = .ok (.iload 5, 2) := by decide +kernel
theorem dX1_write_27 : decode cX1_write 27 = .ok (.iload 4, 2) := by decide +kernel
theorem dX1_write_29 : decode cX1_write 29 = .ok (.bipush 10, 2) := by decide +kernel
theorem dX1_write_31 : decode cX1_write 31 = .ok (.irem, 1) := by decide +kernel
theorem dX1_write_32 : decode cX1_write 32 = .ok (.iastore, 1) := by decide +kernel
theorem dX1_write_33 : decode cX1_write 33 = .ok (.aload_n 0, 1) := by decide +kernel
theorem dX1_write_34 : decode cX1_write 34 = .ok (.getfield 15, 3) := by decide +kernel
theorem dX1_write_37 : decode cX1_write 37 = .ok (.iload 5, 2) := by decide +kernel
theorem dX1_write_39 : decode cX1_write 39 = .ok (.iload_n 1, 1) := by decide +kernel
theorem dX1_write_40 : decode cX1_write 40 = .ok (.iastore, 1) := by decide +kernel
theorem dX1_write_41 : decode cX1_write 41 = .ok (.iload 4, 2) := by decide +kernel
theorem dX1_write_43 : decode cX1_write 43 = .ok (.bipush 10, 2) := by decide +kernel
theorem dX1_write_45 : decode cX1_write 45 = .ok (.idiv, 1) := by decide +kernel
theorem dX1_write_46 : decode cX1_write 46 = .ok (.istore 4, 2) := by decide +kernel
theorem dX1_write_48 : decode cX1_write 48 = .ok (.iinc 5 (-1), 3) := by decide +kernel
theorem dX1_write_51 : decode cX1_write 51 = .ok (.goto (-35), 3) := by decide +kernel
theorem dX1_write_54 : decode cX1_write 54 = .ok (.return_, 1) := by decide +kernel
theorem dX1_copyFrom_0 : decode cX1_copyFrom 0 = .ok (.aload_n 0, 1) := by decide +kernel
theorem dX1_copyFrom_1 : decode cX1_copyFrom 1 = .ok (.aload_n 1, 1) := by decide +kernel
theorem dX1_copyFrom_2 : decode cX1_copyFrom 2 = .ok (.getfield 18, 3) := by decide +kernel
theorem dX1_copyFrom_5 : decode cX1_copyFrom 5 = .ok (.putfield 18, 3) := by decide +kernel
theorem dX1_copyFrom_8 : decode cX1_copyFrom 8 = .ok (.iconst 0, 1) := by decide +kernel
theorem dX1_copyFrom_9 : decode cX1_copyFrom 9 = .ok (.istore_n 2, 1) := by decide +kernel
theorem dX1_copyFrom_10 : decode cX1_copyFrom 10 = .ok (.iload_n 2, 1) := by decide +kernel
theorem dX1_copyFrom_11 : decode cX1_copyFrom 11 = .ok (.aload_n 0, 1) := by decide +kernel
theorem dX1_copyFrom_12 : decode cX1_copyFrom 12 = .ok (.getfield 18, 3) := by decide +kernel
theorem dX1_copyFrom_15 : decode cX1_copyFrom 15 = .ok (.if_icmp .ge 33, 3) := by decide +kernel
theorem dX1_copyFrom_18 : decode cX1_copyFrom 18 = .ok (.aload_n 0, 1) := by decide +kernel
theorem dX1_copyFrom_19 : decode cX1_copyFrom 19 = .ok (.getfield 9, 3) := by decide +kernel
theorem dX1_copyFrom_22 : decode cX1_copyFrom 22 = .ok (.iload_n 2, 1) := by decide +kernel
theorem dX1_copyFrom_23 : decode cX1_copyFrom 23 = .ok (.aload_n 1, 1) := by decide +kernel
theorem dX1_copyFrom_24 : decode cX1_copyFrom 24 = .ok (.getfield 9, 3) := by decide +kernel
theorem dX1_copyFrom_27 : decode cX1_copyFrom 27 = .ok (.iload_n 2, 1) := by decide +kernel
theorem dX1_copyFrom_28 : decode cX1_copyFrom 28 = .ok (.iaload, 1) := by decide +kernel
theorem dX1_copyFrom_29 : decode cX1_copyFrom 29 = .ok (.iastore, 1) := by decide +kernel
theorem dX1_copyFrom_30 : decode cX1_copyFrom 30 = .ok (.aload_n 0, 1) := by decide +kernel
theorem dX1_copyFrom_31 : decode cX1_copyFrom 31 = .ok (.getfield 15, 3) := by decide +kernel
theorem dX1_copyFrom_34 : decode cX1_copyFrom 34 = .ok (.iload_n 2, 1) := by decide +kernel
theorem dX1_copyFrom_35 : decode cX1_copyFrom 35 = .ok (.aload_n 1, 1) := by decide +kernel
theorem dX1_copyFrom_36 : decode cX1_copyFrom 36 = .ok (.getfield 15, 3) := by decide +kernel
theorem dX1_copyFrom_39 : decode cX1_copyFrom 39 = .ok (.iload_n 2, 1) := by decide +kernel
theorem dX1_copyFrom_40 : decode cX1_copyFrom 40 = .ok (.iaload, 1) := by decide +kernel
theorem dX1_copyFrom_41 : decode cX1_copyFrom 41 = .ok (.iastore, 1) := by decide +kernel
theorem dX1_copyFrom_42 : decode cX1_copyFrom 42 = .ok (.iinc 2 1, 3) := by decide +kernel
theorem dX1_copyFrom_45 : decode cX1_copyFrom 45 = .ok (.goto (-35), 3) := by decide +kernel
theorem dX1_copyFrom_48 : decode cX1_copyFrom 48 = .ok (.return_, 1) := by decide +kernel
theorem dX1_placeIn_0 : decode cX1_placeIn 0 = .ok (.iload_n 1, 1) := by decide +kernel
theorem dX1_placeIn_1 : decode cX1_placeIn 1 = .ok (.aload_n 0, 1) := by decide +kernel
theorem dX1_placeIn_2 : decode cX1_placeIn 2 = .ok (.getfield 18, 3) := by decide +kernel
theorem dX1_placeIn_5 : decode cX1_placeIn 5 = .ok (.invokestatic 22, 3) := by decide +kernel
theorem dX1_placeIn_8 : decode cX1_placeIn 8 = .ok (.ireturn, 1) := by decide +kernel
theorem dX1_addTo_0 : decode cX1_addTo 0 = .ok (.lload_n 1, 1) := by decide +kernel
theorem dX1_addTo_1 : decode cX1_addTo 1 = .ok (.lstore_n 3, 1) := by decide +kernel
theorem dX1_addTo_2 : decode cX1_addTo 2 = .ok (.iconst 0, 1) := by decide +kernel
theorem dX1_addTo_3 : decode cX1_addTo 3 = .ok (.istore 5, 2) := by decide +kernel
theorem dX1_addTo_5 : decode cX1_addTo 5 = .ok (.iload 5, 2) := by decide +kernel
theorem dX1_addTo_7 : decode cX1_addTo 7 = .ok (.aload_n 0, 1) := by decide +kernel
theorem dX1_addTo_8 : decode cX1_addTo 8 = .ok (.getfield 18, 3) := by decide +kernel
theorem dX1_addTo_11 : decode cX1_addTo 11 = .ok (.if_icmp .ge 39, 3) := by decide +kernel
theorem dX1_addTo_14 : decode cX1_addTo 14 = .ok (.lload_n 3, 1) := by decide +kernel
theorem dX1_addTo_15 : decode cX1_addTo 15 = .ok (.ldc2_w 32, 3) := by decide +kernel
theorem dX1_addTo_18 : decode cX1_addTo 18 = .ok (.lmul, 1) := by decide +kernel
theorem dX1_addTo_19 : decode cX1_addTo 19 = .ok (.aload_n 0, 1) := by decide +kernel
theorem dX1_addTo_20 : decode cX1_addTo 20 = .ok (.getfield 9, 3) := by decide +kernel
theorem dX1_addTo_23 : decode cX1_addTo 23 = .ok (.iload 5, 2) := by decide +kernel
theorem dX1_addTo_25 : decode cX1_addTo 25 = .ok (.iaload, 1) := by decide +kernel
theorem dX1_addTo_26 : decode cX1_addTo 26 = .ok (.i2l, 1) := by decide +kernel
theorem dX1_addTo_27 : decode cX1_addTo 27 = .ok (.ladd, 1) := by decide +kernel
theorem dX1_addTo_28 : decode cX1_addTo 28 = .ok (.lstore_n 3, 1) := by decide +kernel
theorem dX1_addTo_29 : decode cX1_addTo 29 = .ok (.lload_n 3, 1) := by decide +kernel
theorem dX1_addTo_30 : decode cX1_addTo 30 = .ok (.ldc2_w 32, 3) := by decide +kernel
theorem dX1_addTo_33 : decode cX1_addTo 33 = .ok (.lmul, 1) := by decide +kernel
theorem dX1_addTo_34 : decode cX1_addTo 34 = .ok (.aload_n 0, 1) := by decide +kernel
theorem dX1_addTo_35 : decode cX1_addTo 35 = .ok (.getfield 15, 3) := by decide +kernel
theorem dX1_addTo_38 : decode cX1_addTo 38 = .ok (.iload 5, 2) := by decide +kernel
theorem dX1_addTo_40 : decode cX1_addTo 40 = .ok (.iaload, 1) := by decide +kernel
theorem dX1_addTo_41 : decode cX1_addTo 41 = .ok (.i2l, 1) := by decide +kernel
theorem dX1_addTo_42 : decode cX1_addTo 42 = .ok (.ladd, 1) := by decide +kernel
theorem dX1_addTo_43 : decode cX1_addTo 43 = .ok (.lstore_n 3, 1) := by decide +kernel
theorem dX1_addTo_44 : decode cX1_addTo 44 = .ok (.iinc 5 1, 3) := by decide +kernel
theorem dX1_addTo_47 : decode cX1_addTo 47 = .ok (.goto (-42), 3) := by decide +kernel
theorem dX1_addTo_50 : decode cX1_addTo 50 = .ok (.lload_n 3, 1) := by decide +kernel
theorem dX1_addTo_51 : decode cX1_addTo 51 = .ok (.lreturn, 1) := by decide +kernel
theorem dX3_init_0 : decode cX3_init 0 = .ok (.aload_n 0, 1) := by decide +kernel
theorem dX3_init_1 : decode cX3_init 1 = .ok (.invokespecial 3, 3) := by decide +kernel
theorem dX3_init_4 : decode cX3_init 4 = .ok (.aload_n 0, 1) := by decide +kernel
theorem dX3_init_5 : decode cX3_init 5 = .ok (.iconst 0, 1) := by decide +kernel
theorem dX3_init_6 : decode cX3_init 6 = .ok (.putfield 9, 3) := by decide +kernel
theorem dX3_init_9 : decode cX3_init 9 = .ok (.aload_n 0, 1) := by decide +kernel
theorem dX3_init_10 : decode cX3_init 10 = .ok (.iconst (-1), 1) := by decide +kernel
theorem dX3_init_11 : decode cX3_init 11 = .ok (.putfield 15, 3) := by decide +kernel
theorem dX3_init_14 : decode cX3_init 14 = .ok (.aload_n 0, 1) := by decide +kernel
theorem dX3_init_15 : decode cX3_init 15 = .ok (.iconst (-1), 1) := by decide +kernel
theorem dX3_init_16 : decode cX3_init 16 = .ok (.putfield 18, 3) := by decide +kernel
theorem dX3_init_19 : decode cX3_init 19 = .ok (.return_, 1) := by decide +kernel
theorem dX3_copyFrom_0 : decode cX3_copyFrom 0 = .ok (.aload_n 0, 1) := by decide +kernel
theorem dX3_copyFrom_1 : decode cX3_copyFrom 1 = .ok (.aload_n 1, 1) := by decide +kernel
theorem dX3_copyFrom_2 : decode cX3_copyFrom 2 = .ok (.getfield 21, 3) := by decide +kernel
theorem dX3_copyFrom_5 : decode cX3_copyFrom 5 = .ok (.putfield 21, 3) := by decide +kernel
theorem dX3_copyFrom_8 : decode cX3_copyFrom 8 = .ok (.aload_n 0, 1) := by decide +kernel
theorem dX3_copyFrom_9 : decode cX3_copyFrom 9 = .ok (.aload_n 1, 1) := by decide +kernel
theorem dX3_copyFrom_10 : decode cX3_copyFrom 10 = .ok (.getfield 9, 3) := by decide +kernel
theorem dX3_copyFrom_13 : decode cX3_copyFrom 13 = .ok (.putfield 9, 3) := by decide +kernel
theorem dX3_copyFrom_16 : decode cX3_copyFrom 16 = .ok (.aload_n 0, 1) := by decide +kernel
theorem dX3_copyFrom_17 : decode cX3_copyFrom 17 = .ok (.aload_n 1, 1) := by decide +kernel
theorem dX3_copyFrom_18 : decode cX3_copyFrom 18 = .ok (.getfield 15, 3) := by decide +kernel
theorem dX3_copyFrom_21 : decode cX3_copyFrom 21 = .ok (.putfield 15, 3) := by decide +kernel
theorem dX3_copyFrom_24 : decode cX3_copyFrom 24 = .ok (.aload_n 0, 1) := by decide +kernel
theorem dX3_copyFrom_25 : decode cX3_copyFrom 25 = .ok (.aload_n 1, 1) := by decide +kernel
theorem dX3_copyFrom_26 : decode cX3_copyFrom 26 = .ok (.getfield 18, 3) := by decide +kernel
theorem dX3_copyFrom_29 : decode cX3_copyFrom 29 = .ok (.putfield 18, 3) := by decide +kernel
theorem dX3_copyFrom_32 : decode cX3_copyFrom 32 = .ok (.aload_n 0, 1) := by decide +kernel
theorem dX3_copyFrom_33 : decode cX3_copyFrom 33 = .ok (.aload_n 1, 1) := by decide +kernel
theorem dX3_copyFrom_34 : decode cX3_copyFrom 34 = .ok (.getfield 24, 3) := by decide +kernel
theorem dX3_copyFrom_37 : decode cX3_copyFrom 37 = .ok (.putfield 24, 3) := by decide +kernel
theorem dX3_copyFrom_40 : decode cX3_copyFrom 40 = .ok (.aload_n 0, 1) := by decide +kernel
theorem dX3_copyFrom_41 : decode cX3_copyFrom 41 = .ok (.aload_n 1, 1) := by decide +kernel
theorem dX3_copyFrom_42 : decode cX3_copyFrom 42 = .ok (.getfield 27, 3) := by decide +kernel
theorem dX3_copyFrom_45 : decode cX3_copyFrom 45 = .ok (.putfield 27, 3) := by decide +kernel
theorem dX3_copyFrom_48 : decode cX3_copyFrom 48 = .ok (.aload_n 0, 1) := by decide +kernel
theorem dX3_copyFrom_49 : decode cX3_copyFrom 49 = .ok (.aload_n 1, 1) := by decide +kernel
theorem dX3_copyFrom_50 : decode cX3_copyFrom 50 = .ok (.getfield 30, 3) := by decide +kernel
theorem dX3_copyFrom_53 : decode cX3_copyFrom 53 = .ok (.putfield 30, 3) := by decide +kernel
theorem dX3_copyFrom_56 : decode cX3_copyFrom 56 = .ok (.aload_n 0, 1) := by decide +kernel
theorem dX3_copyFrom_57 : decode cX3_copyFrom 57 = .ok (.aload_n 1, 1) := by decide +kernel
theorem dX3_copyFrom_58 : decode cX3_copyFrom 58 = .ok (.getfield 33, 3) := by decide +kernel
theorem dX3_copyFrom_61 : decode cX3_copyFrom 61 = .ok (.putfield 33, 3) := by decide +kernel
theorem dX3_copyFrom_64 : decode cX3_copyFrom 64 = .ok (.return_, 1) := by decide +kernel
theorem dX3_comesDownIn_0 : decode cX3_comesDownIn 0 = .ok (.aload_n 0, 1) := by decide +kernel
theorem dX3_comesDownIn_1 : decode cX3_comesDownIn 1 = .ok (.getfield 9, 3) := by decide +kernel
theorem dX3_comesDownIn_4 : decode cX3_comesDownIn 4 = .ok (.iconst 2, 1) := by decide +kernel
theorem dX3_comesDownIn_5 : decode cX3_comesDownIn 5 = .ok (.if_icmp .ne 15, 3) := by decide +kernel
theorem dX3_comesDownIn_8 : decode cX3_comesDownIn 8 = .ok (.aload_n 0, 1) := by decide +kernel
theorem dX3_comesDownIn_9 : decode cX3_comesDownIn 9 = .ok (.getfield 24, 3) := by decide +kernel
theorem dX3_comesDownIn_12 : decode cX3_comesDownIn 12 = .ok (.iload_n 1, 1) := by decide +kernel
theorem dX3_comesDownIn_13 : decode cX3_comesDownIn 13 = .ok (.if_icmp .ne 7, 3) := by decide +kernel
theorem dX3_comesDownIn_16 : decode cX3_comesDownIn 16 = .ok (.iconst 1, 1) := by decide +kernel
theorem dX3_comesDownIn_17 : decode cX3_comesDownIn 17 = .ok (.goto 4, 3) := by decide +kernel
theorem dX3_comesDownIn_20 : decode cX3_comesDownIn 20 = .ok (.iconst 0, 1) := by decide +kernel
theorem dX3_comesDownIn_21 : decode cX3_comesDownIn 21 = .ok (.ireturn, 1) := by decide +kernel
theorem dX3_beatsInAir_0 : decode cX3_beatsInAir 0 = .ok (.aload_n 0, 1) := by decide +kernel
theorem dX3_beatsInAir_1 : decode cX3_beatsInAir 1 = .ok (.getfield 21, 3) := by decide +kernel
theorem dX3_beatsInAir_4 : decode cX3_beatsInAir 4 = .ok (.iconst 1, 1) := by decide +kernel
theorem dX3_beatsInAir_5 : decode cX3_beatsInAir 5 = .ok (.if_icmp .ne 12, 3) := by decide +kernel
theorem dX3_beatsInAir_8 : decode cX3_beatsInAir 8 = .ok (.iload_n 1, 1) := by decide +kernel
theorem dX3_beatsInAir_9 : decode cX3_beatsInAir 9 = .ok (.iconst 3, 1) := by decide +kernel
theorem dX3_beatsInAir_10 : decode cX3_beatsInAir 10 = .ok (.if_icmp .lt 7, 3) := by decide +kernel
theorem dX3_beatsInAir_13 : decode cX3_beatsInAir 13 = .ok (.iload_n 1, 1) := by decide +kernel
theorem dX3_beatsInAir_14 : decode cX3_beatsInAir 14 = .ok (.iconst 1, 1) := by decide +kernel
theorem dX3_beatsInAir_15 : decode cX3_beatsInAir 15 = .ok (.isub, 1) := by decide +kernel
theorem dX3_beatsInAir_16 : decode cX3_beatsInAir 16 = .ok (.ireturn, 1) := by decide +kernel
theorem dX3_beatsInAir_17 : decode cX3_beatsInAir 17 = .ok (.aload_n 0, 1) := by decide +kernel
theorem dX3_beatsInAir_18 : decode cX3_beatsInAir 18 = .ok (.getfield 21, 3) := by decide +kernel
theorem dX3_beatsInAir_21 : decode cX3_beatsInAir 21 = .ok (.iconst 2, 1) := by decide +kernel
theorem dX3_beatsInAir_22 : decode cX3_beatsInAir 22 = .ok (.if_icmp .ne 12, 3) := by decide +kernel
theorem dX3_beatsInAir_25 : decode cX3_beatsInAir 25 = .ok (.iload_n 1, 1) := by decide +kernel
theorem dX3_beatsInAir_26 : decode cX3_beatsInAir 26 = .ok (.iconst 5, 1) := by decide +kernel
theorem dX3_beatsInAir_27 : decode cX3_beatsInAir 27 = .ok (.if_icmp .lt 7, 3) := by decide +kernel
theorem dX3_beatsInAir_30 : decode cX3_beatsInAir 30 = .ok (.iload_n 1, 1) := by decide +kernel
theorem dX3_beatsInAir_31 : decode cX3_beatsInAir 31 = .ok (.iconst 1, 1) := by decide +kernel
theorem dX3_beatsInAir_32 : decode cX3_beatsInAir 32 = .ok (.iadd, 1) := by decide +kernel
theorem dX3_beatsInAir_33 : decode cX3_beatsInAir 33 = .ok (.ireturn, 1) := by decide +kernel
theorem dX3_beatsInAir_34 : decode cX3_beatsInAir 34 = .ok (.iload_n 1, 1) := by decide +kernel
theorem dX3_beatsInAir_35 : decode cX3_beatsInAir 35 = .ok (.ireturn, 1) := by decide +kernel
theorem dX3_fly_0 : decode cX3_fly 0 = .ok (.aload_n 0, 1) := by decide +kernel
theorem dX3_fly_1 : decode cX3_fly 1 = .ok (.iconst 2, 1) := by decide +kernel
theorem dX3_fly_2 : decode cX3_fly 2 = .ok (.putfield 9, 3) := by decide +kernel
theorem dX3_fly_5 : decode cX3_fly 5 = .ok (.aload_n 0, 1) := by decide +kernel
theorem dX3_fly_6 : decode cX3_fly 6 = .ok (.iload_n 1, 1) := by decide +kernel
theorem dX3_fly_7 : decode cX3_fly 7 = .ok (.putfield 15, 3) := by decide +kernel
theorem dX3_fly_10 : decode cX3_fly 10 = .ok (.aload_n 0, 1) := by decide +kernel
theorem dX3_fly_11 : decode cX3_fly 11 = .ok (.iconst (-1), 1) := by decide +kernel
theorem dX3_fly_12 : decode cX3_fly 12 = .ok (.putfield 18, 3) := by decide +kernel
theorem dX3_fly_15 : decode cX3_fly 15 = .ok (.aload_n 0, 1) := by decide +kernel
theorem dX3_fly_16 : decode cX3_fly 16 = .ok (.iload_n 2, 1) := by decide +kernel
theorem dX3_fly_17 : decode cX3_fly 17 = .ok (.putfield 27, 3) := by decide +kernel
theorem dX3_fly_20 : decode cX3_fly 20 = .ok (.aload_n 0, 1) := by decide +kernel
theorem dX3_fly_21 : decode cX3_fly 21 = .ok (.iload_n 3, 1) := by decide +kernel
theorem dX3_fly_22 : decode cX3_fly 22 = .ok (.aload_n 0, 1) := by decide +kernel
theorem dX3_fly_23 : decode cX3_fly 23 = .ok (.iload_n 2, 1) := by decide +kernel
theorem dX3_fly_24 : decode cX3_fly 24 = .ok (.invokevirtual 36, 3) := by decide +kernel
theorem dX3_fly_27 : decode cX3_fly 27 = .ok (.iadd, 1) := by decide +kernel
theorem dX3_fly_28 : decode cX3_fly 28 = .ok (.putfield 24, 3) := by decide +kernel
theorem dX3_fly_31 : decode cX3_fly 31 = .ok (.aload_n 0, 1) := by decide +kernel
theorem dX3_fly_32 : decode cX3_fly 32 = .ok (.dup, 1) := by decide +kernel
theorem dX3_fly_33 : decode cX3_fly 33 = .ok (.getfield 30, 3) := by decide +kernel
theorem dX3_fly_36 : decode cX3_fly 36 = .ok (.iconst 1, 1) := by decide +kernel
theorem dX3_fly_37 : decode cX3_fly 37 = .ok (.iadd, 1) := by decide +kernel
theorem dX3_fly_38 : decode cX3_fly 38 = .ok (.putfield 30, 3) := by decide +kernel
theorem dX3_fly_41 : decode cX3_fly 41 = .ok (.return_, 1) := by decide +kernel
theorem dX3_fall_0 : decode cX3_fall 0 = .ok (.aload_n 0, 1) := by decide +kernel
theorem dX3_fall_1 : decode cX3_fall 1 = .ok (.aload_n 0, 1) := by decide +kernel
theorem dX3_fall_2 : decode cX3_fall 2 = .ok (.getfield 21, 3) := by decide +kernel
theorem dX3_fall_5 : decode cX3_fall 5 = .ok (.iconst 2, 1) := by decide +kernel
theorem dX3_fall_6 : decode cX3_fall 6 = .ok (.if_icmp .ne 7, 3) := by decide +kernel
theorem dX3_fall_9 : decode cX3_fall 9 = .ok (.iconst 3, 1) := by decide +kernel
theorem dX3_fall_10 : decode cX3_fall 10 = .ok (.goto 4, 3) := by decide +kernel
theorem dX3_fall_13 : decode cX3_fall 13 = .ok (.iconst 0, 1) := by decide +kernel
theorem dX3_fall_14 : decode cX3_fall 14 = .ok (.putfield 9, 3) := by decide +kernel
theorem dX3_fall_17 : decode cX3_fall 17 = .ok (.aload_n 0, 1) := by decide +kernel
theorem dX3_fall_18 : decode cX3_fall 18 = .ok (.iconst (-1), 1) := by decide +kernel
theorem dX3_fall_19 : decode cX3_fall 19 = .ok (.putfield 15, 3) := by decide +kernel
theorem dX3_fall_22 : decode cX3_fall 22 = .ok (.aload_n 0, 1) := by decide +kernel
theorem dX3_fall_23 : decode cX3_fall 23 = .ok (.dup, 1) := by decide +kernel
theorem dX3_fall_24 : decode cX3_fall 24 = .ok (.getfield 33, 3) := by decide +kernel
theorem dX3_fall_27 : decode cX3_fall 27 = .ok (.iconst 1, 1) := by decide +kernel
theorem dX3_fall_28 : decode cX3_fall 28 = .ok (.iadd, 1) := by decide +kernel
theorem dX3_fall_29 : decode cX3_fall 29 = .ok (.putfield 33, 3) := by decide +kernel
theorem dX3_fall_32 : decode cX3_fall 32 = .ok (.return_, 1) := by decide +kernel
theorem dJ9_floorMod_7cf53_0 : decode cJ9_floorMod_7cf53 0 = .ok (.iload_n 0, 1) := by decide +kernel
theorem dJ9_floorMod_7cf53_1 : decode cJ9_floorMod_7cf53 1 = .ok (.iload_n 1, 1) := by decide +kernel
theorem dJ9_floorMod_7cf53_2 : decode cJ9_floorMod_7cf53 2 = .ok (.irem, 1) := by decide +kernel
theorem dJ9_floorMod_7cf53_3 : decode cJ9_floorMod_7cf53 3 = .ok (.istore_n 2, 1) := by decide +kernel
theorem dJ9_floorMod_7cf53_4 : decode cJ9_floorMod_7cf53 4 = .ok (.iload_n 0, 1) := by decide +kernel
theorem dJ9_floorMod_7cf53_5 : decode cJ9_floorMod_7cf53 5 = .ok (.iload_n 1, 1) := by decide +kernel
theorem dJ9_floorMod_7cf53_6 : decode cJ9_floorMod_7cf53 6 = .ok (.ixor, 1) := by decide +kernel
theorem dJ9_floorMod_7cf53_7 : decode cJ9_floorMod_7cf53 7 = .ok (.ifCond .ge 11, 3) := by decide +kernel
theorem dJ9_floorMod_7cf53_10 : decode cJ9_floorMod_7cf53 10 = .ok (.iload_n 2, 1) := by decide +kernel
theorem dJ9_floorMod_7cf53_11 : decode cJ9_floorMod_7cf53 11 = .ok (.ifCond .eq 7, 3) := by decide +kernel
theorem dJ9_floorMod_7cf53_14 : decode cJ9_floorMod_7cf53 14 = .ok (.iload_n 2, 1) := by decide +kernel
theorem dJ9_floorMod_7cf53_15 : decode cJ9_floorMod_7cf53 15 = .ok (.iload_n 1, 1) := by decide +kernel
theorem dJ9_floorMod_7cf53_16 : decode cJ9_floorMod_7cf53 16 = .ok (.iadd, 1) := by decide +kernel
theorem dJ9_floorMod_7cf53_17 : decode cJ9_floorMod_7cf53 17 = .ok (.ireturn, 1) := by decide +kernel
theorem dJ9_floorMod_7cf53_18 : decode cJ9_floorMod_7cf53 18 = .ok (.iload_n 2, 1) := by decide +kernel
theorem dJ9_floorMod_7cf53_19 : decode cJ9_floorMod_7cf53 19 = .ok (.ireturn, 1) := by decide +kernel
end
section
theorem dX2_init_0 : decode cX2_init 0 = .ok (.aload_n 0, 1) := by decide +kernel
theorem dX2_init_1 : decode cX2_init 1 = .ok (.invokespecial 3, 3) := by decide +kernel
theorem dX2_init_4 : decode cX2_init 4 = .ok (.aload_n 0, 1) := by decide +kernel
theorem dX2_init_5 : decode cX2_init 5 = .ok (.iconst 4, 1) := by decide +kernel
theorem dX2_init_6 : decode cX2_init 6 = .ok (.anewarray 9, 3) := by decide +kernel
theorem dX2_init_9 : decode cX2_init 9 = .ok (.putfield 11, 3) := by decide +kernel
theorem dX2_init_12 : decode cX2_init 12 = .ok (.iconst 0, 1) := by decide +kernel
theorem dX2_init_13 : decode cX2_init 13 = .ok (.istore_n 1, 1) := by decide +kernel
theorem dX2_init_14 : decode cX2_init 14 = .ok (.iload_n 1, 1) := by decide +kernel
theorem dX2_init_15 : decode cX2_init 15 = .ok (.iconst 4, 1) := by decide +kernel
theorem dX2_init_16 : decode cX2_init 16 = .ok (.if_icmp .ge 22, 3) := by decide +kernel
theorem dX2_init_19 : decode cX2_init 19 = .ok (.aload_n 0, 1) := by decide +kernel
theorem dX2_init_20 : decode cX2_init 20 = .ok (.getfield 11, 3) := by decide +kernel
theorem dX2_init_23 : decode cX2_init 23 = .ok (.iload_n 1, 1) := by decide +kernel
theorem dX2_init_24 : decode cX2_init 24 = .ok (.new 9, 3) := by decide +kernel
theorem dX2_init_27 : decode cX2_init 27 = .ok (.dup, 1) := by decide +kernel
theorem dX2_init_28 : decode cX2_init 28 = .ok (.invokespecial 17, 3) := by decide +kernel
theorem dX2_init_31 : decode cX2_init 31 = .ok (.aastore, 1) := by decide +kernel
theorem dX2_init_32 : decode cX2_init 32 = .ok (.iinc 1 1, 3) := by decide +kernel
theorem dX2_init_35 : decode cX2_init 35 = .ok (.goto (-21), 3) := by decide +kernel
theorem dX2_init_38 : decode cX2_init 38 = .ok (.aload_n 0, 1) := by decide +kernel
theorem dX2_init_39 : decode cX2_init 39 = .ok (.bipush 12, 2) := by decide +kernel
theorem dX2_init_41 : decode cX2_init 41 = .ok (.anewarray 18, 3) := by decide +kernel
theorem dX2_init_44 : decode cX2_init 44 = .ok (.putfield 20, 3) := by decide +kernel
theorem dX2_init_47 : decode cX2_init 47 = .ok (.iconst 0, 1) := by decide +kernel
theorem dX2_init_48 : decode cX2_init 48 = .ok (.istore_n 1, 1) := by decide +kernel
theorem dX2_init_49 : decode cX2_init 49 = .ok (.iload_n 1, 1) := by decide +kernel
theorem dX2_init_50 : decode cX2_init 50 = .ok (.bipush 12, 2) := by decide +kernel
theorem dX2_init_52 : decode cX2_init 52 = .ok (.if_icmp .ge 22, 3) := by decide +kernel
theorem dX2_init_55 : decode cX2_init 55 = .ok (.aload_n 0, 1) := by decide +kernel
theorem dX2_init_56 : decode cX2_init 56 = .ok (.getfield 20, 3) := by decide +kernel
theorem dX2_init_59 : decode cX2_init 59 = .ok (.iload_n 1, 1) := by decide +kernel
theorem dX2_init_60 : decode cX2_init 60 = .ok (.new 18, 3) := by decide +kernel
theorem dX2_init_63 : decode cX2_init 63 = .ok (.dup, 1) := by decide +kernel
theorem dX2_init_64 : decode cX2_init 64 = .ok (.invokespecial 24, 3) := by decide +kernel
theorem dX2_init_67 : decode cX2_init 67 = .ok (.aastore, 1) := by decide +kernel
theorem dX2_init_68 : decode cX2_init 68 = .ok (.iinc 1 1, 3) := by decide +kernel
theorem dX2_init_71 : decode cX2_init 71 = .ok (.goto (-22), 3) := by decide +kernel
theorem dX2_init_74 : decode cX2_init 74 = .ok (.return_, 1) := by decide +kernel
theorem dX2_copyFrom_0 : decode cX2_copyFrom 0 = .ok (.aload_n 0, 1) := by decide +kernel
theorem dX2_copyFrom_1 : decode cX2_copyFrom 1 = .ok (.aload_n 1, 1) := by decide +kernel
theorem dX2_copyFrom_2 : decode cX2_copyFrom 2 = .ok (.getfield 25, 3) := by decide +kernel
theorem dX2_copyFrom_5 : decode cX2_copyFrom 5 = .ok (.putfield 25, 3) := by decide +kernel
theorem dX2_copyFrom_8 : decode cX2_copyFrom 8 = .ok (.aload_n 0, 1) := by decide +kernel
theorem dX2_copyFrom_9 : decode cX2_copyFrom 9 = .ok (.aload_n 1, 1) := by decide +kernel
theorem dX2_copyFrom_10 : decode cX2_copyFrom 10 = .ok (.getfield 29, 3) := by decide +kernel
theorem dX2_copyFrom_13 : decode cX2_copyFrom 13 = .ok (.putfield 29, 3) := by decide +kernel
theorem dX2_copyFrom_16 : decode cX2_copyFrom 16 = .ok (.aload_n 0, 1) := by decide +kernel
theorem dX2_copyFrom_17 : decode cX2_copyFrom 17 = .ok (.aload_n 1, 1) := by decide +kernel
theorem dX2_copyFrom_18 : decode cX2_copyFrom 18 = .ok (.getfield 32, 3) := by decide +kernel
theorem dX2_copyFrom_21 : decode cX2_copyFrom 21 = .ok (.putfield 32, 3) := by decide +kernel
theorem dX2_copyFrom_24 : decode cX2_copyFrom 24 = .ok (.iconst 0, 1) := by decide +kernel
theorem dX2_copyFrom_25 : decode cX2_copyFrom 25 = .ok (.istore_n 2, 1) := by decide +kernel
theorem dX2_copyFrom_26 : decode cX2_copyFrom 26 = .ok (.iload_n 2, 1) := by decide +kernel
theorem dX2_copyFrom_27 : decode cX2_copyFrom 27 = .ok (.aload_n 0, 1) := by decide +kernel
theorem dX2_copyFrom_28 : decode cX2_copyFrom 28 = .ok (.getfield 25, 3) := by decide +kernel
theorem dX2_copyFrom_31 : decode cX2_copyFrom 31 = .ok (.if_icmp .ge 24, 3) := by decide +kernel
theorem dX2_copyFrom_34 : decode cX2_copyFrom 34 = .ok (.aload_n 0, 1) := by decide +kernel
theorem dX2_copyFrom_35 : decode cX2_copyFrom 35 = .ok (.getfield 11, 3) := by decide +kernel
theorem dX2_copyFrom_38 : decode cX2_copyFrom 38 = .ok (.iload_n 2, 1) := by decide +kernel
theorem dX2_copyFrom_39 : decode cX2_copyFrom 39 = .ok (.aaload, 1) := by decide +kernel
theorem dX2_copyFrom_40 : decode cX2_copyFrom 40 = .ok (.aload_n 1, 1) := by decide +kernel
theorem dX2_copyFrom_41 : decode cX2_copyFrom 41 = .ok (.getfield 11, 3) := by decide +kernel
theorem dX2_copyFrom_44 : decode cX2_copyFrom 44 = .ok (.iload_n 2, 1) := by decide +kernel
theorem dX2_copyFrom_45 : decode cX2_copyFrom 45 = .ok (.aaload, 1) := by decide +kernel
theorem dX2_copyFrom_46 : decode cX2_copyFrom 46 = .ok (.invokevirtual 35, 3) := by decide +kernel
theorem dX2_copyFrom_49 : decode cX2_copyFrom 49 = .ok (.iinc 2 1, 3) := by decide +kernel
theorem dX2_copyFrom_52 : decode cX2_copyFrom 52 = .ok (.goto (-26), 3) := by decide +kernel
theorem dX2_copyFrom_55 : decode cX2_copyFrom 55 = .ok (.iconst 0, 1) := by decide +kernel
theorem dX2_copyFrom_56 : decode cX2_copyFrom 56 = .ok (.istore_n 2, 1) := by decide +kernel
theorem dX2_copyFrom_57 : decode cX2_copyFrom 57 = .ok (.iload_n 2, 1) := by decide +kernel
theorem dX2_copyFrom_58 : decode cX2_copyFrom 58 = .ok (.aload_n 0, 1) := by decide +kernel
theorem dX2_copyFrom_59 : decode cX2_copyFrom 59 = .ok (.getfield 29, 3) := by decide +kernel
theorem dX2_copyFrom_62 : decode cX2_copyFrom 62 = .ok (.if_icmp .ge 24, 3) := by decide +kernel
theorem dX2_copyFrom_65 : decode cX2_copyFrom 65 = .ok (.aload_n 0, 1) := by decide +kernel
theorem dX2_copyFrom_66 : decode cX2_copyFrom 66 = .ok (.getfield 20, 3) := by decide +kernel
theorem dX2_copyFrom_69 : decode cX2_copyFrom 69 = .ok (.iload_n 2, 1) := by decide +kernel
theorem dX2_copyFrom_70 : decode cX2_copyFrom 70 = .ok (.aaload, 1) := by decide +kernel
theorem dX2_copyFrom_71 : decode cX2_copyFrom 71 = .ok (.aload_n 1, 1) := by decide +kernel
theorem dX2_copyFrom_72 : decode cX2_copyFrom 72 = .ok (.getfield 20, 3) := by decide +kernel
theorem dX2_copyFrom_75 : decode cX2_copyFrom 75 = .ok (.iload_n 2, 1) := by decide +kernel
theorem dX2_copyFrom_76 : decode cX2_copyFrom 76 = .ok (.aaload, 1) := by decide +kernel
theorem dX2_copyFrom_77 : decode cX2_copyFrom 77 = .ok (.invokevirtual 39, 3) := by decide +kernel
theorem dX2_copyFrom_80 : decode cX2_copyFrom 80 = .ok (.iinc 2 1, 3) := by decide +kernel
theorem dX2_copyFrom_83 : decode cX2_copyFrom 83 = .ok (.goto (-26), 3) := by decide +kernel
theorem dX2_copyFrom_86 : decode cX2_copyFrom 86 = .ok (.return_, 1) := by decide +kernel
theorem dX2_hasJuggler_0 : decode cX2_hasJuggler 0 = .ok (.iload_n 1, 1) := by decide +kernel
theorem dX2_hasJuggler_1 : decode cX2_hasJuggler 1 = .ok (.ifCond .lt 15, 3) := by decide +kernel
theorem dX2_hasJuggler_4 : decode cX2_hasJuggler 4 = .ok (.iload_n 1, 1) := by decide +kernel
theorem dX2_hasJuggler_5 : decode cX2_hasJuggler 5 = .ok (.aload_n 0, 1) := by decide +kernel
theorem dX2_hasJuggler_6 : decode cX2_hasJuggler 6 = .ok (.getfield 25, 3) := by decide +kernel
theorem dX2_hasJuggler_9 : decode cX2_hasJuggler 9 = .ok (.if_icmp .ge 7, 3) := by decide +kernel
theorem dX2_hasJuggler_12 : decode cX2_hasJuggler 12 = .ok (.iconst 1, 1) := by decide +kernel
theorem dX2_hasJuggler_13 : decode cX2_hasJuggler 13 = .ok (.goto 4, 3) := by decide +kernel
theorem dX2_hasJuggler_16 : decode cX2_hasJuggler 16 = .ok (.iconst 0, 1) := by decide +kernel
theorem dX2_hasJuggler_17 : decode cX2_hasJuggler 17 = .ok (.ireturn, 1) := by decide +kernel
theorem dX2_hasThing_0 : decode cX2_hasThing 0 = .ok (.iload_n 1, 1) := by decide +kernel
theorem dX2_hasThing_1 : decode cX2_hasThing 1 = .ok (.ifCond .lt 15, 3) := by decide +kernel
theorem dX2_hasThing_4 : decode cX2_hasThing 4 = .ok (.iload_n 1, 1) := by decide +kernel
theorem dX2_hasThing_5 : decode cX2_hasThing 5 = .ok (.aload_n 0, 1) := by decide +kernel
theorem dX2_hasThing_6 : decode cX2_hasThing 6 = .ok (.getfield 29, 3) := by decide +kernel
theorem dX2_hasThing_9 : decode cX2_hasThing 9 = .ok (.if_icmp .ge 7, 3) := by decide +kernel
theorem dX2_hasThing_12 : decode cX2_hasThing 12 = .ok (.iconst 1, 1) := by decide +kernel
theorem dX2_hasThing_13 : decode cX2_hasThing 13 = .ok (.goto 4, 3) := by decide +kernel
theorem dX2_hasThing_16 : decode cX2_hasThing 16 = .ok (.iconst 0, 1) := by decide +kernel
theorem dX2_hasThing_17 : decode cX2_hasThing 17 = .ok (.ireturn, 1) := by decide +kernel
theorem dX2_addJuggler_0 : decode cX2_addJuggler 0 = .ok (.aload_n 0, 1) := by decide +kernel
theorem dX2_addJuggler_1 : decode cX2_addJuggler 1 = .ok (.getfield 25, 3) := by decide +kernel
theorem dX2_addJuggler_4 : decode cX2_addJuggler 4 = .ok (.istore_n 2, 1) := by decide +kernel
theorem dX2_addJuggler_5 : decode cX2_addJuggler 5 = .ok (.aload_n 0, 1) := by decide +kernel
theorem dX2_addJuggler_6 : decode cX2_addJuggler 6 = .ok (.getfield 11, 3) := by decide +kernel
theorem dX2_addJuggler_9 : decode cX2_addJuggler 9 = .ok (.iload_n 2, 1) := by decide +kernel
theorem dX2_addJuggler_10 : decode cX2_addJuggler 10 = .ok (.aaload, 1) := by decide +kernel
theorem dX2_addJuggler_11 : decode cX2_addJuggler 11 = .ok (.iload_n 1, 1) := by decide +kernel
theorem dX2_addJuggler_12 : decode cX2_addJuggler 12 = .ok (.putfield 42, 3) := by decide +kernel
theorem dX2_addJuggler_15 : decode cX2_addJuggler 15 = .ok (.aload_n 0, 1) := by decide +kernel
theorem dX2_addJuggler_16 : decode cX2_addJuggler 16 = .ok (.getfield 11, 3) := by decide +kernel
theorem dX2_addJuggler_19 : decode cX2_addJuggler 19 = .ok (.iload_n 2, 1) := by decide +kernel
theorem dX2_addJuggler_20 : decode cX2_addJuggler 20 = .ok (.aaload, 1) := by decide +kernel
theorem dX2_addJuggler_21 : decode cX2_addJuggler 21 = .ok (.getfield 45, 3) := by decide +kernel
theorem dX2_addJuggler_24 : decode cX2_addJuggler 24 = .ok (.iload_n 2, 1) := by decide +kernel
theorem dX2_addJuggler_25 : decode cX2_addJuggler 25 = .ok (.iconst 1, 1) := by decide +kernel
theorem dX2_addJuggler_26 : decode cX2_addJuggler 26 = .ok (.iconst 0, 1) := by decide +kernel
theorem dX2_addJuggler_27 : decode cX2_addJuggler 27 = .ok (.invokevirtual 49, 3) := by decide +kernel
theorem dX2_addJuggler_30 : decode cX2_addJuggler 30 = .ok (.aload_n 0, 1) := by decide +kernel
theorem dX2_addJuggler_31 : decode cX2_addJuggler 31 = .ok (.dup, 1) := by decide +kernel
theorem dX2_addJuggler_32 : decode cX2_addJuggler 32 = .ok (.getfield 25, 3) := by decide +kernel
theorem dX2_addJuggler_35 : decode cX2_addJuggler 35 = .ok (.iconst 1, 1) := by decide +kernel
theorem dX2_addJuggler_36 : decode cX2_addJuggler 36 = .ok (.iadd, 1) := by decide +kernel
theorem dX2_addJuggler_37 : decode cX2_addJuggler 37 = .ok (.putfield 25, 3) := by decide +kernel
theorem dX2_addJuggler_40 : decode cX2_addJuggler 40 = .ok (.iload_n 2, 1) := by decide +kernel
theorem dX2_addJuggler_41 : decode cX2_addJuggler 41 = .ok (.ireturn, 1) := by decide +kernel
theorem dX2_addThing_0 : decode cX2_addThing 0 = .ok (.aload_n 0, 1) := by decide +kernel
theorem dX2_addThing_1 : decode cX2_addThing 1 = .ok (.getfield 29, 3) := by decide +kernel
theorem dX2_addThing_4 : decode cX2_addThing 4 = .ok (.istore_n 2, 1) := by decide +kernel
theorem dX2_addThing_5 : decode cX2_addThing 5 = .ok (.aload_n 0, 1) := by decide +kernel
theorem dX2_addThing_6 : decode cX2_addThing 6 = .ok (.getfield 20, 3) := by decide +kernel
theorem dX2_addThing_9 : decode cX2_addThing 9 = .ok (.iload_n 2, 1) := by decide +kernel
theorem dX2_addThing_10 : decode cX2_addThing 10 = .ok (.aaload, 1) := by decide +kernel
theorem dX2_addThing_11 : decode cX2_addThing 11 = .ok (.iload_n 1, 1) := by decide +kernel
theorem dX2_addThing_12 : decode cX2_addThing 12 = .ok (.putfield 55, 3) := by decide +kernel
theorem dX2_addThing_15 : decode cX2_addThing 15 = .ok (.aload_n 0, 1) := by decide +kernel
theorem dX2_addThing_16 : decode cX2_addThing 16 = .ok (.dup, 1) := by decide +kernel
theorem dX2_addThing_17 : decode cX2_addThing 17 = .ok (.getfield 29, 3) := by decide +kernel
theorem dX2_addThing_20 : decode cX2_addThing 20 = .ok (.iconst 1, 1) := by decide +kernel
theorem dX2_addThing_21 : decode cX2_addThing 21 = .ok (.iadd, 1) := by decide +kernel
theorem dX2_addThing_22 : decode cX2_addThing 22 = .ok (.putfield 29, 3) := by decide +kernel
theorem dX2_addThing_25 : decode cX2_addThing 25 = .ok (.iload_n 2, 1) := by decide +kernel
theorem dX2_addThing_26 : decode cX2_addThing 26 = .ok (.ireturn, 1) := by decide +kernel
theorem dX2_putIntoHand_0 : decode cX2_putIntoHand 0 = .ok (.aload_n 0, 1) := by decide +kernel
theorem dX2_putIntoHand_1 : decode cX2_putIntoHand 1 = .ok (.getfield 11, 3) := by decide +kernel
theorem dX2_putIntoHand_4 : decode cX2_putIntoHand 4 = .ok (.iload_n 2, 1) := by decide +kernel
theorem dX2_putIntoHand_5 : decode cX2_putIntoHand 5 = .ok (.aaload, 1) := by decide +kernel
theorem dX2_putIntoHand_6 : decode cX2_putIntoHand 6 = .ok (.getfield 58, 3) := by decide +kernel
theorem dX2_putIntoHand_9 : decode cX2_putIntoHand 9 = .ok (.iload_n 3, 1) := by decide +kernel
theorem dX2_putIntoHand_10 : decode cX2_putIntoHand 10 = .ok (.iload_n 1, 1) := by decide +kernel
theorem dX2_putIntoHand_11 : decode cX2_putIntoHand 11 = .ok (.iastore, 1) := by decide +kernel
theorem dX2_putIntoHand_12 : decode cX2_putIntoHand 12 = .ok (.aload_n 0, 1) := by decide +kernel
theorem dX2_putIntoHand_13 : decode cX2_putIntoHand 13 = .ok (.getfield 20, 3) := by decide +kernel
theorem dX2_putIntoHand_16 : decode cX2_putIntoHand 16 = .ok (.iload_n 1, 1) := by decide +kernel
theorem dX2_putIntoHand_17 : decode cX2_putIntoHand 17 = .ok (.aaload, 1) := by decide +kernel
theorem dX2_putIntoHand_18 : decode cX2_putIntoHand 18 = .ok (.astore 4, 2) := by decide +kernel
theorem dX2_putIntoHand_20 : decode cX2_putIntoHand 20 = .ok (.aload 4, 2) := by decide +kernel
theorem dX2_putIntoHand_22 : decode cX2_putIntoHand 22 = .ok (.iconst 1, 1) := by decide +kernel
theorem dX2_putIntoHand_23 : decode cX2_putIntoHand 23 = .ok (.putfield 62, 3) := by decide +kernel
theorem dX2_putIntoHand_26 : decode cX2_putIntoHand 26 = .ok (.aload 4, 2) := by decide +kernel
theorem dX2_putIntoHand_28 : decode cX2_putIntoHand 28 = .ok (.iload_n 2, 1) := by decide +kernel
theorem dX2_putIntoHand_29 : decode cX2_putIntoHand 29 = .ok (.putfield 65, 3) := by decide +kernel
theorem dX2_putIntoHand_32 : decode cX2_putIntoHand 32 = .ok (.aload 4, 2) := by decide +kernel
theorem dX2_putIntoHand_34 : decode cX2_putIntoHand 34 = .ok (.iload_n 3, 1) := by decide +kernel
theorem dX2_putIntoHand_35 : decode cX2_putIntoHand 35 = .ok (.putfield 68, 3) := by decide +kernel
theorem dX2_putIntoHand_38 : decode cX2_putIntoHand 38 = .ok (.return_, 1) := by decide +kernel
theorem dX2_play_0 : decode cX2_play 0 = .ok (.iconst 0, 1) := by decide +kernel
theorem dX2_play_1 : decode cX2_play 1 = .ok (.istore_n 2, 1) := by decide +kernel
theorem dX2_play_2 : decode cX2_play 2 = .ok (.iconst 0, 1) := by decide +kernel
theorem dX2_play_3 : decode cX2_play 3 = .ok (.istore_n 3, 1) := by decide +kernel
theorem dX2_play_4 : decode cX2_play 4 = .ok (.iload_n 3, 1) := by decide +kernel
theorem dX2_play_5 : decode cX2_play 5 = .ok (.iload_n 1, 1) := by decide +kernel
theorem dX2_play_6 : decode cX2_play 6 = .ok (.if_icmp .ge 16, 3) := by decide +kernel
theorem dX2_play_9 : decode cX2_play 9 = .ok (.iload_n 2, 1) := by decide +kernel
theorem dX2_play_10 : decode cX2_play 10 = .ok (.aload_n 0, 1) := by decide +kernel
theorem dX2_play_11 : decode cX2_play 11 = .ok (.invokevirtual 71, 3) := by decide +kernel
theorem dX2_play_14 : decode cX2_play 14 = .ok (.iadd, 1) := by decide +kernel
theorem dX2_play_15 : decode cX2_play 15 = .ok (.istore_n 2, 1) := by decide +kernel
theorem dX2_play_16 : decode cX2_play 16 = .ok (.iinc 3 1, 3) := by decide +kernel
theorem dX2_play_19 : decode cX2_play 19 = .ok (.goto (-15), 3) := by decide +kernel
theorem dX2_play_22 : decode cX2_play 22 = .ok (.iload_n 2, 1) := by decide +kernel
theorem dX2_play_23 : decode cX2_play 23 = .ok (.ireturn, 1) := by decide +kernel
theorem dX2_playBeat_0 : decode cX2_playBeat 0 = .ok (.aload_n 0, 1) := by decide +kernel
theorem dX2_playBeat_1 : decode cX2_playBeat 1 = .ok (.getfield 32, 3) := by decide +kernel
theorem dX2_playBeat_4 : decode cX2_playBeat 4 = .ok (.iconst 1, 1) := by decide +kernel
theorem dX2_playBeat_5 : decode cX2_playBeat 5 = .ok (.iand, 1) := by decide +kernel
theorem dX2_playBeat_6 : decode cX2_playBeat 6 = .ok (.istore_n 1, 1) := by decide +kernel
theorem dX2_playBeat_7 : decode cX2_playBeat 7 = .ok (.aload_n 0, 1) := by decide +kernel
theorem dX2_playBeat_8 : decode cX2_playBeat 8 = .ok (.iload_n 1, 1) := by decide +kernel
theorem dX2_playBeat_9 : decode cX2_playBeat 9 = .ok (.invokevirtual 75, 3) := by decide +kernel
theorem dX2_playBeat_12 : decode cX2_playBeat 12 = .ok (.istore_n 2, 1) := by decide +kernel
theorem dX2_playBeat_13 : decode cX2_playBeat 13 = .ok (.iconst 0, 1) := by decide +kernel
theorem dX2_playBeat_14 : decode cX2_playBeat 14 = .ok (.istore_n 3, 1) := by decide +kernel
theorem dX2_playBeat_15 : decode cX2_playBeat 15 = .ok (.iload_n 3, 1) := by decide +kernel
theorem dX2_playBeat_16 : decode cX2_playBeat 16 = .ok (.aload_n 0, 1) := by decide +kernel
theorem dX2_playBeat_17 : decode cX2_playBeat 17 = .ok (.getfield 25, 3) := by decide +kernel
theorem dX2_playBeat_20 : decode cX2_playBeat 20 = .ok (.if_icmp .ge 20, 3) := by decide +kernel
theorem dX2_playBeat_23 : decode cX2_playBeat 23 = .ok (.aload_n 0, 1) := by decide +kernel
theorem dX2_playBeat_24 : decode cX2_playBeat 24 = .ok (.aload_n 0, 1) := by decide +kernel
theorem dX2_playBeat_25 : decode cX2_playBeat 25 = .ok (.getfield 11, 3) := by decide +kernel
theorem dX2_playBeat_28 : decode cX2_playBeat 28 = .ok (.iload_n 3, 1) := by decide +kernel
theorem dX2_playBeat_29 : decode cX2_playBeat 29 = .ok (.aaload, 1) := by decide +kernel
theorem dX2_playBeat_30 : decode cX2_playBeat 30 = .ok (.iload_n 1, 1) := by decide +kernel
theorem dX2_playBeat_31 : decode cX2_playBeat 31 = .ok (.invokevirtual 79, 3) := by decide +kernel
theorem dX2_playBeat_34 : decode cX2_playBeat 34 = .ok (.iinc 3 1, 3) := by decide +kernel
theorem dX2_playBeat_37 : decode cX2_playBeat 37 = .ok (.goto (-22), 3) := by decide +kernel
theorem dX2_playBeat_40 : decode cX2_playBeat 40 = .ok (.aload_n 0, 1) := by decide +kernel
theorem dX2_playBeat_41 : decode cX2_playBeat 41 = .ok (.dup, 1) := by decide +kernel
theorem dX2_playBeat_42 : decode cX2_playBeat 42 = .ok (.getfield 32, 3) := by decide +kernel
theorem dX2_playBeat_45 : decode cX2_playBeat 45 = .ok (.iconst 1, 1) := by decide +kernel
theorem dX2_playBeat_46 : decode cX2_playBeat 46 = .ok (.iadd, 1) := by decide +kernel
theorem dX2_playBeat_47 : decode cX2_playBeat 47 = .ok (.putfield 32, 3) := by decide +kernel
theorem dX2_playBeat_50 : decode cX2_playBeat 50 = .ok (.iload_n 2, 1) := by decide +kernel
theorem dX2_playBeat_51 : decode cX2_playBeat 51 = .ok (.ireturn, 1) := by decide +kernel
theorem dX2_comeDown_0 : decode cX2_comeDown 0 = .ok (.iconst 0, 1) := by decide +kernel
theorem dX2_comeDown_1 : decode cX2_comeDown 1 = .ok (.istore_n 2, 1) := by decide +kernel
theorem dX2_comeDown_2 : decode cX2_comeDown 2 = .ok (.iconst 0, 1) := by decide +kernel
theorem dX2_comeDown_3 : decode cX2_comeDown 3 = .ok (.istore_n 3, 1) := by decide +kernel
theorem dX2_comeDown_4 : decode cX2_comeDown 4 = .ok (.iload_n 3, 1) := by decide +kernel
theorem dX2_comeDown_5 : decode cX2_comeDown 5 = .ok (.aload_n 0, 1) := by decide +kernel
theorem dX2_comeDown_6 : decode cX2_comeDown 6 = .ok (.getfield 29, 3) := by decide +kernel
theorem dX2_comeDown_9 : decode cX2_comeDown 9 = .ok (.if_icmp .ge 106, 3) := by decide +kernel
theorem dX2_comeDown_12 : decode cX2_comeDown 12 = .ok (.aload_n 0, 1) := by decide +kernel
theorem dX2_comeDown_13 : decode cX2_comeDown 13 = .ok (.getfield 20, 3) := by decide +kernel
theorem dX2_comeDown_16 : decode cX2_comeDown 16 = .ok (.iload_n 3, 1) := by decide +kernel
theorem dX2_comeDown_17 : decode cX2_comeDown 17 = .ok (.aaload, 1) := by decide +kernel
theorem dX2_comeDown_18 : decode cX2_comeDown 18 = .ok (.astore 4, 2) := by decide +kernel
theorem dX2_comeDown_20 : decode cX2_comeDown 20 = .ok (.aload 4, 2) := by decide +kernel
theorem dX2_comeDown_22 : decode cX2_comeDown 22 = .ok (.getfield 65, 3) := by decide +kernel
theorem dX2_comeDown_25 : decode cX2_comeDown 25 = .ok (.istore 5, 2) := by decide +kernel
theorem dX2_comeDown_27 : decode cX2_comeDown 27 = .ok (.aload 4, 2) := by decide +kernel
theorem dX2_comeDown_29 : decode cX2_comeDown 29 = .ok (.aload_n 0, 1) := by decide +kernel
theorem dX2_comeDown_30 : decode cX2_comeDown 30 = .ok (.getfield 32, 3) := by decide +kernel
theorem dX2_comeDown_33 : decode cX2_comeDown 33 = .ok (.invokevirtual 83, 3) := by decide +kernel
theorem dX2_comeDown_36 : decode cX2_comeDown 36 = .ok (.ifCond .eq 73, 3) := by decide +kernel
theorem dX2_comeDown_39 : decode cX2_comeDown 39 = .ok (.aload_n 0, 1) := by decide +kernel
theorem dX2_comeDown_40 : decode cX2_comeDown 40 = .ok (.iload 5, 2) := by decide +kernel
theorem dX2_comeDown_42 : decode cX2_comeDown 42 = .ok (.invokevirtual 87, 3) := by decide +kernel
theorem dX2_comeDown_45 : decode cX2_comeDown 45 = .ok (.ifCond .eq 64, 3) := by decide +kernel
theorem dX2_comeDown_48 : decode cX2_comeDown 48 = .ok (.aload_n 0, 1) := by decide +kernel
theorem dX2_comeDown_49 : decode cX2_comeDown 49 = .ok (.getfield 11, 3) := by decide +kernel
theorem dX2_comeDown_52 : decode cX2_comeDown 52 = .ok (.iload 5, 2) := by decide +kernel
theorem dX2_comeDown_54 : decode cX2_comeDown 54 = .ok (.aaload, 1) := by decide +kernel
theorem dX2_comeDown_55 : decode cX2_comeDown 55 = .ok (.aload 4, 2) := by decide +kernel
theorem dX2_comeDown_57 : decode cX2_comeDown 57 = .ok (.getfield 90, 3) := by decide +kernel
theorem dX2_comeDown_60 : decode cX2_comeDown 60 = .ok (.iload_n 1, 1) := by decide +kernel
theorem dX2_comeDown_61 : decode cX2_comeDown 61 = .ok (.invokevirtual 93, 3) := by decide +kernel
theorem dX2_comeDown_64 : decode cX2_comeDown 64 = .ok (.ifCond .eq 30, 3) := by decide +kernel
theorem dX2_comeDown_67 : decode cX2_comeDown 67 = .ok (.aload_n 0, 1) := by decide +kernel
theorem dX2_comeDown_68 : decode cX2_comeDown 68 = .ok (.iload_n 3, 1) := by decide +kernel
theorem dX2_comeDown_69 : decode cX2_comeDown 69 = .ok (.iload 5, 2) := by decide +kernel
theorem dX2_comeDown_71 : decode cX2_comeDown 71 = .ok (.iload_n 1, 1) := by decide +kernel
theorem dX2_comeDown_72 : decode cX2_comeDown 72 = .ok (.invokevirtual 97, 3) := by decide +kernel
theorem dX2_comeDown_75 : decode cX2_comeDown 75 = .ok (.aload_n 0, 1) := by decide +kernel
theorem dX2_comeDown_76 : decode cX2_comeDown 76 = .ok (.getfield 11, 3) := by decide +kernel
theorem dX2_comeDown_79 : decode cX2_comeDown 79 = .ok (.iload 5, 2) := by decide +kernel
theorem dX2_comeDown_81 : decode cX2_comeDown 81 = .ok (.aaload, 1) := by decide +kernel
theorem dX2_comeDown_82 : decode cX2_comeDown 82 = .ok (.dup, 1) := by decide +kernel
theorem dX2_comeDown_83 : decode cX2_comeDown 83 = .ok (.getfield 100, 3) := by decide +kernel
theorem dX2_comeDown_86 : decode cX2_comeDown 86 = .ok (.iconst 1, 1) := by decide +kernel
theorem dX2_comeDown_87 : decode cX2_comeDown 87 = .ok (.iadd, 1) := by decide +kernel
theorem dX2_comeDown_88 : decode cX2_comeDown 88 = .ok (.putfield 100, 3) := by decide +kernel
theorem dX2_comeDown_91 : decode cX2_comeDown 91 = .ok (.goto 18, 3) := by decide +kernel
theorem dX2_comeDown_94 : decode cX2_comeDown 94 = .ok (.aload_n 0, 1) := by decide +kernel
theorem dX2_comeDown_95 : decode cX2_comeDown 95 = .ok (.getfield 11, 3) := by decide +kernel
theorem dX2_comeDown_98 : decode cX2_comeDown 98 = .ok (.iload 5, 2) := by decide +kernel
theorem dX2_comeDown_100 : decode cX2_comeDown 100 = .ok (.aaload, 1) := by decide +kernel
theorem dX2_comeDown_101 : decode cX2_comeDown 101 = .ok (.aload 4, 2) := by decide +kernel
theorem dX2_comeDown_103 : decode cX2_comeDown 103 = .ok (.invokevirtual 103, 3) := by decide +kernel
theorem dX2_comeDown_106 : decode cX2_comeDown 106 = .ok (.iinc 2 1, 3) := by decide +kernel
theorem dX2_comeDown_109 : decode cX2_comeDown 109 = .ok (.iinc 3 1, 3) := by decide +kernel
theorem dX2_comeDown_112 : decode cX2_comeDown 112 = .ok (.goto (-108), 3) := by decide +kernel
theorem dX2_comeDown_115 : decode cX2_comeDown 115 = .ok (.iload_n 2, 1) := by decide +kernel
theorem dX2_comeDown_116 : decode cX2_comeDown 116 = .ok (.ireturn, 1) := by decide +kernel
theorem dX2_throwFrom_0 : decode cX2_throwFrom 0 = .ok (.aload_n 1, 1) := by decide +kernel
theorem dX2_throwFrom_1 : decode cX2_throwFrom 1 = .ok (.getfield 58, 3) := by decide +kernel
theorem dX2_throwFrom_4 : decode cX2_throwFrom 4 = .ok (.iload_n 2, 1) := by decide +kernel
theorem dX2_throwFrom_5 : decode cX2_throwFrom 5 = .ok (.iaload, 1) := by decide +kernel
theorem dX2_throwFrom_6 : decode cX2_throwFrom 6 = .ok (.istore_n 3, 1) := by decide +kernel
theorem dX2_throwFrom_7 : decode cX2_throwFrom 7 = .ok (.aload_n 1, 1) := by decide +kernel
theorem dX2_throwFrom_8 : decode cX2_throwFrom 8 = .ok (.getfield 45, 3) := by decide +kernel
theorem dX2_throwFrom_11 : decode cX2_throwFrom 11 = .ok (.aload_n 0, 1) := by decide +kernel
theorem dX2_throwFrom_12 : decode cX2_throwFrom 12 = .ok (.getfield 32, 3) := by decide +kernel
theorem dX2_throwFrom_15 : decode cX2_throwFrom 15 = .ok (.invokevirtual 106, 3) := by decide +kernel
theorem dX2_throwFrom_18 : decode cX2_throwFrom 18 = .ok (.istore 4, 2) := by decide +kernel
theorem dX2_throwFrom_20 : decode cX2_throwFrom 20 = .ok (.aload_n 1, 1) := by decide +kernel
theorem dX2_throwFrom_21 : decode cX2_throwFrom 21 = .ok (.getfield 45, 3) := by decide +kernel
theorem dX2_throwFrom_24 : decode cX2_throwFrom 24 = .ok (.getfield 109, 3) := by decide +kernel
theorem dX2_throwFrom_27 : decode cX2_throwFrom 27 = .ok (.iload 4, 2) := by decide +kernel
theorem dX2_throwFrom_29 : decode cX2_throwFrom 29 = .ok (.iaload, 1) := by decide +kernel
theorem dX2_throwFrom_30 : decode cX2_throwFrom 30 = .ok (.istore 5, 2) := by decide +kernel
theorem dX2_throwFrom_32 : decode cX2_throwFrom 32 = .ok (.aload_n 0, 1) := by decide +kernel
theorem dX2_throwFrom_33 : decode cX2_throwFrom 33 = .ok (.iload_n 3, 1) := by decide +kernel
theorem dX2_throwFrom_34 : decode cX2_throwFrom 34 = .ok (.invokevirtual 112, 3) := by decide +kernel
theorem dX2_throwFrom_37 : decode cX2_throwFrom 37 = .ok (.ifCond .eq 40, 3) := by decide +kernel
theorem dX2_throwFrom_40 : decode cX2_throwFrom 40 = .ok (.iload 5, 2) := by decide +kernel
theorem dX2_throwFrom_42 : decode cX2_throwFrom 42 = .ok (.ifCond .le 35, 3) := by decide +kernel
theorem dX2_throwFrom_45 : decode cX2_throwFrom 45 = .ok (.aload_n 0, 1) := by decide +kernel
theorem dX2_throwFrom_46 : decode cX2_throwFrom 46 = .ok (.getfield 20, 3) := by decide +kernel
theorem dX2_throwFrom_49 : decode cX2_throwFrom 49 = .ok (.iload_n 3, 1) := by decide +kernel
theorem dX2_throwFrom_50 : decode cX2_throwFrom 50 = .ok (.aaload, 1) := by decide +kernel
theorem dX2_throwFrom_51 : decode cX2_throwFrom 51 = .ok (.aload_n 1, 1) := by decide +kernel
theorem dX2_throwFrom_52 : decode cX2_throwFrom 52 = .ok (.getfield 45, 3) := by decide +kernel
theorem dX2_throwFrom_55 : decode cX2_throwFrom 55 = .ok (.getfield 115, 3) := by decide +kernel
theorem dX2_throwFrom_58 : decode cX2_throwFrom 58 = .ok (.iload 4, 2) := by decide +kernel
theorem dX2_throwFrom_60 : decode cX2_throwFrom 60 = .ok (.iaload, 1) := by decide +kernel
theorem dX2_throwFrom_61 : decode cX2_throwFrom 61 = .ok (.iload 5, 2) := by decide +kernel
theorem dX2_throwFrom_63 : decode cX2_throwFrom 63 = .ok (.aload_n 0, 1) := by decide +kernel
theorem dX2_throwFrom_64 : decode cX2_throwFrom 64 = .ok (.getfield 32, 3) := by decide +kernel
theorem dX2_throwFrom_67 : decode cX2_throwFrom 67 = .ok (.invokevirtual 118, 3) := by decide +kernel
theorem dX2_throwFrom_70 : decode cX2_throwFrom 70 = .ok (.aload_n 1, 1) := by decide +kernel
theorem dX2_throwFrom_71 : decode cX2_throwFrom 71 = .ok (.getfield 58, 3) := by decide +kernel
theorem dX2_throwFrom_74 : decode cX2_throwFrom 74 = .ok (.iload_n 2, 1) := by decide +kernel
theorem dX2_throwFrom_75 : decode cX2_throwFrom 75 = .ok (.iconst (-1), 1) := by decide +kernel
theorem dX2_throwFrom_76 : decode cX2_throwFrom 76 = .ok (.iastore, 1) := by decide +kernel
theorem dX2_throwFrom_77 : decode cX2_throwFrom 77 = .ok (.return_, 1) := by decide +kernel
theorem dX2_thingsIn_0 : decode cX2_thingsIn 0 = .ok (.iconst 0, 1) := by decide +kernel
theorem dX2_thingsIn_1 : decode cX2_thingsIn 1 = .ok (.istore_n 2, 1) := by decide +kernel
theorem dX2_thingsIn_2 : decode cX2_thingsIn 2 = .ok (.iconst 0, 1) := by decide +kernel
theorem dX2_thingsIn_3 : decode cX2_thingsIn 3 = .ok (.istore_n 3, 1) := by decide +kernel
theorem dX2_thingsIn_4 : decode cX2_thingsIn 4 = .ok (.iload_n 3, 1) := by decide +kernel
theorem dX2_thingsIn_5 : decode cX2_thingsIn 5 = .ok (.aload_n 0, 1) := by decide +kernel
theorem dX2_thingsIn_6 : decode cX2_thingsIn 6 = .ok (.getfield 29, 3) := by decide +kernel
theorem dX2_thingsIn_9 : decode cX2_thingsIn 9 = .ok (.if_icmp .ge 25, 3) := by decide +kernel
theorem dX2_thingsIn_12 : decode cX2_thingsIn 12 = .ok (.aload_n 0, 1) := by decide +kernel
theorem dX2_thingsIn_13 : decode cX2_thingsIn 13 = .ok (.getfield 20, 3) := by decide +kernel
theorem dX2_thingsIn_16 : decode cX2_thingsIn 16 = .ok (.iload_n 3, 1) := by decide +kernel
theorem dX2_thingsIn_17 : decode cX2_thingsIn 17 = .ok (.aaload, 1) := by decide +kernel
theorem dX2_thingsIn_18 : decode cX2_thingsIn 18 = .ok (.getfield 62, 3) := by decide +kernel
theorem dX2_thingsIn_21 : decode cX2_thingsIn 21 = .ok (.iload_n 1, 1) := by decide +kernel
theorem dX2_thingsIn_22 : decode cX2_thingsIn 22 = .ok (.if_icmp .ne 6, 3) := by decide +kernel
theorem dX2_thingsIn_25 : decode cX2_thingsIn 25 = .ok (.iinc 2 1, 3) := by decide +kernel
theorem dX2_thingsIn_28 : decode cX2_thingsIn 28 = .ok (.iinc 3 1, 3) := by decide +kernel
theorem dX2_thingsIn_31 : decode cX2_thingsIn 31 = .ok (.goto (-27), 3) := by decide +kernel
theorem dX2_thingsIn_34 : decode cX2_thingsIn 34 = .ok (.iload_n 2, 1) := by decide +kernel
theorem dX2_thingsIn_35 : decode cX2_thingsIn 35 = .ok (.ireturn, 1) := by decide +kernel
theorem dX2_thingsFlyingTo_0 : decode cX2_thingsFlyingTo 0 = .ok (.iconst 0, 1) := by decide +kernel
theorem dX2_thingsFlyingTo_1 : decode cX2_thingsFlyingTo 1 = .ok (.istore_n 2, 1) := by decide +kernel
theorem dX2_thingsFlyingTo_2 : decode cX2_thingsFlyingTo 2 = .ok (.iconst 0, 1) := by decide +kernel
theorem dX2_thingsFlyingTo_3 : decode cX2_thingsFlyingTo 3 = .ok (.istore_n 3, 1) := by decide +kernel
theorem dX2_thingsFlyingTo_4 : decode cX2_thingsFlyingTo 4 = .ok (.iload_n 3, 1) := by decide +kernel
theorem dX2_thingsFlyingTo_5 : decode cX2_thingsFlyingTo 5 = .ok (.aload_n 0, 1) := by decide +kernel
theorem dX2_thingsFlyingTo_6 : decode cX2_thingsFlyingTo 6 = .ok (.getfield 29, 3) := by decide +kernel
theorem dX2_thingsFlyingTo_9 : decode cX2_thingsFlyingTo 9 = .ok (.if_icmp .ge 38, 3) := by decide +kernel
theorem dX2_thingsFlyingTo_12 : decode cX2_thingsFlyingTo 12 = .ok (.aload_n 0, 1) := by decide +kernel
theorem dX2_thingsFlyingTo_13 : decode cX2_thingsFlyingTo 13 = .ok (.getfield 20, 3) := by decide +kernel
theorem dX2_thingsFlyingTo_16 : decode cX2_thingsFlyingTo 16 = .ok (.iload_n 3, 1) := by decide +kernel
theorem dX2_thingsFlyingTo_17 : decode cX2_thingsFlyingTo 17 = .ok (.aaload, 1) := by decide +kernel
theorem dX2_thingsFlyingTo_18 : decode cX2_thingsFlyingTo 18 = .ok (.getfield 62, 3) := by decide +kernel
theorem dX2_thingsFlyingTo_21 : decode cX2_thingsFlyingTo 21 = .ok (.iconst 2, 1) := by decide +kernel
theorem dX2_thingsFlyingTo_22 : decode cX2_thingsFlyingTo 22 = .ok (.if_icmp .ne 19, 3) := by decide +kernel
theorem dX2_thingsFlyingTo_25 : decode cX2_thingsFlyingTo 25 = .ok (.aload_n 0, 1) := by decide +kernel
theorem dX2_thingsFlyingTo_26 : decode cX2_thingsFlyingTo 26 = .ok (.getfield 20, 3) := by decide +kernel
theorem dX2_thingsFlyingTo_29 : decode cX2_thingsFlyingTo 29 = .ok (.iload_n 3, 1) := by decide +kernel
theorem dX2_thingsFlyingTo_30 : decode cX2_thingsFlyingTo 30 = .ok (.aaload, 1) := by decide +kernel
theorem dX2_thingsFlyingTo_31 : decode cX2_thingsFlyingTo 31 = .ok (.getfield 65, 3) := by decide +kernel
theorem dX2_thingsFlyingTo_34 : decode cX2_thingsFlyingTo 34 = .ok (.iload_n 1, 1) := by decide +kernel
theorem dX2_thingsFlyingTo_35 : decode cX2_thingsFlyingTo 35 = .ok (.if_icmp .ne 6, 3) := by decide +kernel
theorem dX2_thingsFlyingTo_38 : decode cX2_thingsFlyingTo 38 = .ok (.iinc 2 1, 3) := by decide +kernel
theorem dX2_thingsFlyingTo_41 : decode cX2_thingsFlyingTo 41 = .ok (.iinc 3 1, 3) := by decide +kernel
theorem dX2_thingsFlyingTo_44 : decode cX2_thingsFlyingTo 44 = .ok (.goto (-40), 3) := by decide +kernel
theorem dX2_thingsFlyingTo_47 : decode cX2_thingsFlyingTo 47 = .ok (.iload_n 2, 1) := by decide +kernel
theorem dX2_thingsFlyingTo_48 : decode cX2_thingsFlyingTo 48 = .ok (.ireturn, 1) := by decide +kernel
theorem dX2_allThrown_0 : decode cX2_allThrown 0 = .ok (.iconst 0, 1) := by decide +kernel
theorem dX2_allThrown_1 : decode cX2_allThrown 1 = .ok (.istore_n 1, 1) := by decide +kernel
theorem dX2_allThrown_2 : decode cX2_allThrown 2 = .ok (.iconst 0, 1) := by decide +kernel
theorem dX2_allThrown_3 : decode cX2_allThrown 3 = .ok (.istore_n 2, 1) := by decide +kernel
theorem dX2_allThrown_4 : decode cX2_allThrown 4 = .ok (.iload_n 2, 1) := by decide +kernel
theorem dX2_allThrown_5 : decode cX2_allThrown 5 = .ok (.aload_n 0, 1) := by decide +kernel
theorem dX2_allThrown_6 : decode cX2_allThrown 6 = .ok (.getfield 29, 3) := by decide +kernel
theorem dX2_allThrown_9 : decode cX2_allThrown 9 = .ok (.if_icmp .ge 21, 3) := by decide +kernel
theorem dX2_allThrown_12 : decode cX2_allThrown 12 = .ok (.iload_n 1, 1) := by decide +kernel
theorem dX2_allThrown_13 : decode cX2_allThrown 13 = .ok (.aload_n 0, 1) := by decide +kernel
theorem dX2_allThrown_14 : decode cX2_allThrown 14 = .ok (.getfield 20, 3) := by decide +kernel
theorem dX2_allThrown_17 : decode cX2_allThrown 17 = .ok (.iload_n 2, 1) := by decide +kernel
theorem dX2_allThrown_18 : decode cX2_allThrown 18 = .ok (.aaload, 1) := by decide +kernel
theorem dX2_allThrown_19 : decode cX2_allThrown 19 = .ok (.getfield 121, 3) := by decide +kernel
theorem dX2_allThrown_22 : decode cX2_allThrown 22 = .ok (.iadd, 1) := by decide +kernel
theorem dX2_allThrown_23 : decode cX2_allThrown 23 = .ok (.istore_n 1, 1) := by decide +kernel
theorem dX2_allThrown_24 : decode cX2_allThrown 24 = .ok (.iinc 2 1, 3) := by decide +kernel
theorem dX2_allThrown_27 : decode cX2_allThrown 27 = .ok (.goto (-23), 3) := by decide +kernel
theorem dX2_allThrown_30 : decode cX2_allThrown 30 = .ok (.iload_n 1, 1) := by decide +kernel
theorem dX2_allThrown_31 : decode cX2_allThrown 31 = .ok (.ireturn, 1) := by decide +kernel
theorem dX2_allFell_0 : decode cX2_allFell 0 = .ok (.iconst 0, 1) := by decide +kernel
theorem dX2_allFell_1 : decode cX2_allFell 1 = .ok (.istore_n 1, 1) := by decide +kernel
theorem dX2_allFell_2 : decode cX2_allFell 2 = .ok (.iconst 0, 1) := by decide +kernel
theorem dX2_allFell_3 : decode cX2_allFell 3 = .ok (.istore_n 2, 1) := by decide +kernel
theorem dX2_allFell_4 : decode cX2_allFell 4 = .ok (.iload_n 2, 1) := by decide +kernel
theorem dX2_allFell_5 : decode cX2_allFell 5 = .ok (.aload_n 0, 1) := by decide +kernel
theorem dX2_allFell_6 : decode cX2_allFell 6 = .ok (.getfield 29, 3) := by decide +kernel
theorem dX2_allFell_9 : decode cX2_allFell 9 = .ok (.if_icmp .ge 21, 3) := by decide +kernel
theorem dX2_allFell_12 : decode cX2_allFell 12 = .ok (.iload_n 1, 1) := by decide +kernel
theorem dX2_allFell_13 : decode cX2_allFell 13 = .ok (.aload_n 0, 1) := by decide +kernel
theorem dX2_allFell_14 : decode cX2_allFell 14 = .ok (.getfield 20, 3) := by decide +kernel
theorem dX2_allFell_17 : decode cX2_allFell 17 = .ok (.iload_n 2, 1) := by decide +kernel
theorem dX2_allFell_18 : decode cX2_allFell 18 = .ok (.aaload, 1) := by decide +kernel
theorem dX2_allFell_19 : decode cX2_allFell 19 = .ok (.getfield 124, 3) := by decide +kernel
theorem dX2_allFell_22 : decode cX2_allFell 22 = .ok (.iadd, 1) := by decide +kernel
theorem dX2_allFell_23 : decode cX2_allFell 23 = .ok (.istore_n 1, 1) := by decide +kernel
theorem dX2_allFell_24 : decode cX2_allFell 24 = .ok (.iinc 2 1, 3) := by decide +kernel
theorem dX2_allFell_27 : decode cX2_allFell 27 = .ok (.goto (-23), 3) := by decide +kernel
theorem dX2_allFell_30 : decode cX2_allFell 30 = .ok (.iload_n 1, 1) := by decide +kernel
theorem dX2_allFell_31 : decode cX2_allFell 31 = .ok (.ireturn, 1) := by decide +kernel
theorem dX2_allBruises_0 : decode cX2_allBruises 0 = .ok (.iconst 0, 1) := by decide +kernel
theorem dX2_allBruises_1 : decode cX2_allBruises 1 = .ok (.istore_n 1, 1) := by decide +kernel
theorem dX2_allBruises_2 : decode cX2_allBruises 2 = .ok (.iconst 0, 1) := by decide +kernel
theorem dX2_allBruises_3 : decode cX2_allBruises 3 = .ok (.istore_n 2, 1) := by decide +kernel
theorem dX2_allBruises_4 : decode cX2_allBruises 4 = .ok (.iload_n 2, 1) := by decide +kernel
theorem dX2_allBruises_5 : decode cX2_allBruises 5 = .ok (.aload_n 0, 1) := by decide +kernel
theorem dX2_allBruises_6 : decode cX2_allBruises 6 = .ok (.getfield 25, 3) := by decide +kernel
theorem dX2_allBruises_9 : decode cX2_allBruises 9 = .ok (.if_icmp .ge 21, 3) := by decide +kernel
theorem dX2_allBruises_12 : decode cX2_allBruises 12 = .ok (.iload_n 1, 1) := by decide +kernel
theorem dX2_allBruises_13 : decode cX2_allBruises 13 = .ok (.aload_n 0, 1) := by decide +kernel
theorem dX2_allBruises_14 : decode cX2_allBruises 14 = .ok (.getfield 11, 3) := by decide +kernel
theorem dX2_allBruises_17 : decode cX2_allBruises 17 = .ok (.iload_n 2, 1) := by decide +kernel
theorem dX2_allBruises_18 : decode cX2_allBruises 18 = .ok (.aaload, 1) := by decide +kernel
theorem dX2_allBruises_19 : decode cX2_allBruises 19 = .ok (.getfield 127, 3) := by decide +kernel
theorem dX2_allBruises_22 : decode cX2_allBruises 22 = .ok (.iadd, 1) := by decide +kernel
theorem dX2_allBruises_23 : decode cX2_allBruises 23 = .ok (.istore_n 1, 1) := by decide +kernel
theorem dX2_allBruises_24 : decode cX2_allBruises 24 = .ok (.iinc 2 1, 3) := by decide +kernel
theorem dX2_allBruises_27 : decode cX2_allBruises 27 = .ok (.goto (-23), 3) := by decide +kernel
theorem dX2_allBruises_30 : decode cX2_allBruises 30 = .ok (.iload_n 1, 1) := by decide +kernel
theorem dX2_allBruises_31 : decode cX2_allBruises 31 = .ok (.ireturn, 1) := by decide +kernel
theorem dX2_tellThing_0 : decode cX2_tellThing 0 = .ok (.aload_n 0, 1) := by decide +kernel
theorem dX2_tellThing_1 : decode cX2_tellThing 1 = .ok (.getfield 20, 3) := by decide +kernel
theorem dX2_tellThing_4 : decode cX2_tellThing 4 = .ok (.iload_n 1, 1) := by decide +kernel
theorem dX2_tellThing_5 : decode cX2_tellThing 5 = .ok (.aaload, 1) := by decide +kernel
theorem dX2_tellThing_6 : decode cX2_tellThing 6 = .ok (.astore_n 3, 1) := by decide +kernel
theorem dX2_tellThing_7 : decode cX2_tellThing 7 = .ok (.iload_n 2, 1) := by decide +kernel
theorem dX2_tellThing_8 : decode cX2_tellThing 8 = .ok (.tableswitch 87 0 5 #[40, 45, 50, 55, 60, 82], 40) := by decide +kernel
theorem dX2_tellThing_48 : decode cX2_tellThing 48 = .ok (.aload_n 3, 1) := by decide +kernel
theorem dX2_tellThing_49 : decode cX2_tellThing 49 = .ok (.getfield 55, 3) := by decide +kernel
theorem dX2_tellThing_52 : decode cX2_tellThing 52 = .ok (.ireturn, 1) := by decide +kernel
theorem dX2_tellThing_53 : decode cX2_tellThing 53 = .ok (.aload_n 3, 1) := by decide +kernel
theorem dX2_tellThing_54 : decode cX2_tellThing 54 = .ok (.getfield 62, 3) := by decide +kernel
theorem dX2_tellThing_57 : decode cX2_tellThing 57 = .ok (.ireturn, 1) := by decide +kernel
theorem dX2_tellThing_58 : decode cX2_tellThing 58 = .ok (.aload_n 3, 1) := by decide +kernel
theorem dX2_tellThing_59 : decode cX2_tellThing 59 = .ok (.getfield 65, 3) := by decide +kernel
theorem dX2_tellThing_62 : decode cX2_tellThing 62 = .ok (.ireturn, 1) := by decide +kernel
theorem dX2_tellThing_63 : decode cX2_tellThing 63 = .ok (.aload_n 3, 1) := by decide +kernel
theorem dX2_tellThing_64 : decode cX2_tellThing 64 = .ok (.getfield 68, 3) := by decide +kernel
theorem dX2_tellThing_67 : decode cX2_tellThing 67 = .ok (.ireturn, 1) := by decide +kernel
theorem dX2_tellThing_68 : decode cX2_tellThing 68 = .ok (.aload_n 3, 1) := by decide +kernel
theorem dX2_tellThing_69 : decode cX2_tellThing 69 = .ok (.getfield 62, 3) := by decide +kernel
theorem dX2_tellThing_72 : decode cX2_tellThing 72 = .ok (.iconst 2, 1) := by decide +kernel
theorem dX2_tellThing_73 : decode cX2_tellThing 73 = .ok (.if_icmp .ne 15, 3) := by decide +kernel
theorem dX2_tellThing_76 : decode cX2_tellThing 76 = .ok (.aload_n 3, 1) := by decide +kernel
theorem dX2_tellThing_77 : decode cX2_tellThing 77 = .ok (.getfield 130, 3) := by decide +kernel
theorem dX2_tellThing_80 : decode cX2_tellThing 80 = .ok (.aload_n 0, 1) := by decide +kernel
theorem dX2_tellThing_81 : decode cX2_tellThing 81 = .ok (.getfield 32, 3) := by decide +kernel
theorem dX2_tellThing_84 : decode cX2_tellThing 84 = .ok (.isub, 1) := by decide +kernel
theorem dX2_tellThing_85 : decode cX2_tellThing 85 = .ok (.goto 4, 3) := by decide +kernel
theorem dX2_tellThing_88 : decode cX2_tellThing 88 = .ok (.iconst (-1), 1) := by decide +kernel
theorem dX2_tellThing_89 : decode cX2_tellThing 89 = .ok (.ireturn, 1) := by decide +kernel
theorem dX2_tellThing_90 : decode cX2_tellThing 90 = .ok (.aload_n 3, 1) := by decide +kernel
theorem dX2_tellThing_91 : decode cX2_tellThing 91 = .ok (.getfield 121, 3) := by decide +kernel
theorem dX2_tellThing_94 : decode cX2_tellThing 94 = .ok (.ireturn, 1) := by decide +kernel
theorem dX2_tellThing_95 : decode cX2_tellThing 95 = .ok (.aload_n 3, 1) := by decide +kernel
theorem dX2_tellThing_96 : decode cX2_tellThing 96 = .ok (.getfield 124, 3) := by decide +kernel
theorem dX2_tellThing_99 : decode cX2_tellThing 99 = .ok (.ireturn, 1) := by decide +kernel
theorem dX2_tellJuggler_0 : decode cX2_tellJuggler 0 = .ok (.aload_n 0, 1) := by decide +kernel
theorem dX2_tellJuggler_1 : decode cX2_tellJuggler 1 = .ok (.getfield 11, 3) := by decide +kernel
theorem dX2_tellJuggler_4 : decode cX2_tellJuggler 4 = .ok (.iload_n 1, 1) := by decide +kernel
theorem dX2_tellJuggler_5 : decode cX2_tellJuggler 5 = .ok (.aaload, 1) := by decide +kernel
theorem dX2_tellJuggler_6 : decode cX2_tellJuggler 6 = .ok (.astore_n 3, 1) := by decide +kernel
theorem dX2_tellJuggler_7 : decode cX2_tellJuggler 7 = .ok (.iload_n 2, 1) := by decide +kernel
theorem dX2_tellJuggler_8 : decode cX2_tellJuggler 8 = .ok (.tableswitch 78 0 5 #[40, 45, 50, 57, 64, 72], 40) := by decide +kernel
theorem dX2_tellJuggler_48 : decode cX2_tellJuggler 48 = .ok (.aload_n 3, 1) := by decide +kernel
theorem dX2_tellJuggler_49 : decode cX2_tellJuggler 49 = .ok (.getfield 42, 3) := by decide +kernel
theorem dX2_tellJuggler_52 : decode cX2_tellJuggler 52 = .ok (.ireturn, 1) := by decide +kernel
theorem dX2_tellJuggler_53 : decode cX2_tellJuggler 53 = .ok (.aload_n 3, 1) := by decide +kernel
theorem dX2_tellJuggler_54 : decode cX2_tellJuggler 54 = .ok (.getfield 127, 3) := by decide +kernel
theorem dX2_tellJuggler_57 : decode cX2_tellJuggler 57 = .ok (.ireturn, 1) := by decide +kernel
theorem dX2_tellJuggler_58 : decode cX2_tellJuggler 58 = .ok (.aload_n 3, 1) := by decide +kernel
theorem dX2_tellJuggler_59 : decode cX2_tellJuggler 59 = .ok (.getfield 58, 3) := by decide +kernel
theorem dX2_tellJuggler_62 : decode cX2_tellJuggler 62 = .ok (.iconst 0, 1) := by decide +kernel
theorem dX2_tellJuggler_63 : decode cX2_tellJuggler 63 = .ok (.iaload, 1) := by decide +kernel
theorem dX2_tellJuggler_64 : decode cX2_tellJuggler 64 = .ok (.ireturn, 1) := by decide +kernel
theorem dX2_tellJuggler_65 : decode cX2_tellJuggler 65 = .ok (.aload_n 3, 1) := by decide +kernel
theorem dX2_tellJuggler_66 : decode cX2_tellJuggler 66 = .ok (.getfield 58, 3) := by decide +kernel
theorem dX2_tellJuggler_69 : decode cX2_tellJuggler 69 = .ok (.iconst 1, 1) := by decide +kernel
theorem dX2_tellJuggler_70 : decode cX2_tellJuggler 70 = .ok (.iaload, 1) := by decide +kernel
theorem dX2_tellJuggler_71 : decode cX2_tellJuggler 71 = .ok (.ireturn, 1) := by decide +kernel
theorem dX2_tellJuggler_72 : decode cX2_tellJuggler 72 = .ok (.aload_n 3, 1) := by decide +kernel
theorem dX2_tellJuggler_73 : decode cX2_tellJuggler 73 = .ok (.getfield 45, 3) := by decide +kernel
theorem dX2_tellJuggler_76 : decode cX2_tellJuggler 76 = .ok (.getfield 133, 3) := by decide +kernel
theorem dX2_tellJuggler_79 : decode cX2_tellJuggler 79 = .ok (.ireturn, 1) := by decide +kernel
theorem dX2_tellJuggler_80 : decode cX2_tellJuggler 80 = .ok (.aload_n 0, 1) := by decide +kernel
theorem dX2_tellJuggler_81 : decode cX2_tellJuggler 81 = .ok (.iload_n 1, 1) := by decide +kernel
theorem dX2_tellJuggler_82 : decode cX2_tellJuggler 82 = .ok (.invokevirtual 136, 3) := by decide +kernel
theorem dX2_tellJuggler_85 : decode cX2_tellJuggler 85 = .ok (.ireturn, 1) := by decide +kernel
theorem dX2_tellJuggler_86 : decode cX2_tellJuggler 86 = .ok (.aload_n 3, 1) := by decide +kernel
theorem dX2_tellJuggler_87 : decode cX2_tellJuggler 87 = .ok (.getfield 100, 3) := by decide +kernel
theorem dX2_tellJuggler_90 : decode cX2_tellJuggler 90 = .ok (.ireturn, 1) := by decide +kernel
theorem dX2_tellCount_0 : decode cX2_tellCount 0 = .ok (.iload_n 1, 1) := by decide +kernel
theorem dX2_tellCount_1 : decode cX2_tellCount 1 = .ok (.tableswitch 91 0 7 #[47, 52, 57, 62, 68, 74, 80, 86], 47) := by decide +kernel
theorem dX2_tellCount_48 : decode cX2_tellCount 48 = .ok (.aload_n 0, 1) := by decide +kernel
theorem dX2_tellCount_49 : decode cX2_tellCount 49 = .ok (.getfield 32, 3) := by decide +kernel
theorem dX2_tellCount_52 : decode cX2_tellCount 52 = .ok (.ireturn, 1) := by decide +kernel
theorem dX2_tellCount_53 : decode cX2_tellCount 53 = .ok (.aload_n 0, 1) := by decide +kernel
theorem dX2_tellCount_54 : decode cX2_tellCount 54 = .ok (.getfield 25, 3) := by decide +kernel
theorem dX2_tellCount_57 : decode cX2_tellCount 57 = .ok (.ireturn, 1) := by decide +kernel
theorem dX2_tellCount_58 : decode cX2_tellCount 58 = .ok (.aload_n 0, 1) := by decide +kernel
theorem dX2_tellCount_59 : decode cX2_tellCount 59 = .ok (.getfield 29, 3) := by decide +kernel
theorem dX2_tellCount_62 : decode cX2_tellCount 62 = .ok (.ireturn, 1) := by decide +kernel
theorem dX2_tellCount_63 : decode cX2_tellCount 63 = .ok (.aload_n 0, 1) := by decide +kernel
theorem dX2_tellCount_64 : decode cX2_tellCount 64 = .ok (.iconst 1, 1) := by decide +kernel
theorem dX2_tellCount_65 : decode cX2_tellCount 65 = .ok (.invokevirtual 139, 3) := by decide +kernel
theorem dX2_tellCount_68 : decode cX2_tellCount 68 = .ok (.ireturn, 1) := by decide +kernel
theorem dX2_tellCount_69 : decode cX2_tellCount 69 = .ok (.aload_n 0, 1) := by decide +kernel
theorem dX2_tellCount_70 : decode cX2_tellCount 70 = .ok (.iconst 2, 1) := by decide +kernel
theorem dX2_tellCount_71 : decode cX2_tellCount 71 = .ok (.invokevirtual 139, 3) := by decide +kernel
theorem dX2_tellCount_74 : decode cX2_tellCount 74 = .ok (.ireturn, 1) := by decide +kernel
theorem dX2_tellCount_75 : decode cX2_tellCount 75 = .ok (.aload_n 0, 1) := by decide +kernel
theorem dX2_tellCount_76 : decode cX2_tellCount 76 = .ok (.iconst 0, 1) := by decide +kernel
theorem dX2_tellCount_77 : decode cX2_tellCount 77 = .ok (.invokevirtual 139, 3) := by decide +kernel
theorem dX2_tellCount_80 : decode cX2_tellCount 80 = .ok (.ireturn, 1) := by decide +kernel
theorem dX2_tellCount_81 : decode cX2_tellCount 81 = .ok (.aload_n 0, 1) := by decide +kernel
theorem dX2_tellCount_82 : decode cX2_tellCount 82 = .ok (.iconst 3, 1) := by decide +kernel
theorem dX2_tellCount_83 : decode cX2_tellCount 83 = .ok (.invokevirtual 139, 3) := by decide +kernel
theorem dX2_tellCount_86 : decode cX2_tellCount 86 = .ok (.ireturn, 1) := by decide +kernel
theorem dX2_tellCount_87 : decode cX2_tellCount 87 = .ok (.aload_n 0, 1) := by decide +kernel
theorem dX2_tellCount_88 : decode cX2_tellCount 88 = .ok (.invokevirtual 142, 3) := by decide +kernel
theorem dX2_tellCount_91 : decode cX2_tellCount 91 = .ok (.ireturn, 1) := by decide +kernel
theorem dX2_tellCount_92 : decode cX2_tellCount 92 = .ok (.aload_n 0, 1) := by decide +kernel
theorem dX2_tellCount_93 : decode cX2_tellCount 93 = .ok (.invokevirtual 145, 3) := by decide +kernel
theorem dX2_tellCount_96 : decode cX2_tellCount 96 = .ok (.ireturn, 1) := by decide +kernel
end
section
theorem dX4_init_0 : decode cX4_init 0 = .ok (.aload_n 0, 1) := by decide +kernel
theorem dX4_init_1 : decode cX4_init 1 = .ok (.invokespecial 1, 3) := by decide +kernel
theorem dX4_init_4 : decode cX4_init 4 = .ok (.aload_n 0, 1) := by decide +kernel
theorem dX4_init_5 : decode cX4_init 5 = .ok (.new 7, 3) := by decide +kernel
theorem dX4_init_8 : decode cX4_init 8 = .ok (.dup, 1) := by decide +kernel
theorem dX4_init_9 : decode cX4_init 9 = .ok (.invokespecial 9, 3) := by decide +kernel
theorem dX4_init_12 : decode cX4_init 12 = .ok (.putfield 10, 3) := by decide +kernel
theorem dX4_init_15 : decode cX4_init 15 = .ok (.aload_n 0, 1) := by decide +kernel
theorem dX4_init_16 : decode cX4_init 16 = .ok (.new 7, 3) := by decide +kernel
theorem dX4_init_19 : decode cX4_init 19 = .ok (.dup, 1) := by decide +kernel
theorem dX4_init_20 : decode cX4_init 20 = .ok (.invokespecial 9, 3) := by decide +kernel
theorem dX4_init_23 : decode cX4_init 23 = .ok (.putfield 16, 3) := by decide +kernel
theorem dX4_init_26 : decode cX4_init 26 = .ok (.return_, 1) := by decide +kernel
theorem dX4_come_0 : decode cX4_come 0 = .ok (.iload_n 1, 1) := by decide +kernel
theorem dX4_come_1 : decode cX4_come 1 = .ok (.iconst 1, 1) := by decide +kernel
theorem dX4_come_2 : decode cX4_come 2 = .ok (.if_icmp .lt 9, 3) := by decide +kernel
theorem dX4_come_5 : decode cX4_come 5 = .ok (.iload_n 1, 1) := by decide +kernel
theorem dX4_come_6 : decode cX4_come 6 = .ok (.bipush 9, 2) := by decide +kernel
theorem dX4_come_8 : decode cX4_come 8 = .ok (.if_icmp .le 13, 3) := by decide +kernel
theorem dX4_come_11 : decode cX4_come 11 = .ok (.new 19, 3) := by decide +kernel
theorem dX4_come_14 : decode cX4_come 14 = .ok (.dup, 1) := by decide +kernel
theorem dX4_come_15 : decode cX4_come 15 = .ok (.ldc 21, 2) := by decide +kernel
theorem dX4_come_17 : decode cX4_come 17 = .ok (.invokespecial 23, 3) := by decide +kernel
theorem dX4_come_20 : decode cX4_come 20 = .ok (.athrow, 1) := by decide +kernel
theorem dX4_come_21 : decode cX4_come 21 = .ok (.aload_n 0, 1) := by decide +kernel
theorem dX4_come_22 : decode cX4_come 22 = .ok (.getfield 10, 3) := by decide +kernel
theorem dX4_come_25 : decode cX4_come 25 = .ok (.getfield 26, 3) := by decide +kernel
theorem dX4_come_28 : decode cX4_come 28 = .ok (.iconst 4, 1) := by decide +kernel
theorem dX4_come_29 : decode cX4_come 29 = .ok (.if_icmp .lt 13, 3) := by decide +kernel
theorem dX4_come_32 : decode cX4_come 32 = .ok (.new 30, 3) := by decide +kernel
theorem dX4_come_35 : decode cX4_come 35 = .ok (.dup, 1) := by decide +kernel
theorem dX4_come_36 : decode cX4_come 36 = .ok (.ldc 32, 2) := by decide +kernel
theorem dX4_come_38 : decode cX4_come 38 = .ok (.invokespecial 34, 3) := by decide +kernel
theorem dX4_come_41 : decode cX4_come 41 = .ok (.athrow, 1) := by decide +kernel
theorem dX4_come_42 : decode cX4_come 42 = .ok (.aload_n 0, 1) := by decide +kernel
theorem dX4_come_43 : decode cX4_come 43 = .ok (.getfield 10, 3) := by decide +kernel
theorem dX4_come_46 : decode cX4_come 46 = .ok (.iload_n 1, 1) := by decide +kernel
theorem dX4_come_47 : decode cX4_come 47 = .ok (.invokevirtual 35, 3) := by decide +kernel
theorem dX4_come_50 : decode cX4_come 50 = .ok (.ireturn, 1) := by decide +kernel
theorem dX4_setPattern_0 : decode cX4_setPattern 0 = .ok (.aload_n 0, 1) := by decide +kernel
theorem dX4_setPattern_1 : decode cX4_setPattern 1 = .ok (.iload_n 1, 1) := by decide +kernel
theorem dX4_setPattern_2 : decode cX4_setPattern 2 = .ok (.invokevirtual 39, 3) := by decide +kernel
theorem dX4_setPattern_5 : decode cX4_setPattern 5 = .ok (.iload_n 2, 1) := by decide +kernel
theorem dX4_setPattern_6 : decode cX4_setPattern 6 = .ok (.iconst 1, 1) := by decide +kernel
theorem dX4_setPattern_7 : decode cX4_setPattern 7 = .ok (.if_icmp .lt 9, 3) := by decide +kernel
theorem dX4_setPattern_10 : decode cX4_setPattern 10 = .ok (.iload_n 2, 1) := by decide +kernel
theorem dX4_setPattern_11 : decode cX4_setPattern 11 = .ok (.bipush 8, 2) := by decide +kernel
theorem dX4_setPattern_13 : decode cX4_setPattern 13 = .ok (.if_icmp .le 13, 3) := by decide +kernel
theorem dX4_setPattern_16 : decode cX4_setPattern 16 = .ok (.new 19, 3) := by decide +kernel
theorem dX4_setPattern_19 : decode cX4_setPattern 19 = .ok (.dup, 1) := by decide +kernel
theorem dX4_setPattern_20 : decode cX4_setPattern 20 = .ok (.ldc 43, 2) := by decide +kernel
theorem dX4_setPattern_22 : decode cX4_setPattern 22 = .ok (.invokespecial 23, 3) := by decide +kernel
theorem dX4_setPattern_25 : decode cX4_setPattern 25 = .ok (.athrow, 1) := by decide +kernel
theorem dX4_setPattern_26 : decode cX4_setPattern 26 = .ok (.iload_n 3, 1) := by decide +kernel
theorem dX4_setPattern_27 : decode cX4_setPattern 27 = .ok (.ifCond .lt 11, 3) := by decide +kernel
theorem dX4_setPattern_30 : decode cX4_setPattern 30 = .ok (.iload_n 3, 1) := by decide +kernel
theorem dX4_setPattern_31 : decode cX4_setPattern 31 = .ok (.iload_n 2, 1) := by decide +kernel
theorem dX4_setPattern_32 : decode cX4_setPattern 32 = .ok (.invokestatic 45, 3) := by decide +kernel
theorem dX4_setPattern_35 : decode cX4_setPattern 35 = .ok (.if_icmp .lt 13, 3) := by decide +kernel
theorem dX4_setPattern_38 : decode cX4_setPattern 38 = .ok (.new 19, 3) := by decide +kernel
theorem dX4_setPattern_41 : decode cX4_setPattern 41 = .ok (.dup, 1) := by decide +kernel
theorem dX4_setPattern_42 : decode cX4_setPattern 42 = .ok (.ldc 48, 2) := by decide +kernel
theorem dX4_setPattern_44 : decode cX4_setPattern 44 = .ok (.invokespecial 23, 3) := by decide +kernel
theorem dX4_setPattern_47 : decode cX4_setPattern 47 = .ok (.athrow, 1) := by decide +kernel
theorem dX4_setPattern_48 : decode cX4_setPattern 48 = .ok (.aload_n 0, 1) := by decide +kernel
theorem dX4_setPattern_49 : decode cX4_setPattern 49 = .ok (.getfield 10, 3) := by decide +kernel
theorem dX4_setPattern_52 : decode cX4_setPattern 52 = .ok (.getfield 50, 3) := by decide +kernel
theorem dX4_setPattern_55 : decode cX4_setPattern 55 = .ok (.iload_n 1, 1) := by decide +kernel
theorem dX4_setPattern_56 : decode cX4_setPattern 56 = .ok (.aaload, 1) := by decide +kernel
theorem dX4_setPattern_57 : decode cX4_setPattern 57 = .ok (.getfield 54, 3) := by decide +kernel
theorem dX4_setPattern_60 : decode cX4_setPattern 60 = .ok (.astore 4, 2) := by decide +kernel
theorem dX4_setPattern_62 : decode cX4_setPattern 62 = .ok (.aload 4, 2) := by decide +kernel
theorem dX4_setPattern_64 : decode cX4_setPattern 64 = .ok (.getfield 60, 3) := by decide +kernel
theorem dX4_setPattern_67 : decode cX4_setPattern 67 = .ok (.istore 5, 2) := by decide +kernel
theorem dX4_setPattern_69 : decode cX4_setPattern 69 = .ok (.aload 4, 2) := by decide +kernel
theorem dX4_setPattern_71 : decode cX4_setPattern 71 = .ok (.iload_n 1, 1) := by decide +kernel
theorem dX4_setPattern_72 : decode cX4_setPattern 72 = .ok (.iload_n 2, 1) := by decide +kernel
theorem dX4_setPattern_73 : decode cX4_setPattern 73 = .ok (.iload_n 3, 1) := by decide +kernel
theorem dX4_setPattern_74 : decode cX4_setPattern 74 = .ok (.invokevirtual 65, 3) := by decide +kernel
theorem dX4_setPattern_77 : decode cX4_setPattern 77 = .ok (.iload 5, 2) := by decide +kernel
theorem dX4_setPattern_79 : decode cX4_setPattern 79 = .ok (.ireturn, 1) := by decide +kernel
theorem dX4_pass_0 : decode cX4_pass 0 = .ok (.aload_n 0, 1) := by decide +kernel
theorem dX4_pass_1 : decode cX4_pass 1 = .ok (.iload_n 1, 1) := by decide +kernel
theorem dX4_pass_2 : decode cX4_pass 2 = .ok (.iload_n 2, 1) := by decide +kernel
theorem dX4_pass_3 : decode cX4_pass 3 = .ok (.invokevirtual 69, 3) := by decide +kernel
theorem dX4_pass_6 : decode cX4_pass 6 = .ok (.aload_n 0, 1) := by decide +kernel
theorem dX4_pass_7 : decode cX4_pass 7 = .ok (.iload_n 3, 1) := by decide +kernel
theorem dX4_pass_8 : decode cX4_pass 8 = .ok (.invokevirtual 39, 3) := by decide +kernel
theorem dX4_pass_11 : decode cX4_pass 11 = .ok (.aload_n 0, 1) := by decide +kernel
theorem dX4_pass_12 : decode cX4_pass 12 = .ok (.getfield 10, 3) := by decide +kernel
theorem dX4_pass_15 : decode cX4_pass 15 = .ok (.getfield 50, 3) := by decide +kernel
theorem dX4_pass_18 : decode cX4_pass 18 = .ok (.iload_n 1, 1) := by decide +kernel
theorem dX4_pass_19 : decode cX4_pass 19 = .ok (.aaload, 1) := by decide +kernel
theorem dX4_pass_20 : decode cX4_pass 20 = .ok (.getfield 54, 3) := by decide +kernel
theorem dX4_pass_23 : decode cX4_pass 23 = .ok (.astore 4, 2) := by decide +kernel
theorem dX4_pass_25 : decode cX4_pass 25 = .ok (.aload 4, 2) := by decide +kernel
theorem dX4_pass_27 : decode cX4_pass 27 = .ok (.getfield 73, 3) := by decide +kernel
theorem dX4_pass_30 : decode cX4_pass 30 = .ok (.iload_n 2, 1) := by decide +kernel
theorem dX4_pass_31 : decode cX4_pass 31 = .ok (.iaload, 1) := by decide +kernel
theorem dX4_pass_32 : decode cX4_pass 32 = .ok (.istore 5, 2) := by decide +kernel
theorem dX4_pass_34 : decode cX4_pass 34 = .ok (.aload 4, 2) := by decide +kernel
theorem dX4_pass_36 : decode cX4_pass 36 = .ok (.getfield 73, 3) := by decide +kernel
theorem dX4_pass_39 : decode cX4_pass 39 = .ok (.iload_n 2, 1) := by decide +kernel
theorem dX4_pass_40 : decode cX4_pass 40 = .ok (.iload_n 3, 1) := by decide +kernel
theorem dX4_pass_41 : decode cX4_pass 41 = .ok (.iastore, 1) := by decide +kernel
theorem dX4_pass_42 : decode cX4_pass 42 = .ok (.iload 5, 2) := by decide +kernel
theorem dX4_pass_44 : decode cX4_pass 44 = .ok (.ireturn, 1) := by decide +kernel
theorem dX4_written_0 : decode cX4_written 0 = .ok (.aload_n 0, 1) := by decide +kernel
theorem dX4_written_1 : decode cX4_written 1 = .ok (.iload_n 1, 1) := by decide +kernel
theorem dX4_written_2 : decode cX4_written 2 = .ok (.iload_n 2, 1) := by decide +kernel
theorem dX4_written_3 : decode cX4_written 3 = .ok (.invokevirtual 69, 3) := by decide +kernel
theorem dX4_written_6 : decode cX4_written 6 = .ok (.iload_n 3, 1) := by decide +kernel
theorem dX4_written_7 : decode cX4_written 7 = .ok (.iconst 2, 1) := by decide +kernel
theorem dX4_written_8 : decode cX4_written 8 = .ok (.invokestatic 77, 3) := by decide +kernel
theorem dX4_written_11 : decode cX4_written 11 = .ok (.aload_n 0, 1) := by decide +kernel
theorem dX4_written_12 : decode cX4_written 12 = .ok (.getfield 10, 3) := by decide +kernel
theorem dX4_written_15 : decode cX4_written 15 = .ok (.getfield 50, 3) := by decide +kernel
theorem dX4_written_18 : decode cX4_written 18 = .ok (.iload_n 1, 1) := by decide +kernel
theorem dX4_written_19 : decode cX4_written 19 = .ok (.aaload, 1) := by decide +kernel
theorem dX4_written_20 : decode cX4_written 20 = .ok (.getfield 54, 3) := by decide +kernel
theorem dX4_written_23 : decode cX4_written 23 = .ok (.astore 4, 2) := by decide +kernel
theorem dX4_written_25 : decode cX4_written 25 = .ok (.iload_n 3, 1) := by decide +kernel
theorem dX4_written_26 : decode cX4_written 26 = .ok (.ifCond .ne 13, 3) := by decide +kernel
theorem dX4_written_29 : decode cX4_written 29 = .ok (.aload 4, 2) := by decide +kernel
theorem dX4_written_31 : decode cX4_written 31 = .ok (.getfield 80, 3) := by decide +kernel
theorem dX4_written_34 : decode cX4_written 34 = .ok (.iload_n 2, 1) := by decide +kernel
theorem dX4_written_35 : decode cX4_written 35 = .ok (.iaload, 1) := by decide +kernel
theorem dX4_written_36 : decode cX4_written 36 = .ok (.goto 10, 3) := by decide +kernel
theorem dX4_written_39 : decode cX4_written 39 = .ok (.aload 4, 2) := by decide +kernel
theorem dX4_written_41 : decode cX4_written 41 = .ok (.getfield 73, 3) := by decide +kernel
theorem dX4_written_44 : decode cX4_written 44 = .ok (.iload_n 2, 1) := by decide +kernel
theorem dX4_written_45 : decode cX4_written 45 = .ok (.iaload, 1) := by decide +kernel
theorem dX4_written_46 : decode cX4_written 46 = .ok (.ireturn, 1) := by decide +kernel
theorem dX4_make_0 : decode cX4_make 0 = .ok (.iload_n 1, 1) := by decide +kernel
theorem dX4_make_1 : decode cX4_make 1 = .ok (.ifCond .lt 8, 3) := by decide +kernel
theorem dX4_make_4 : decode cX4_make 4 = .ok (.iload_n 1, 1) := by decide +kernel
theorem dX4_make_5 : decode cX4_make 5 = .ok (.iconst 3, 1) := by decide +kernel
theorem dX4_make_6 : decode cX4_make 6 = .ok (.if_icmp .lt 13, 3) := by decide +kernel
theorem dX4_make_9 : decode cX4_make 9 = .ok (.new 19, 3) := by decide +kernel
theorem dX4_make_12 : decode cX4_make 12 = .ok (.dup, 1) := by decide +kernel
theorem dX4_make_13 : decode cX4_make 13 = .ok (.ldc 83, 2) := by decide +kernel
theorem dX4_make_15 : decode cX4_make 15 = .ok (.invokespecial 23, 3) := by decide +kernel
theorem dX4_make_18 : decode cX4_make 18 = .ok (.athrow, 1) := by decide +kernel
theorem dX4_make_19 : decode cX4_make 19 = .ok (.aload_n 0, 1) := by decide +kernel
theorem dX4_make_20 : decode cX4_make 20 = .ok (.getfield 10, 3) := by decide +kernel
theorem dX4_make_23 : decode cX4_make 23 = .ok (.getfield 85, 3) := by decide +kernel
theorem dX4_make_26 : decode cX4_make 26 = .ok (.bipush 12, 2) := by decide +kernel
theorem dX4_make_28 : decode cX4_make 28 = .ok (.if_icmp .lt 13, 3) := by decide +kernel
theorem dX4_make_31 : decode cX4_make 31 = .ok (.new 30, 3) := by decide +kernel
theorem dX4_make_34 : decode cX4_make 34 = .ok (.dup, 1) := by decide +kernel
theorem dX4_make_35 : decode cX4_make 35 = .ok (.ldc 88, 2) := by decide +kernel
theorem dX4_make_37 : decode cX4_make 37 = .ok (.invokespecial 34, 3) := by decide +kernel
theorem dX4_make_40 : decode cX4_make 40 = .ok (.athrow, 1) := by decide +kernel
theorem dX4_make_41 : decode cX4_make 41 = .ok (.aload_n 0, 1) := by decide +kernel
theorem dX4_make_42 : decode cX4_make 42 = .ok (.getfield 10, 3) := by decide +kernel
theorem dX4_make_45 : decode cX4_make 45 = .ok (.iload_n 1, 1) := by decide +kernel
theorem dX4_make_46 : decode cX4_make 46 = .ok (.invokevirtual 90, 3) := by decide +kernel
theorem dX4_make_49 : decode cX4_make 49 = .ok (.ireturn, 1) := by decide +kernel
theorem dX4_give_0 : decode cX4_give 0 = .ok (.aload_n 0, 1) := by decide +kernel
theorem dX4_give_1 : decode cX4_give 1 = .ok (.iload_n 1, 1) := by decide +kernel
theorem dX4_give_2 : decode cX4_give 2 = .ok (.invokevirtual 93, 3) := by decide +kernel
theorem dX4_give_5 : decode cX4_give 5 = .ok (.aload_n 0, 1) := by decide +kernel
theorem dX4_give_6 : decode cX4_give 6 = .ok (.iload_n 2, 1) := by decide +kernel
theorem dX4_give_7 : decode cX4_give 7 = .ok (.invokevirtual 39, 3) := by decide +kernel
theorem dX4_give_10 : decode cX4_give 10 = .ok (.iload_n 3, 1) := by decide +kernel
theorem dX4_give_11 : decode cX4_give 11 = .ok (.ifCond .lt 8, 3) := by decide +kernel
theorem dX4_give_14 : decode cX4_give 14 = .ok (.iload_n 3, 1) := by decide +kernel
theorem dX4_give_15 : decode cX4_give 15 = .ok (.iconst 2, 1) := by decide +kernel
theorem dX4_give_16 : decode cX4_give 16 = .ok (.if_icmp .lt 13, 3) := by decide +kernel
theorem dX4_give_19 : decode cX4_give 19 = .ok (.new 96, 3) := by decide +kernel
theorem dX4_give_22 : decode cX4_give 22 = .ok (.dup, 1) := by decide +kernel
theorem dX4_give_23 : decode cX4_give 23 = .ok (.ldc 98, 2) := by decide +kernel
theorem dX4_give_25 : decode cX4_give 25 = .ok (.invokespecial 100, 3) := by decide +kernel
theorem dX4_give_28 : decode cX4_give 28 = .ok (.athrow, 1) := by decide +kernel
theorem dX4_give_29 : decode cX4_give 29 = .ok (.aload_n 0, 1) := by decide +kernel
theorem dX4_give_30 : decode cX4_give 30 = .ok (.getfield 10, 3) := by decide +kernel
theorem dX4_give_33 : decode cX4_give 33 = .ok (.getfield 101, 3) := by decide +kernel
theorem dX4_give_36 : decode cX4_give 36 = .ok (.iload_n 1, 1) := by decide +kernel
theorem dX4_give_37 : decode cX4_give 37 = .ok (.aaload, 1) := by decide +kernel
theorem dX4_give_38 : decode cX4_give 38 = .ok (.getfield 105, 3) := by decide +kernel
theorem dX4_give_41 : decode cX4_give 41 = .ok (.ifCond .eq 13, 3) := by decide +kernel
theorem dX4_give_44 : decode cX4_give 44 = .ok (.new 30, 3) := by decide +kernel
theorem dX4_give_47 : decode cX4_give 47 = .ok (.dup, 1) := by decide +kernel
theorem dX4_give_48 : decode cX4_give 48 = .ok (.ldc 110, 2) := by decide +kernel
theorem dX4_give_50 : decode cX4_give 50 = .ok (.invokespecial 34, 3) := by decide +kernel
theorem dX4_give_53 : decode cX4_give 53 = .ok (.athrow, 1) := by decide +kernel
theorem dX4_give_54 : decode cX4_give 54 = .ok (.aload_n 0, 1) := by decide +kernel
theorem dX4_give_55 : decode cX4_give 55 = .ok (.getfield 10, 3) := by decide +kernel
theorem dX4_give_58 : decode cX4_give 58 = .ok (.getfield 50, 3) := by decide +kernel
theorem dX4_give_61 : decode cX4_give 61 = .ok (.iload_n 2, 1) := by decide +kernel
theorem dX4_give_62 : decode cX4_give 62 = .ok (.aaload, 1) := by decide +kernel
theorem dX4_give_63 : decode cX4_give 63 = .ok (.getfield 112, 3) := by decide +kernel
theorem dX4_give_66 : decode cX4_give 66 = .ok (.iload_n 3, 1) := by decide +kernel
theorem dX4_give_67 : decode cX4_give 67 = .ok (.iaload, 1) := by decide +kernel
theorem dX4_give_68 : decode cX4_give 68 = .ok (.iconst (-1), 1) := by decide +kernel
theorem dX4_give_69 : decode cX4_give 69 = .ok (.if_icmp .eq 13, 3) := by decide +kernel
theorem dX4_give_72 : decode cX4_give 72 = .ok (.new 30, 3) := by decide +kernel
theorem dX4_give_75 : decode cX4_give 75 = .ok (.dup, 1) := by decide +kernel
theorem dX4_give_76 : decode cX4_give 76 = .ok (.ldc 115, 2) := by decide +kernel
theorem dX4_give_78 : decode cX4_give 78 = .ok (.invokespecial 34, 3) := by decide +kernel
theorem dX4_give_81 : decode cX4_give 81 = .ok (.athrow, 1) := by decide +kernel
theorem dX4_give_82 : decode cX4_give 82 = .ok (.aload_n 0, 1) := by decide +kernel
theorem dX4_give_83 : decode cX4_give 83 = .ok (.getfield 10, 3) := by decide +kernel
theorem dX4_give_86 : decode cX4_give 86 = .ok (.iload_n 1, 1) := by decide +kernel
theorem dX4_give_87 : decode cX4_give 87 = .ok (.iload_n 2, 1) := by decide +kernel
theorem dX4_give_88 : decode cX4_give 88 = .ok (.iload_n 3, 1) := by decide +kernel
theorem dX4_give_89 : decode cX4_give 89 = .ok (.invokevirtual 117, 3) := by decide +kernel
theorem dX4_give_92 : decode cX4_give 92 = .ok (.aload_n 0, 1) := by decide +kernel
theorem dX4_give_93 : decode cX4_give 93 = .ok (.getfield 10, 3) := by decide +kernel
theorem dX4_give_96 : decode cX4_give 96 = .ok (.getfield 50, 3) := by decide +kernel
theorem dX4_give_99 : decode cX4_give 99 = .ok (.iload_n 2, 1) := by decide +kernel
theorem dX4_give_100 : decode cX4_give 100 = .ok (.aaload, 1) := by decide +kernel
theorem dX4_give_101 : decode cX4_give 101 = .ok (.invokevirtual 120, 3) := by decide +kernel
theorem dX4_give_104 : decode cX4_give 104 = .ok (.ireturn, 1) := by decide +kernel
theorem dX4_thing_0 : decode cX4_thing 0 = .ok (.aload_n 0, 1) := by decide +kernel
theorem dX4_thing_1 : decode cX4_thing 1 = .ok (.iload_n 1, 1) := by decide +kernel
theorem dX4_thing_2 : decode cX4_thing 2 = .ok (.invokevirtual 93, 3) := by decide +kernel
theorem dX4_thing_5 : decode cX4_thing 5 = .ok (.iload_n 2, 1) := by decide +kernel
theorem dX4_thing_6 : decode cX4_thing 6 = .ok (.bipush 7, 2) := by decide +kernel
theorem dX4_thing_8 : decode cX4_thing 8 = .ok (.invokestatic 77, 3) := by decide +kernel
theorem dX4_thing_11 : decode cX4_thing 11 = .ok (.aload_n 0, 1) := by decide +kernel
theorem dX4_thing_12 : decode cX4_thing 12 = .ok (.getfield 10, 3) := by decide +kernel
theorem dX4_thing_15 : decode cX4_thing 15 = .ok (.iload_n 1, 1) := by decide +kernel
theorem dX4_thing_16 : decode cX4_thing 16 = .ok (.iload_n 2, 1) := by decide +kernel
theorem dX4_thing_17 : decode cX4_thing 17 = .ok (.invokevirtual 124, 3) := by decide +kernel
theorem dX4_thing_20 : decode cX4_thing 20 = .ok (.ireturn, 1) := by decide +kernel
theorem dX4_juggler_0 : decode cX4_juggler 0 = .ok (.aload_n 0, 1) := by decide +kernel
theorem dX4_juggler_1 : decode cX4_juggler 1 = .ok (.iload_n 1, 1) := by decide +kernel
theorem dX4_juggler_2 : decode cX4_juggler 2 = .ok (.invokevirtual 39, 3) := by decide +kernel
theorem dX4_juggler_5 : decode cX4_juggler 5 = .ok (.iload_n 2, 1) := by decide +kernel
theorem dX4_juggler_6 : decode cX4_juggler 6 = .ok (.bipush 7, 2) := by decide +kernel
theorem dX4_juggler_8 : decode cX4_juggler 8 = .ok (.invokestatic 77, 3) := by decide +kernel
theorem dX4_juggler_11 : decode cX4_juggler 11 = .ok (.aload_n 0, 1) := by decide +kernel
theorem dX4_juggler_12 : decode cX4_juggler 12 = .ok (.getfield 10, 3) := by decide +kernel
theorem dX4_juggler_15 : decode cX4_juggler 15 = .ok (.iload_n 1, 1) := by decide +kernel
theorem dX4_juggler_16 : decode cX4_juggler 16 = .ok (.iload_n 2, 1) := by decide +kernel
theorem dX4_juggler_17 : decode cX4_juggler 17 = .ok (.invokevirtual 128, 3) := by decide +kernel
theorem dX4_juggler_20 : decode cX4_juggler 20 = .ok (.ireturn, 1) := by decide +kernel
theorem dX4_go_0 : decode cX4_go 0 = .ok (.iload_n 1, 1) := by decide +kernel
theorem dX4_go_1 : decode cX4_go 1 = .ok (.sipush 200, 3) := by decide +kernel
theorem dX4_go_4 : decode cX4_go 4 = .ok (.invokestatic 141, 3) := by decide +kernel
theorem dX4_go_7 : decode cX4_go 7 = .ok (.aload_n 0, 1) := by decide +kernel
theorem dX4_go_8 : decode cX4_go 8 = .ok (.getfield 10, 3) := by decide +kernel
theorem dX4_go_11 : decode cX4_go 11 = .ok (.iload_n 1, 1) := by decide +kernel
theorem dX4_go_12 : decode cX4_go 12 = .ok (.invokevirtual 144, 3) := by decide +kernel
theorem dX4_go_15 : decode cX4_go 15 = .ok (.ireturn, 1) := by decide +kernel
theorem dX4_count_0 : decode cX4_count 0 = .ok (.iload_n 1, 1) := by decide +kernel
theorem dX4_count_1 : decode cX4_count 1 = .ok (.bipush 9, 2) := by decide +kernel
theorem dX4_count_3 : decode cX4_count 3 = .ok (.invokestatic 77, 3) := by decide +kernel
theorem dX4_count_6 : decode cX4_count 6 = .ok (.aload_n 0, 1) := by decide +kernel
theorem dX4_count_7 : decode cX4_count 7 = .ok (.getfield 10, 3) := by decide +kernel
theorem dX4_count_10 : decode cX4_count 10 = .ok (.iload_n 1, 1) := by decide +kernel
theorem dX4_count_11 : decode cX4_count 11 = .ok (.invokevirtual 147, 3) := by decide +kernel
theorem dX4_count_14 : decode cX4_count 14 = .ok (.ireturn, 1) := by decide +kernel
theorem dX4_falls_0 : decode cX4_falls 0 = .ok (.aload_n 0, 1) := by decide +kernel
theorem dX4_falls_1 : decode cX4_falls 1 = .ok (.getfield 16, 3) := by decide +kernel
theorem dX4_falls_4 : decode cX4_falls 4 = .ok (.aload_n 0, 1) := by decide +kernel
theorem dX4_falls_5 : decode cX4_falls 5 = .ok (.getfield 10, 3) := by decide +kernel
theorem dX4_falls_8 : decode cX4_falls 8 = .ok (.invokevirtual 150, 3) := by decide +kernel
theorem dX4_falls_11 : decode cX4_falls 11 = .ok (.iconst 1, 1) := by decide +kernel
theorem dX4_falls_12 : decode cX4_falls 12 = .ok (.istore_n 1, 1) := by decide +kernel
theorem dX4_falls_13 : decode cX4_falls 13 = .ok (.iload_n 1, 1) := by decide +kernel
theorem dX4_falls_14 : decode cX4_falls 14 = .ok (.sipush 200, 3) := by decide +kernel
theorem dX4_falls_17 : decode cX4_falls 17 = .ok (.if_icmp .gt 21, 3) := by decide +kernel
theorem dX4_falls_20 : decode cX4_falls 20 = .ok (.aload_n 0, 1) := by decide +kernel
theorem dX4_falls_21 : decode cX4_falls 21 = .ok (.getfield 16, 3) := by decide +kernel
theorem dX4_falls_24 : decode cX4_falls 24 = .ok (.invokevirtual 154, 3) := by decide +kernel
theorem dX4_falls_27 : decode cX4_falls 27 = .ok (.ifCond .le 5, 3) := by decide +kernel
theorem dX4_falls_30 : decode cX4_falls 30 = .ok (.iload_n 1, 1) := by decide +kernel
theorem dX4_falls_31 : decode cX4_falls 31 = .ok (.ireturn, 1) := by decide +kernel
theorem dX4_falls_32 : decode cX4_falls 32 = .ok (.iinc 1 1, 3) := by decide +kernel
theorem dX4_falls_35 : decode cX4_falls 35 = .ok (.goto (-22), 3) := by decide +kernel
theorem dX4_falls_38 : decode cX4_falls 38 = .ok (.iconst (-1), 1) := by decide +kernel
theorem dX4_falls_39 : decode cX4_falls 39 = .ok (.ireturn, 1) := by decide +kernel
theorem dX4_foresee_0 : decode cX4_foresee 0 = .ok (.iload_n 1, 1) := by decide +kernel
theorem dX4_foresee_1 : decode cX4_foresee 1 = .ok (.sipush 200, 3) := by decide +kernel
theorem dX4_foresee_4 : decode cX4_foresee 4 = .ok (.invokestatic 141, 3) := by decide +kernel
theorem dX4_foresee_7 : decode cX4_foresee 7 = .ok (.iload_n 2, 1) := by decide +kernel
theorem dX4_foresee_8 : decode cX4_foresee 8 = .ok (.iconst 3, 1) := by decide +kernel
theorem dX4_foresee_9 : decode cX4_foresee 9 = .ok (.invokestatic 77, 3) := by decide +kernel
theorem dX4_foresee_12 : decode cX4_foresee 12 = .ok (.aload_n 0, 1) := by decide +kernel
theorem dX4_foresee_13 : decode cX4_foresee 13 = .ok (.getfield 16, 3) := by decide +kernel
theorem dX4_foresee_16 : decode cX4_foresee 16 = .ok (.aload_n 0, 1) := by decide +kernel
theorem dX4_foresee_17 : decode cX4_foresee 17 = .ok (.getfield 10, 3) := by decide +kernel
theorem dX4_foresee_20 : decode cX4_foresee 20 = .ok (.invokevirtual 150, 3) := by decide +kernel
theorem dX4_foresee_23 : decode cX4_foresee 23 = .ok (.aload_n 0, 1) := by decide +kernel
theorem dX4_foresee_24 : decode cX4_foresee 24 = .ok (.getfield 16, 3) := by decide +kernel
theorem dX4_foresee_27 : decode cX4_foresee 27 = .ok (.iload_n 1, 1) := by decide +kernel
theorem dX4_foresee_28 : decode cX4_foresee 28 = .ok (.invokevirtual 144, 3) := by decide +kernel
theorem dX4_foresee_31 : decode cX4_foresee 31 = .ok (.istore_n 3, 1) := by decide +kernel
theorem dX4_foresee_32 : decode cX4_foresee 32 = .ok (.iload_n 2, 1) := by decide +kernel
theorem dX4_foresee_33 : decode cX4_foresee 33 = .ok (.lookupswitch 38 #[(0, 27), (1, 36)], 27) := by decide +kernel
theorem dX4_foresee_60 : decode cX4_foresee 60 = .ok (.aload_n 0, 1) := by decide +kernel
theorem dX4_foresee_61 : decode cX4_foresee 61 = .ok (.getfield 16, 3) := by decide +kernel
theorem dX4_foresee_64 : decode cX4_foresee 64 = .ok (.iconst 2, 1) := by decide +kernel
theorem dX4_foresee_65 : decode cX4_foresee 65 = .ok (.invokevirtual 157, 3) := by decide +kernel
theorem dX4_foresee_68 : decode cX4_foresee 68 = .ok (.ireturn, 1) := by decide +kernel
theorem dX4_foresee_69 : decode cX4_foresee 69 = .ok (.iload_n 3, 1) := by decide +kernel
theorem dX4_foresee_70 : decode cX4_foresee 70 = .ok (.ireturn, 1) := by decide +kernel
theorem dX4_foresee_71 : decode cX4_foresee 71 = .ok (.aload_n 0, 1) := by decide +kernel
theorem dX4_foresee_72 : decode cX4_foresee 72 = .ok (.getfield 16, 3) := by decide +kernel
theorem dX4_foresee_75 : decode cX4_foresee 75 = .ok (.invokevirtual 160, 3) := by decide +kernel
theorem dX4_foresee_78 : decode cX4_foresee 78 = .ok (.ireturn, 1) := by decide +kernel
theorem dX4_advise_0 : decode cX4_advise 0 = .ok (.aload_n 0, 1) := by decide +kernel
theorem dX4_advise_1 : decode cX4_advise 1 = .ok (.iload_n 1, 1) := by decide +kernel
theorem dX4_advise_2 : decode cX4_advise 2 = .ok (.invokevirtual 39, 3) := by decide +kernel
theorem dX4_advise_5 : decode cX4_advise 5 = .ok (.iload_n 2, 1) := by decide +kernel
theorem dX4_advise_6 : decode cX4_advise 6 = .ok (.bipush 60, 2) := by decide +kernel
theorem dX4_advise_8 : decode cX4_advise 8 = .ok (.invokestatic 141, 3) := by decide +kernel
theorem dX4_advise_11 : decode cX4_advise 11 = .ok (.aload_n 0, 1) := by decide +kernel
theorem dX4_advise_12 : decode cX4_advise 12 = .ok (.getfield 16, 3) := by decide +kernel
theorem dX4_advise_15 : decode cX4_advise 15 = .ok (.aload_n 0, 1) := by decide +kernel
theorem dX4_advise_16 : decode cX4_advise 16 = .ok (.getfield 10, 3) := by decide +kernel
theorem dX4_advise_19 : decode cX4_advise 19 = .ok (.invokevirtual 150, 3) := by decide +kernel
theorem dX4_advise_22 : decode cX4_advise 22 = .ok (.aload_n 0, 1) := by decide +kernel
theorem dX4_advise_23 : decode cX4_advise 23 = .ok (.getfield 16, 3) := by decide +kernel
theorem dX4_advise_26 : decode cX4_advise 26 = .ok (.iload_n 2, 1) := by decide +kernel
theorem dX4_advise_27 : decode cX4_advise 27 = .ok (.invokevirtual 144, 3) := by decide +kernel
theorem dX4_advise_30 : decode cX4_advise 30 = .ok (.istore_n 3, 1) := by decide +kernel
theorem dX4_advise_31 : decode cX4_advise 31 = .ok (.iconst (-1), 1) := by decide +kernel
theorem dX4_advise_32 : decode cX4_advise 32 = .ok (.istore 4, 2) := by decide +kernel
theorem dX4_advise_34 : decode cX4_advise 34 = .ok (.aload_n 0, 1) := by decide +kernel
theorem dX4_advise_35 : decode cX4_advise 35 = .ok (.getfield 10, 3) := by decide +kernel
theorem dX4_advise_38 : decode cX4_advise 38 = .ok (.getfield 50, 3) := by decide +kernel
theorem dX4_advise_41 : decode cX4_advise 41 = .ok (.iload_n 1, 1) := by decide +kernel
theorem dX4_advise_42 : decode cX4_advise 42 = .ok (.aaload, 1) := by decide +kernel
theorem dX4_advise_43 : decode cX4_advise 43 = .ok (.getfield 54, 3) := by decide +kernel
theorem dX4_advise_46 : decode cX4_advise 46 = .ok (.getfield 60, 3) := by decide +kernel
theorem dX4_advise_49 : decode cX4_advise 49 = .ok (.istore 5, 2) := by decide +kernel
theorem dX4_advise_51 : decode cX4_advise 51 = .ok (.iconst 0, 1) := by decide +kernel
theorem dX4_advise_52 : decode cX4_advise 52 = .ok (.istore 6, 2) := by decide +kernel
theorem dX4_advise_54 : decode cX4_advise 54 = .ok (.iload 6, 2) := by decide +kernel
theorem dX4_advise_56 : decode cX4_advise 56 = .ok (.iload 5, 2) := by decide +kernel
theorem dX4_advise_58 : decode cX4_advise 58 = .ok (.if_icmp .ge 60, 3) := by decide +kernel
theorem dX4_advise_61 : decode cX4_advise 61 = .ok (.iconst 0, 1) := by decide +kernel
theorem dX4_advise_62 : decode cX4_advise 62 = .ok (.istore 7, 2) := by decide +kernel
theorem dX4_advise_64 : decode cX4_advise 64 = .ok (.iload 7, 2) := by decide +kernel
theorem dX4_advise_66 : decode cX4_advise 66 = .ok (.bipush 9, 2) := by decide +kernel
theorem dX4_advise_68 : decode cX4_advise 68 = .ok (.if_icmp .gt 44, 3) := by decide +kernel
theorem dX4_advise_71 : decode cX4_advise 71 = .ok (.iload_n 3, 1) := by decide +kernel
theorem dX4_advise_72 : decode cX4_advise 72 = .ok (.ifCond .le 40, 3) := by decide +kernel
theorem dX4_advise_75 : decode cX4_advise 75 = .ok (.aload_n 0, 1) := by decide +kernel
theorem dX4_advise_76 : decode cX4_advise 76 = .ok (.iload_n 1, 1) := by decide +kernel
theorem dX4_advise_77 : decode cX4_advise 77 = .ok (.iload 6, 2) := by decide +kernel
theorem dX4_advise_79 : decode cX4_advise 79 = .ok (.iload 7, 2) := by decide +kernel
theorem dX4_advise_81 : decode cX4_advise 81 = .ok (.iload_n 2, 1) := by decide +kernel
theorem dX4_advise_82 : decode cX4_advise 82 = .ok (.invokevirtual 163, 3) := by decide +kernel
theorem dX4_advise_85 : decode cX4_advise 85 = .ok (.istore 8, 2) := by decide +kernel
theorem dX4_advise_87 : decode cX4_advise 87 = .ok (.iload 8, 2) := by decide +kernel
theorem dX4_advise_89 : decode cX4_advise 89 = .ok (.iload_n 3, 1) := by decide +kernel
theorem dX4_advise_90 : decode cX4_advise 90 = .ok (.if_icmp .ge 16, 3) := by decide +kernel
theorem dX4_advise_93 : decode cX4_advise 93 = .ok (.iload 8, 2) := by decide +kernel
theorem dX4_advise_95 : decode cX4_advise 95 = .ok (.istore_n 3, 1) := by decide +kernel
theorem dX4_advise_96 : decode cX4_advise 96 = .ok (.bipush 10, 2) := by decide +kernel
theorem dX4_advise_98 : decode cX4_advise 98 = .ok (.iload 6, 2) := by decide +kernel
theorem dX4_advise_100 : decode cX4_advise 100 = .ok (.imul, 1) := by decide +kernel
theorem dX4_advise_101 : decode cX4_advise 101 = .ok (.iload 7, 2) := by decide +kernel
theorem dX4_advise_103 : decode cX4_advise 103 = .ok (.iadd, 1) := by decide +kernel
theorem dX4_advise_104 : decode cX4_advise 104 = .ok (.istore 4, 2) := by decide +kernel
theorem dX4_advise_106 : decode cX4_advise 106 = .ok (.iinc 7 1, 3) := by decide +kernel
theorem dX4_advise_109 : decode cX4_advise 109 = .ok (.goto (-45), 3) := by decide +kernel
theorem dX4_advise_112 : decode cX4_advise 112 = .ok (.iinc 6 1, 3) := by decide +kernel
theorem dX4_advise_115 : decode cX4_advise 115 = .ok (.goto (-61), 3) := by decide +kernel
theorem dX4_advise_118 : decode cX4_advise 118 = .ok (.iload 4, 2) := by decide +kernel
theorem dX4_advise_120 : decode cX4_advise 120 = .ok (.ireturn, 1) := by decide +kernel
theorem dX4_mean_0 : decode cX4_mean 0 = .ok (.aload_n 0, 1) := by decide +kernel
theorem dX4_mean_1 : decode cX4_mean 1 = .ok (.getfield 10, 3) := by decide +kernel
theorem dX4_mean_4 : decode cX4_mean 4 = .ok (.getfield 167, 3) := by decide +kernel
theorem dX4_mean_7 : decode cX4_mean 7 = .ok (.ifCond .ne 5, 3) := by decide +kernel
theorem dX4_mean_10 : decode cX4_mean 10 = .ok (.dconst 0, 1) := by decide +kernel
theorem dX4_mean_11 : decode cX4_mean 11 = .ok (.dreturn, 1) := by decide +kernel
theorem dX4_mean_12 : decode cX4_mean 12 = .ok (.aload_n 0, 1) := by decide +kernel
theorem dX4_mean_13 : decode cX4_mean 13 = .ok (.getfield 10, 3) := by decide +kernel
theorem dX4_mean_16 : decode cX4_mean 16 = .ok (.invokevirtual 170, 3) := by decide +kernel
theorem dX4_mean_19 : decode cX4_mean 19 = .ok (.i2d, 1) := by decide +kernel
theorem dX4_mean_20 : decode cX4_mean 20 = .ok (.aload_n 0, 1) := by decide +kernel
theorem dX4_mean_21 : decode cX4_mean 21 = .ok (.getfield 10, 3) := by decide +kernel
theorem dX4_mean_24 : decode cX4_mean 24 = .ok (.getfield 167, 3) := by decide +kernel
theorem dX4_mean_27 : decode cX4_mean 27 = .ok (.i2d, 1) := by decide +kernel
theorem dX4_mean_28 : decode cX4_mean 28 = .ok (.ddiv, 1) := by decide +kernel
theorem dX4_mean_29 : decode cX4_mean 29 = .ok (.dreturn, 1) := by decide +kernel
theorem dX4_digest_0 : decode cX4_digest 0 = .ok (.ldc2_w 173, 3) := by decide +kernel
theorem dX4_digest_3 : decode cX4_digest 3 = .ok (.lstore_n 1, 1) := by decide +kernel
theorem dX4_digest_4 : decode cX4_digest 4 = .ok (.iconst 0, 1) := by decide +kernel
theorem dX4_digest_5 : decode cX4_digest 5 = .ok (.istore_n 3, 1) := by decide +kernel
theorem dX4_digest_6 : decode cX4_digest 6 = .ok (.iload_n 3, 1) := by decide +kernel
theorem dX4_digest_7 : decode cX4_digest 7 = .ok (.bipush 9, 2) := by decide +kernel
theorem dX4_digest_9 : decode cX4_digest 9 = .ok (.if_icmp .ge 25, 3) := by decide +kernel
theorem dX4_digest_12 : decode cX4_digest 12 = .ok (.lload_n 1, 1) := by decide +kernel
theorem dX4_digest_13 : decode cX4_digest 13 = .ok (.ldc2_w 175, 3) := by decide +kernel
theorem dX4_digest_16 : decode cX4_digest 16 = .ok (.lmul, 1) := by decide +kernel
theorem dX4_digest_17 : decode cX4_digest 17 = .ok (.aload_n 0, 1) := by decide +kernel
theorem dX4_digest_18 : decode cX4_digest 18 = .ok (.getfield 10, 3) := by decide +kernel
theorem dX4_digest_21 : decode cX4_digest 21 = .ok (.iload_n 3, 1) := by decide +kernel
theorem dX4_digest_22 : decode cX4_digest 22 = .ok (.invokevirtual 147, 3) := by decide +kernel
theorem dX4_digest_25 : decode cX4_digest 25 = .ok (.i2l, 1) := by decide +kernel
theorem dX4_digest_26 : decode cX4_digest 26 = .ok (.ladd, 1) := by decide +kernel
theorem dX4_digest_27 : decode cX4_digest 27 = .ok (.lstore_n 1, 1) := by decide +kernel
theorem dX4_digest_28 : decode cX4_digest 28 = .ok (.iinc 3 1, 3) := by decide +kernel
theorem dX4_digest_31 : decode cX4_digest 31 = .ok (.goto (-25), 3) := by decide +kernel
theorem dX4_digest_34 : decode cX4_digest 34 = .ok (.iconst 0, 1) := by decide +kernel
theorem dX4_digest_35 : decode cX4_digest 35 = .ok (.istore_n 3, 1) := by decide +kernel
theorem dX4_digest_36 : decode cX4_digest 36 = .ok (.iload_n 3, 1) := by decide +kernel
theorem dX4_digest_37 : decode cX4_digest 37 = .ok (.aload_n 0, 1) := by decide +kernel
theorem dX4_digest_38 : decode cX4_digest 38 = .ok (.getfield 10, 3) := by decide +kernel
theorem dX4_digest_41 : decode cX4_digest 41 = .ok (.getfield 26, 3) := by decide +kernel
theorem dX4_digest_44 : decode cX4_digest 44 = .ok (.if_icmp .ge 60, 3) := by decide +kernel
theorem dX4_digest_47 : decode cX4_digest 47 = .ok (.iconst 0, 1) := by decide +kernel
theorem dX4_digest_48 : decode cX4_digest 48 = .ok (.istore 4, 2) := by decide +kernel
theorem dX4_digest_50 : decode cX4_digest 50 = .ok (.iload 4, 2) := by decide +kernel
theorem dX4_digest_52 : decode cX4_digest 52 = .ok (.bipush 7, 2) := by decide +kernel
theorem dX4_digest_54 : decode cX4_digest 54 = .ok (.if_icmp .ge 27, 3) := by decide +kernel
theorem dX4_digest_57 : decode cX4_digest 57 = .ok (.lload_n 1, 1) := by decide +kernel
theorem dX4_digest_58 : decode cX4_digest 58 = .ok (.ldc2_w 175, 3) := by decide +kernel
theorem dX4_digest_61 : decode cX4_digest 61 = .ok (.lmul, 1) := by decide +kernel
theorem dX4_digest_62 : decode cX4_digest 62 = .ok (.aload_n 0, 1) := by decide +kernel
theorem dX4_digest_63 : decode cX4_digest 63 = .ok (.getfield 10, 3) := by decide +kernel
theorem dX4_digest_66 : decode cX4_digest 66 = .ok (.iload_n 3, 1) := by decide +kernel
theorem dX4_digest_67 : decode cX4_digest 67 = .ok (.iload 4, 2) := by decide +kernel
theorem dX4_digest_69 : decode cX4_digest 69 = .ok (.invokevirtual 128, 3) := by decide +kernel
theorem dX4_digest_72 : decode cX4_digest 72 = .ok (.i2l, 1) := by decide +kernel
theorem dX4_digest_73 : decode cX4_digest 73 = .ok (.ladd, 1) := by decide +kernel
theorem dX4_digest_74 : decode cX4_digest 74 = .ok (.lstore_n 1, 1) := by decide +kernel
theorem dX4_digest_75 : decode cX4_digest 75 = .ok (.iinc 4 1, 3) := by decide +kernel
theorem dX4_digest_78 : decode cX4_digest 78 = .ok (.goto (-28), 3) := by decide +kernel
theorem dX4_digest_81 : decode cX4_digest 81 = .ok (.aload_n 0, 1) := by decide +kernel
theorem dX4_digest_82 : decode cX4_digest 82 = .ok (.getfield 10, 3) := by decide +kernel
theorem dX4_digest_85 : decode cX4_digest 85 = .ok (.getfield 50, 3) := by decide +kernel
theorem dX4_digest_88 : decode cX4_digest 88 = .ok (.iload_n 3, 1) := by decide +kernel
theorem dX4_digest_89 : decode cX4_digest 89 = .ok (.aaload, 1) := by decide +kernel
theorem dX4_digest_90 : decode cX4_digest 90 = .ok (.getfield 54, 3) := by decide +kernel
theorem dX4_digest_93 : decode cX4_digest 93 = .ok (.lload_n 1, 1) := by decide +kernel
theorem dX4_digest_94 : decode cX4_digest 94 = .ok (.invokevirtual 177, 3) := by decide +kernel
theorem dX4_digest_97 : decode cX4_digest 97 = .ok (.lstore_n 1, 1) := by decide +kernel
theorem dX4_digest_98 : decode cX4_digest 98 = .ok (.iinc 3 1, 3) := by decide +kernel
theorem dX4_digest_101 : decode cX4_digest 101 = .ok (.goto (-65), 3) := by decide +kernel
theorem dX4_digest_104 : decode cX4_digest 104 = .ok (.iconst 0, 1) := by decide +kernel
theorem dX4_digest_105 : decode cX4_digest 105 = .ok (.istore_n 3, 1) := by decide +kernel
theorem dX4_digest_106 : decode cX4_digest 106 = .ok (.iload_n 3, 1) := by decide +kernel
theorem dX4_digest_107 : decode cX4_digest 107 = .ok (.aload_n 0, 1) := by decide +kernel
theorem dX4_digest_108 : decode cX4_digest 108 = .ok (.getfield 10, 3) := by decide +kernel
theorem dX4_digest_111 : decode cX4_digest 111 = .ok (.getfield 85, 3) := by decide +kernel
theorem dX4_digest_114 : decode cX4_digest 114 = .ok (.if_icmp .ge 43, 3) := by decide +kernel
theorem dX4_digest_117 : decode cX4_digest 117 = .ok (.iconst 0, 1) := by decide +kernel
theorem dX4_digest_118 : decode cX4_digest 118 = .ok (.istore 4, 2) := by decide +kernel
theorem dX4_digest_120 : decode cX4_digest 120 = .ok (.iload 4, 2) := by decide +kernel
theorem dX4_digest_122 : decode cX4_digest 122 = .ok (.bipush 7, 2) := by decide +kernel
theorem dX4_digest_124 : decode cX4_digest 124 = .ok (.if_icmp .ge 27, 3) := by decide +kernel
theorem dX4_digest_127 : decode cX4_digest 127 = .ok (.lload_n 1, 1) := by decide +kernel
theorem dX4_digest_128 : decode cX4_digest 128 = .ok (.ldc2_w 175, 3) := by decide +kernel
theorem dX4_digest_131 : decode cX4_digest 131 = .ok (.lmul, 1) := by decide +kernel
theorem dX4_digest_132 : decode cX4_digest 132 = .ok (.aload_n 0, 1) := by decide +kernel
theorem dX4_digest_133 : decode cX4_digest 133 = .ok (.getfield 10, 3) := by decide +kernel
theorem dX4_digest_136 : decode cX4_digest 136 = .ok (.iload_n 3, 1) := by decide +kernel
theorem dX4_digest_137 : decode cX4_digest 137 = .ok (.iload 4, 2) := by decide +kernel
theorem dX4_digest_139 : decode cX4_digest 139 = .ok (.invokevirtual 124, 3) := by decide +kernel
theorem dX4_digest_142 : decode cX4_digest 142 = .ok (.i2l, 1) := by decide +kernel
theorem dX4_digest_143 : decode cX4_digest 143 = .ok (.ladd, 1) := by decide +kernel
theorem dX4_digest_144 : decode cX4_digest 144 = .ok (.lstore_n 1, 1) := by decide +kernel
theorem dX4_digest_145 : decode cX4_digest 145 = .ok (.iinc 4 1, 3) := by decide +kernel
theorem dX4_digest_148 : decode cX4_digest 148 = .ok (.goto (-28), 3) := by decide +kernel
theorem dX4_digest_151 : decode cX4_digest 151 = .ok (.iinc 3 1, 3) := by decide +kernel
theorem dX4_digest_154 : decode cX4_digest 154 = .ok (.goto (-48), 3) := by decide +kernel
theorem dX4_digest_157 : decode cX4_digest 157 = .ok (.lload_n 1, 1) := by decide +kernel
theorem dX4_digest_158 : decode cX4_digest 158 = .ok (.lreturn, 1) := by decide +kernel
theorem dX4_fallenWith_0 : decode cX4_fallenWith 0 = .ok (.aload_n 0, 1) := by decide +kernel
theorem dX4_fallenWith_1 : decode cX4_fallenWith 1 = .ok (.getfield 16, 3) := by decide +kernel
theorem dX4_fallenWith_4 : decode cX4_fallenWith 4 = .ok (.aload_n 0, 1) := by decide +kernel
theorem dX4_fallenWith_5 : decode cX4_fallenWith 5 = .ok (.getfield 10, 3) := by decide +kernel
theorem dX4_fallenWith_8 : decode cX4_fallenWith 8 = .ok (.invokevirtual 150, 3) := by decide +kernel
theorem dX4_fallenWith_11 : decode cX4_fallenWith 11 = .ok (.aload_n 0, 1) := by decide +kernel
theorem dX4_fallenWith_12 : decode cX4_fallenWith 12 = .ok (.getfield 16, 3) := by decide +kernel
theorem dX4_fallenWith_15 : decode cX4_fallenWith 15 = .ok (.getfield 50, 3) := by decide +kernel
theorem dX4_fallenWith_18 : decode cX4_fallenWith 18 = .ok (.iload_n 1, 1) := by decide +kernel
theorem dX4_fallenWith_19 : decode cX4_fallenWith 19 = .ok (.aaload, 1) := by decide +kernel
theorem dX4_fallenWith_20 : decode cX4_fallenWith 20 = .ok (.getfield 54, 3) := by decide +kernel
theorem dX4_fallenWith_23 : decode cX4_fallenWith 23 = .ok (.getfield 80, 3) := by decide +kernel
theorem dX4_fallenWith_26 : decode cX4_fallenWith 26 = .ok (.iload_n 2, 1) := by decide +kernel
theorem dX4_fallenWith_27 : decode cX4_fallenWith 27 = .ok (.iload_n 3, 1) := by decide +kernel
theorem dX4_fallenWith_28 : decode cX4_fallenWith 28 = .ok (.iastore, 1) := by decide +kernel
theorem dX4_fallenWith_29 : decode cX4_fallenWith 29 = .ok (.aload_n 0, 1) := by decide +kernel
theorem dX4_fallenWith_30 : decode cX4_fallenWith 30 = .ok (.getfield 16, 3) := by decide +kernel
theorem dX4_fallenWith_33 : decode cX4_fallenWith 33 = .ok (.iload 4, 2) := by decide +kernel
theorem dX4_fallenWith_35 : decode cX4_fallenWith 35 = .ok (.invokevirtual 144, 3) := by decide +kernel
theorem dX4_fallenWith_38 : decode cX4_fallenWith 38 = .ok (.ireturn, 1) := by decide +kernel
theorem dX4_testJuggler_0 : decode cX4_testJuggler 0 = .ok (.aload_n 0, 1) := by decide +kernel
theorem dX4_testJuggler_1 : decode cX4_testJuggler 1 = .ok (.getfield 10, 3) := by decide +kernel
theorem dX4_testJuggler_4 : decode cX4_testJuggler 4 = .ok (.iload_n 1, 1) := by decide +kernel
theorem dX4_testJuggler_5 : decode cX4_testJuggler 5 = .ok (.invokevirtual 181, 3) := by decide +kernel
theorem dX4_testJuggler_8 : decode cX4_testJuggler 8 = .ok (.ifCond .ne 13, 3) := by decide +kernel
theorem dX4_testJuggler_11 : decode cX4_testJuggler 11 = .ok (.new 96, 3) := by decide +kernel
theorem dX4_testJuggler_14 : decode cX4_testJuggler 14 = .ok (.dup, 1) := by decide +kernel
theorem dX4_testJuggler_15 : decode cX4_testJuggler 15 = .ok (.ldc 185, 2) := by decide +kernel
theorem dX4_testJuggler_17 : decode cX4_testJuggler 17 = .ok (.invokespecial 100, 3) := by decide +kernel
theorem dX4_testJuggler_20 : decode cX4_testJuggler 20 = .ok (.athrow, 1) := by decide +kernel
theorem dX4_testJuggler_21 : decode cX4_testJuggler 21 = .ok (.return_, 1) := by decide +kernel
theorem dX4_testPlace_0 : decode cX4_testPlace 0 = .ok (.aload_n 0, 1) := by decide +kernel
theorem dX4_testPlace_1 : decode cX4_testPlace 1 = .ok (.iload_n 1, 1) := by decide +kernel
theorem dX4_testPlace_2 : decode cX4_testPlace 2 = .ok (.invokevirtual 39, 3) := by decide +kernel
theorem dX4_testPlace_5 : decode cX4_testPlace 5 = .ok (.iload_n 2, 1) := by decide +kernel
theorem dX4_testPlace_6 : decode cX4_testPlace 6 = .ok (.ifCond .lt 22, 3) := by decide +kernel
theorem dX4_testPlace_9 : decode cX4_testPlace 9 = .ok (.iload_n 2, 1) := by decide +kernel
theorem dX4_testPlace_10 : decode cX4_testPlace 10 = .ok (.aload_n 0, 1) := by decide +kernel
theorem dX4_testPlace_11 : decode cX4_testPlace 11 = .ok (.getfield 10, 3) := by decide +kernel
theorem dX4_testPlace_14 : decode cX4_testPlace 14 = .ok (.getfield 50, 3) := by decide +kernel
theorem dX4_testPlace_17 : decode cX4_testPlace 17 = .ok (.iload_n 1, 1) := by decide +kernel
theorem dX4_testPlace_18 : decode cX4_testPlace 18 = .ok (.aaload, 1) := by decide +kernel
theorem dX4_testPlace_19 : decode cX4_testPlace 19 = .ok (.getfield 54, 3) := by decide +kernel
theorem dX4_testPlace_22 : decode cX4_testPlace 22 = .ok (.getfield 60, 3) := by decide +kernel
theorem dX4_testPlace_25 : decode cX4_testPlace 25 = .ok (.if_icmp .lt 13, 3) := by decide +kernel
theorem dX4_testPlace_28 : decode cX4_testPlace 28 = .ok (.new 96, 3) := by decide +kernel
theorem dX4_testPlace_31 : decode cX4_testPlace 31 = .ok (.dup, 1) := by decide +kernel
theorem dX4_testPlace_32 : decode cX4_testPlace 32 = .ok (.ldc 187, 2) := by decide +kernel
theorem dX4_testPlace_34 : decode cX4_testPlace 34 = .ok (.invokespecial 100, 3) := by decide +kernel
theorem dX4_testPlace_37 : decode cX4_testPlace 37 = .ok (.athrow, 1) := by decide +kernel
theorem dX4_testPlace_38 : decode cX4_testPlace 38 = .ok (.return_, 1) := by decide +kernel
theorem dX4_testThing_0 : decode cX4_testThing 0 = .ok (.aload_n 0, 1) := by decide +kernel
theorem dX4_testThing_1 : decode cX4_testThing 1 = .ok (.getfield 10, 3) := by decide +kernel
theorem dX4_testThing_4 : decode cX4_testThing 4 = .ok (.iload_n 1, 1) := by decide +kernel
theorem dX4_testThing_5 : decode cX4_testThing 5 = .ok (.invokevirtual 189, 3) := by decide +kernel
theorem dX4_testThing_8 : decode cX4_testThing 8 = .ok (.ifCond .ne 13, 3) := by decide +kernel
theorem dX4_testThing_11 : decode cX4_testThing 11 = .ok (.new 96, 3) := by decide +kernel
theorem dX4_testThing_14 : decode cX4_testThing 14 = .ok (.dup, 1) := by decide +kernel
theorem dX4_testThing_15 : decode cX4_testThing 15 = .ok (.ldc 192, 2) := by decide +kernel
theorem dX4_testThing_17 : decode cX4_testThing 17 = .ok (.invokespecial 100, 3) := by decide +kernel
theorem dX4_testThing_20 : decode cX4_testThing 20 = .ok (.athrow, 1) := by decide +kernel
theorem dX4_testThing_21 : decode cX4_testThing 21 = .ok (.return_, 1) := by decide +kernel
theorem dX4_testWhat_0 : decode cX4_testWhat 0 = .ok (.iload_n 0, 1) := by decide +kernel
theorem dX4_testWhat_1 : decode cX4_testWhat 1 = .ok (.ifCond .lt 8, 3) := by decide +kernel
theorem dX4_testWhat_4 : decode cX4_testWhat 4 = .ok (.iload_n 0, 1) := by decide +kernel
theorem dX4_testWhat_5 : decode cX4_testWhat 5 = .ok (.iload_n 1, 1) := by decide +kernel
theorem dX4_testWhat_6 : decode cX4_testWhat 6 = .ok (.if_icmp .lt 13, 3) := by decide +kernel
theorem dX4_testWhat_9 : decode cX4_testWhat 9 = .ok (.new 96, 3) := by decide +kernel
theorem dX4_testWhat_12 : decode cX4_testWhat 12 = .ok (.dup, 1) := by decide +kernel
theorem dX4_testWhat_13 : decode cX4_testWhat 13 = .ok (.ldc 194, 2) := by decide +kernel
theorem dX4_testWhat_15 : decode cX4_testWhat 15 = .ok (.invokespecial 100, 3) := by decide +kernel
theorem dX4_testWhat_18 : decode cX4_testWhat 18 = .ok (.athrow, 1) := by decide +kernel
theorem dX4_testWhat_19 : decode cX4_testWhat 19 = .ok (.return_, 1) := by decide +kernel
theorem dX4_testBeats_0 : decode cX4_testBeats 0 = .ok (.iload_n 0, 1) := by decide +kernel
theorem dX4_testBeats_1 : decode cX4_testBeats 1 = .ok (.iconst 1, 1) := by decide +kernel
theorem dX4_testBeats_2 : decode cX4_testBeats 2 = .ok (.if_icmp .lt 8, 3) := by decide +kernel
theorem dX4_testBeats_5 : decode cX4_testBeats 5 = .ok (.iload_n 0, 1) := by decide +kernel
theorem dX4_testBeats_6 : decode cX4_testBeats 6 = .ok (.iload_n 1, 1) := by decide +kernel
theorem dX4_testBeats_7 : decode cX4_testBeats 7 = .ok (.if_icmp .le 13, 3) := by decide +kernel
theorem dX4_testBeats_10 : decode cX4_testBeats 10 = .ok (.new 19, 3) := by decide +kernel
theorem dX4_testBeats_13 : decode cX4_testBeats 13 = .ok (.dup, 1) := by decide +kernel
theorem dX4_testBeats_14 : decode cX4_testBeats 14 = .ok (.ldc 196, 2) := by decide +kernel
theorem dX4_testBeats_16 : decode cX4_testBeats 16 = .ok (.invokespecial 23, 3) := by decide +kernel
theorem dX4_testBeats_19 : decode cX4_testBeats 19 = .ok (.athrow, 1) := by decide +kernel
theorem dX4_testBeats_20 : decode cX4_testBeats 20 = .ok (.return_, 1) := by decide +kernel
theorem dX4_powerOfTen_0 : decode cX4_powerOfTen 0 = .ok (.iconst 1, 1) := by decide +kernel
theorem dX4_powerOfTen_1 : decode cX4_powerOfTen 1 = .ok (.istore_n 1, 1) := by decide +kernel
theorem dX4_powerOfTen_2 : decode cX4_powerOfTen 2 = .ok (.iconst 0, 1) := by decide +kernel
theorem dX4_powerOfTen_3 : decode cX4_powerOfTen 3 = .ok (.istore_n 2, 1) := by decide +kernel
theorem dX4_powerOfTen_4 : decode cX4_powerOfTen 4 = .ok (.iload_n 2, 1) := by decide +kernel
theorem dX4_powerOfTen_5 : decode cX4_powerOfTen 5 = .ok (.iload_n 0, 1) := by decide +kernel
theorem dX4_powerOfTen_6 : decode cX4_powerOfTen 6 = .ok (.if_icmp .ge 14, 3) := by decide +kernel
theorem dX4_powerOfTen_9 : decode cX4_powerOfTen 9 = .ok (.iload_n 1, 1) := by decide +kernel
theorem dX4_powerOfTen_10 : decode cX4_powerOfTen 10 = .ok (.bipush 10, 2) := by decide +kernel
theorem dX4_powerOfTen_12 : decode cX4_powerOfTen 12 = .ok (.imul, 1) := by decide +kernel
theorem dX4_powerOfTen_13 : decode cX4_powerOfTen 13 = .ok (.istore_n 1, 1) := by decide +kernel
theorem dX4_powerOfTen_14 : decode cX4_powerOfTen 14 = .ok (.iinc 2 1, 3) := by decide +kernel
theorem dX4_powerOfTen_17 : decode cX4_powerOfTen 17 = .ok (.goto (-13), 3) := by decide +kernel
theorem dX4_powerOfTen_20 : decode cX4_powerOfTen 20 = .ok (.iload_n 1, 1) := by decide +kernel
theorem dX4_powerOfTen_21 : decode cX4_powerOfTen 21 = .ok (.ireturn, 1) := by decide +kernel
end
section
theorem dL_below_0 : decode cL_below 0 = .ok (.iload_n 0, 1) := by decide +kernel
theorem dL_below_1 : decode cL_below 1 = .ok (.ldc 7, 2) := by decide +kernel
theorem dL_below_3 : decode cL_below 3 = .ok (.iand, 1) := by decide +kernel
theorem dL_below_4 : decode cL_below 4 = .ok (.iload_n 1, 1) := by decide +kernel
theorem dL_below_5 : decode cL_below 5 = .ok (.irem, 1) := by decide +kernel
theorem dL_below_6 : decode cL_below 6 = .ok (.ireturn, 1) := by decide +kernel
theorem dL_cell_0 : decode cL_cell 0 = .ok (.iload_n 1, 1) := by decide +kernel
theorem dL_cell_1 : decode cL_cell 1 = .ok (.aload_n 0, 1) := by decide +kernel
theorem dL_cell_2 : decode cL_cell 2 = .ok (.arraylength, 1) := by decide +kernel
theorem dL_cell_3 : decode cL_cell 3 = .ok (.if_icmp .ge 9, 3) := by decide +kernel
theorem dL_cell_6 : decode cL_cell 6 = .ok (.aload_n 0, 1) := by decide +kernel
theorem dL_cell_7 : decode cL_cell 7 = .ok (.iload_n 1, 1) := by decide +kernel
theorem dL_cell_8 : decode cL_cell 8 = .ok (.iaload, 1) := by decide +kernel
theorem dL_cell_9 : decode cL_cell 9 = .ok (.goto 9, 3) := by decide +kernel
theorem dL_cell_12 : decode cL_cell 12 = .ok (.ldc 8, 2) := by decide +kernel
theorem dL_cell_14 : decode cL_cell 14 = .ok (.iload_n 1, 1) := by decide +kernel
theorem dL_cell_15 : decode cL_cell 15 = .ok (.iconst 3, 1) := by decide +kernel
theorem dL_cell_16 : decode cL_cell 16 = .ok (.iadd, 1) := by decide +kernel
theorem dL_cell_17 : decode cL_cell 17 = .ok (.imul, 1) := by decide +kernel
theorem dL_cell_18 : decode cL_cell 18 = .ok (.ireturn, 1) := by decide +kernel
theorem dL_heights_0 : decode cL_heights 0 = .ok (.iconst 0, 1) := by decide +kernel
theorem dL_heights_1 : decode cL_heights 1 = .ok (.istore_n 2, 1) := by decide +kernel
theorem dL_heights_2 : decode cL_heights 2 = .ok (.iconst 0, 1) := by decide +kernel
theorem dL_heights_3 : decode cL_heights 3 = .ok (.istore_n 3, 1) := by decide +kernel
theorem dL_heights_4 : decode cL_heights 4 = .ok (.iload_n 3, 1) := by decide +kernel
theorem dL_heights_5 : decode cL_heights 5 = .ok (.iload_n 1, 1) := by decide +kernel
theorem dL_heights_6 : decode cL_heights 6 = .ok (.if_icmp .ge 50, 3) := by decide +kernel
theorem dL_heights_9 : decode cL_heights 9 = .ok (.bipush 10, 2) := by decide +kernel
theorem dL_heights_11 : decode cL_heights 11 = .ok (.iload_n 2, 1) := by decide +kernel
theorem dL_heights_12 : decode cL_heights 12 = .ok (.imul, 1) := by decide +kernel
theorem dL_heights_13 : decode cL_heights 13 = .ok (.iload_n 0, 1) := by decide +kernel
theorem dL_heights_14 : decode cL_heights 14 = .ok (.bipush 11, 2) := by decide +kernel
theorem dL_heights_16 : decode cL_heights 16 = .ok (.ishr, 1) := by decide +kernel
theorem dL_heights_17 : decode cL_heights 17 = .ok (.iconst 3, 1) := by decide +kernel
theorem dL_heights_18 : decode cL_heights 18 = .ok (.invokestatic 9, 3) := by decide +kernel
theorem dL_heights_21 : decode cL_heights 21 = .ok (.ifCond .ne 16, 3) := by decide +kernel
theorem dL_heights_24 : decode cL_heights 24 = .ok (.iload_n 0, 1) := by decide +kernel
theorem dL_heights_25 : decode cL_heights 25 = .ok (.iconst 2, 1) := by decide +kernel
theorem dL_heights_26 : decode cL_heights 26 = .ok (.iload_n 3, 1) := by decide +kernel
theorem dL_heights_27 : decode cL_heights 27 = .ok (.imul, 1) := by decide +kernel
theorem dL_heights_28 : decode cL_heights 28 = .ok (.ishr, 1) := by decide +kernel
theorem dL_heights_29 : decode cL_heights 29 = .ok (.bipush 10, 2) := by decide +kernel
theorem dL_heights_31 : decode cL_heights 31 = .ok (.invokestatic 9, 3) := by decide +kernel
theorem dL_heights_34 : decode cL_heights 34 = .ok (.goto 14, 3) := by decide +kernel
theorem dL_heights_37 : decode cL_heights 37 = .ok (.iconst 1, 1) := by decide +kernel
theorem dL_heights_38 : decode cL_heights 38 = .ok (.iload_n 0, 1) := by decide +kernel
theorem dL_heights_39 : decode cL_heights 39 = .ok (.iconst 2, 1) := by decide +kernel
theorem dL_heights_40 : decode cL_heights 40 = .ok (.iload_n 3, 1) := by decide +kernel
theorem dL_heights_41 : decode cL_heights 41 = .ok (.imul, 1) := by decide +kernel
theorem dL_heights_42 : decode cL_heights 42 = .ok (.ishr, 1) := by decide +kernel
theorem dL_heights_43 : decode cL_heights 43 = .ok (.iconst 5, 1) := by decide +kernel
theorem dL_heights_44 : decode cL_heights 44 = .ok (.invokestatic 9, 3) := by decide +kernel
theorem dL_heights_47 : decode cL_heights 47 = .ok (.iadd, 1) := by decide +kernel
theorem dL_heights_48 : decode cL_heights 48 = .ok (.iadd, 1) := by decide +kernel
theorem dL_heights_49 : decode cL_heights 49 = .ok (.istore_n 2, 1) := by decide +kernel
theorem dL_heights_50 : decode cL_heights 50 = .ok (.iinc 3 1, 3) := by decide +kernel
theorem dL_heights_53 : decode cL_heights 53 = .ok (.goto (-49), 3) := by decide +kernel
theorem dL_heights_56 : decode cL_heights 56 = .ok (.iload_n 2, 1) := by decide +kernel
theorem dL_heights_57 : decode cL_heights 57 = .ok (.ireturn, 1) := by decide +kernel
theorem dL_ring_0 : decode cL_ring 0 = .ok (.new 15, 3) := by decide +kernel
theorem dL_ring_3 : decode cL_ring 3 = .ok (.dup, 1) := by decide +kernel
theorem dL_ring_4 : decode cL_ring 4 = .ok (.invokespecial 17, 3) := by decide +kernel
theorem dL_ring_7 : decode cL_ring 7 = .ok (.astore_n 1, 1) := by decide +kernel
theorem dL_ring_8 : decode cL_ring 8 = .ok (.iconst 1, 1) := by decide +kernel
theorem dL_ring_9 : decode cL_ring 9 = .ok (.aload_n 0, 1) := by decide +kernel
theorem dL_ring_10 : decode cL_ring 10 = .ok (.iconst 0, 1) := by decide +kernel
theorem dL_ring_11 : decode cL_ring 11 = .ok (.invokestatic 18, 3) := by decide +kernel
theorem dL_ring_14 : decode cL_ring 14 = .ok (.iconst 4, 1) := by decide +kernel
theorem dL_ring_15 : decode cL_ring 15 = .ok (.invokestatic 9, 3) := by decide +kernel
theorem dL_ring_18 : decode cL_ring 18 = .ok (.iadd, 1) := by decide +kernel
theorem dL_ring_19 : decode cL_ring 19 = .ok (.istore_n 2, 1) := by decide +kernel
theorem dL_ring_20 : decode cL_ring 20 = .ok (.iconst 0, 1) := by decide +kernel
theorem dL_ring_21 : decode cL_ring 21 = .ok (.istore_n 3, 1) := by decide +kernel
theorem dL_ring_22 : decode cL_ring 22 = .ok (.iload_n 3, 1) := by decide +kernel
theorem dL_ring_23 : decode cL_ring 23 = .ok (.iload_n 2, 1) := by decide +kernel
theorem dL_ring_24 : decode cL_ring 24 = .ok (.if_icmp .ge 30, 3) := by decide +kernel
theorem dL_ring_27 : decode cL_ring 27 = .ok (.aload_n 1, 1) := by decide +kernel
theorem dL_ring_28 : decode cL_ring 28 = .ok (.iconst 1, 1) := by decide +kernel
theorem dL_ring_29 : decode cL_ring 29 = .ok (.aload_n 0, 1) := by decide +kernel
theorem dL_ring_30 : decode cL_ring 30 = .ok (.iconst 1, 1) := by decide +kernel
theorem dL_ring_31 : decode cL_ring 31 = .ok (.invokestatic 18, 3) := by decide +kernel
theorem dL_ring_34 : decode cL_ring 34 = .ok (.iconst 3, 1) := by decide +kernel
theorem dL_ring_35 : decode cL_ring 35 = .ok (.iload_n 3, 1) := by decide +kernel
theorem dL_ring_36 : decode cL_ring 36 = .ok (.imul, 1) := by decide +kernel
theorem dL_ring_37 : decode cL_ring 37 = .ok (.ishr, 1) := by decide +kernel
theorem dL_ring_38 : decode cL_ring 38 = .ok (.bipush 9, 2) := by decide +kernel
theorem dL_ring_40 : decode cL_ring 40 = .ok (.invokestatic 9, 3) := by decide +kernel
theorem dL_ring_43 : decode cL_ring 43 = .ok (.iadd, 1) := by decide +kernel
theorem dL_ring_44 : decode cL_ring 44 = .ok (.invokevirtual 22, 3) := by decide +kernel
theorem dL_ring_47 : decode cL_ring 47 = .ok (.pop, 1) := by decide +kernel
theorem dL_ring_48 : decode cL_ring 48 = .ok (.iinc 3 1, 3) := by decide +kernel
theorem dL_ring_51 : decode cL_ring 51 = .ok (.goto (-29), 3) := by decide +kernel
theorem dL_ring_54 : decode cL_ring 54 = .ok (.iconst 0, 1) := by decide +kernel
theorem dL_ring_55 : decode cL_ring 55 = .ok (.istore_n 3, 1) := by decide +kernel
theorem dL_ring_56 : decode cL_ring 56 = .ok (.iload_n 3, 1) := by decide +kernel
theorem dL_ring_57 : decode cL_ring 57 = .ok (.iload_n 2, 1) := by decide +kernel
theorem dL_ring_58 : decode cL_ring 58 = .ok (.if_icmp .ge 96, 3) := by decide +kernel
theorem dL_ring_61 : decode cL_ring 61 = .ok (.aload_n 0, 1) := by decide +kernel
theorem dL_ring_62 : decode cL_ring 62 = .ok (.iconst 2, 1) := by decide +kernel
theorem dL_ring_63 : decode cL_ring 63 = .ok (.iload_n 3, 1) := by decide +kernel
theorem dL_ring_64 : decode cL_ring 64 = .ok (.iadd, 1) := by decide +kernel
theorem dL_ring_65 : decode cL_ring 65 = .ok (.invokestatic 18, 3) := by decide +kernel
theorem dL_ring_68 : decode cL_ring 68 = .ok (.istore 4, 2) := by decide +kernel
theorem dL_ring_70 : decode cL_ring 70 = .ok (.iconst 1, 1) := by decide +kernel
theorem dL_ring_71 : decode cL_ring 71 = .ok (.iload 4, 2) := by decide +kernel
theorem dL_ring_73 : decode cL_ring 73 = .ok (.bipush 8, 2) := by decide +kernel
theorem dL_ring_75 : decode cL_ring 75 = .ok (.invokestatic 9, 3) := by decide +kernel
theorem dL_ring_78 : decode cL_ring 78 = .ok (.iadd, 1) := by decide +kernel
theorem dL_ring_79 : decode cL_ring 79 = .ok (.istore 5, 2) := by decide +kernel
theorem dL_ring_81 : decode cL_ring 81 = .ok (.aload_n 1, 1) := by decide +kernel
theorem dL_ring_82 : decode cL_ring 82 = .ok (.iload_n 3, 1) := by decide +kernel
theorem dL_ring_83 : decode cL_ring 83 = .ok (.iload 5, 2) := by decide +kernel
theorem dL_ring_85 : decode cL_ring 85 = .ok (.iload 4, 2) := by decide +kernel
theorem dL_ring_87 : decode cL_ring 87 = .ok (.iconst 3, 1) := by decide +kernel
theorem dL_ring_88 : decode cL_ring 88 = .ok (.ishr, 1) := by decide +kernel
theorem dL_ring_89 : decode cL_ring 89 = .ok (.iload 5, 2) := by decide +kernel
theorem dL_ring_91 : decode cL_ring 91 = .ok (.invokestatic 26, 3) := by decide +kernel
theorem dL_ring_94 : decode cL_ring 94 = .ok (.invokevirtual 29, 3) := by decide +kernel
theorem dL_ring_97 : decode cL_ring 97 = .ok (.pop, 1) := by decide +kernel
theorem dL_ring_98 : decode cL_ring 98 = .ok (.iconst 0, 1) := by decide +kernel
theorem dL_ring_99 : decode cL_ring 99 = .ok (.istore 6, 2) := by decide +kernel
theorem dL_ring_101 : decode cL_ring 101 = .ok (.iload 6, 2) := by decide +kernel
theorem dL_ring_103 : decode cL_ring 103 = .ok (.iload 5, 2) := by decide +kernel
theorem dL_ring_105 : decode cL_ring 105 = .ok (.if_icmp .ge 43, 3) := by decide +kernel
theorem dL_ring_108 : decode cL_ring 108 = .ok (.iload 4, 2) := by decide +kernel
theorem dL_ring_110 : decode cL_ring 110 = .ok (.iconst 5, 1) := by decide +kernel
theorem dL_ring_111 : decode cL_ring 111 = .ok (.iload 6, 2) := by decide +kernel
theorem dL_ring_113 : decode cL_ring 113 = .ok (.iadd, 1) := by decide +kernel
theorem dL_ring_114 : decode cL_ring 114 = .ok (.ishr, 1) := by decide +kernel
theorem dL_ring_115 : decode cL_ring 115 = .ok (.iconst 4, 1) := by decide +kernel
theorem dL_ring_116 : decode cL_ring 116 = .ok (.invokestatic 9, 3) := by decide +kernel
theorem dL_ring_119 : decode cL_ring 119 = .ok (.ifCond .ne 23, 3) := by decide +kernel
theorem dL_ring_122 : decode cL_ring 122 = .ok (.aload_n 1, 1) := by decide +kernel
theorem dL_ring_123 : decode cL_ring 123 = .ok (.iload_n 3, 1) := by decide +kernel
theorem dL_ring_124 : decode cL_ring 124 = .ok (.iload 6, 2) := by decide +kernel
theorem dL_ring_126 : decode cL_ring 126 = .ok (.iload 4, 2) := by decide +kernel
theorem dL_ring_128 : decode cL_ring 128 = .ok (.bipush 7, 2) := by decide +kernel
theorem dL_ring_130 : decode cL_ring 130 = .ok (.iload 6, 2) := by decide +kernel
theorem dL_ring_132 : decode cL_ring 132 = .ok (.iadd, 1) := by decide +kernel
theorem dL_ring_133 : decode cL_ring 133 = .ok (.ishr, 1) := by decide +kernel
theorem dL_ring_134 : decode cL_ring 134 = .ok (.iload_n 2, 1) := by decide +kernel
theorem dL_ring_135 : decode cL_ring 135 = .ok (.invokestatic 9, 3) := by decide +kernel
theorem dL_ring_138 : decode cL_ring 138 = .ok (.invokevirtual 33, 3) := by decide +kernel
theorem dL_ring_141 : decode cL_ring 141 = .ok (.pop, 1) := by decide +kernel
theorem dL_ring_142 : decode cL_ring 142 = .ok (.iinc 6 1, 3) := by decide +kernel
theorem dL_ring_145 : decode cL_ring 145 = .ok (.goto (-44), 3) := by decide +kernel
theorem dL_ring_148 : decode cL_ring 148 = .ok (.iinc 3 1, 3) := by decide +kernel
theorem dL_ring_151 : decode cL_ring 151 = .ok (.goto (-95), 3) := by decide +kernel
theorem dL_ring_154 : decode cL_ring 154 = .ok (.aload_n 0, 1) := by decide +kernel
theorem dL_ring_155 : decode cL_ring 155 = .ok (.bipush 6, 2) := by decide +kernel
theorem dL_ring_157 : decode cL_ring 157 = .ok (.invokestatic 18, 3) := by decide +kernel
theorem dL_ring_160 : decode cL_ring 160 = .ok (.bipush 13, 2) := by decide +kernel
theorem dL_ring_162 : decode cL_ring 162 = .ok (.invokestatic 9, 3) := by decide +kernel
theorem dL_ring_165 : decode cL_ring 165 = .ok (.istore_n 3, 1) := by decide +kernel
theorem dL_ring_166 : decode cL_ring 166 = .ok (.iconst 0, 1) := by decide +kernel
theorem dL_ring_167 : decode cL_ring 167 = .ok (.istore 4, 2) := by decide +kernel
theorem dL_ring_169 : decode cL_ring 169 = .ok (.iload 4, 2) := by decide +kernel
theorem dL_ring_171 : decode cL_ring 171 = .ok (.iload_n 3, 1) := by decide +kernel
theorem dL_ring_172 : decode cL_ring 172 = .ok (.if_icmp .ge 105, 3) := by decide +kernel
theorem dL_ring_175 : decode cL_ring 175 = .ok (.aload_n 0, 1) := by decide +kernel
theorem dL_ring_176 : decode cL_ring 176 = .ok (.bipush 7, 2) := by decide +kernel
theorem dL_ring_178 : decode cL_ring 178 = .ok (.iload 4, 2) := by decide +kernel
theorem dL_ring_180 : decode cL_ring 180 = .ok (.iconst 4, 1) := by decide +kernel
theorem dL_ring_181 : decode cL_ring 181 = .ok (.irem, 1) := by decide +kernel
theorem dL_ring_182 : decode cL_ring 182 = .ok (.iadd, 1) := by decide +kernel
theorem dL_ring_183 : decode cL_ring 183 = .ok (.invokestatic 18, 3) := by decide +kernel
theorem dL_ring_186 : decode cL_ring 186 = .ok (.iload 4, 2) := by decide +kernel
theorem dL_ring_188 : decode cL_ring 188 = .ok (.iconst 4, 1) := by decide +kernel
theorem dL_ring_189 : decode cL_ring 189 = .ok (.idiv, 1) := by decide +kernel
theorem dL_ring_190 : decode cL_ring 190 = .ok (.iconst 5, 1) := by decide +kernel
theorem dL_ring_191 : decode cL_ring 191 = .ok (.imul, 1) := by decide +kernel
theorem dL_ring_192 : decode cL_ring 192 = .ok (.ishr, 1) := by decide +kernel
theorem dL_ring_193 : decode cL_ring 193 = .ok (.istore 5, 2) := by decide +kernel
theorem dL_ring_195 : decode cL_ring 195 = .ok (.aload_n 1, 1) := by decide +kernel
theorem dL_ring_196 : decode cL_ring 196 = .ok (.iload 5, 2) := by decide +kernel
theorem dL_ring_198 : decode cL_ring 198 = .ok (.iconst 2, 1) := by decide +kernel
theorem dL_ring_199 : decode cL_ring 199 = .ok (.invokestatic 9, 3) := by decide +kernel
theorem dL_ring_202 : decode cL_ring 202 = .ok (.ifCond .ne 7, 3) := by decide +kernel
theorem dL_ring_205 : decode cL_ring 205 = .ok (.iconst 0, 1) := by decide +kernel
theorem dL_ring_206 : decode cL_ring 206 = .ok (.goto 11, 3) := by decide +kernel
theorem dL_ring_209 : decode cL_ring 209 = .ok (.iload 5, 2) := by decide +kernel
theorem dL_ring_211 : decode cL_ring 211 = .ok (.iconst 1, 1) := by decide +kernel
theorem dL_ring_212 : decode cL_ring 212 = .ok (.ishr, 1) := by decide +kernel
theorem dL_ring_213 : decode cL_ring 213 = .ok (.iconst 3, 1) := by decide +kernel
theorem dL_ring_214 : decode cL_ring 214 = .ok (.invokestatic 9, 3) := by decide +kernel
theorem dL_ring_217 : decode cL_ring 217 = .ok (.invokevirtual 36, 3) := by decide +kernel
theorem dL_ring_220 : decode cL_ring 220 = .ok (.pop, 1) := by decide +kernel
theorem dL_ring_221 : decode cL_ring 221 = .ok (.aload_n 1, 1) := by decide +kernel
theorem dL_ring_222 : decode cL_ring 222 = .ok (.iload 4, 2) := by decide +kernel
theorem dL_ring_224 : decode cL_ring 224 = .ok (.iload 5, 2) := by decide +kernel
theorem dL_ring_226 : decode cL_ring 226 = .ok (.iconst 2, 1) := by decide +kernel
theorem dL_ring_227 : decode cL_ring 227 = .ok (.ishr, 1) := by decide +kernel
theorem dL_ring_228 : decode cL_ring 228 = .ok (.iload_n 2, 1) := by decide +kernel
theorem dL_ring_229 : decode cL_ring 229 = .ok (.invokestatic 9, 3) := by decide +kernel
theorem dL_ring_232 : decode cL_ring 232 = .ok (.iload 5, 2) := by decide +kernel
theorem dL_ring_234 : decode cL_ring 234 = .ok (.iconst 4, 1) := by decide +kernel
theorem dL_ring_235 : decode cL_ring 235 = .ok (.ishr, 1) := by decide +kernel
theorem dL_ring_236 : decode cL_ring 236 = .ok (.iconst 2, 1) := by decide +kernel
theorem dL_ring_237 : decode cL_ring 237 = .ok (.invokestatic 9, 3) := by decide +kernel
theorem dL_ring_240 : decode cL_ring 240 = .ok (.invokestatic 39, 3) := by decide +kernel
theorem dL_ring_243 : decode cL_ring 243 = .ok (.pop, 1) := by decide +kernel
theorem dL_ring_244 : decode cL_ring 244 = .ok (.iload 5, 2) := by decide +kernel
theorem dL_ring_246 : decode cL_ring 246 = .ok (.iconst 3, 1) := by decide +kernel
theorem dL_ring_247 : decode cL_ring 247 = .ok (.ishr, 1) := by decide +kernel
theorem dL_ring_248 : decode cL_ring 248 = .ok (.iconst 5, 1) := by decide +kernel
theorem dL_ring_249 : decode cL_ring 249 = .ok (.invokestatic 9, 3) := by decide +kernel
theorem dL_ring_252 : decode cL_ring 252 = .ok (.ifCond .ne 19, 3) := by decide +kernel
theorem dL_ring_255 : decode cL_ring 255 = .ok (.aload_n 1, 1) := by decide +kernel
theorem dL_ring_256 : decode cL_ring 256 = .ok (.iconst 1, 1) := by decide +kernel
theorem dL_ring_257 : decode cL_ring 257 = .ok (.iload 5, 2) := by decide +kernel
theorem dL_ring_259 : decode cL_ring 259 = .ok (.bipush 6, 2) := by decide +kernel
theorem dL_ring_261 : decode cL_ring 261 = .ok (.ishr, 1) := by decide +kernel
theorem dL_ring_262 : decode cL_ring 262 = .ok (.iconst 3, 1) := by decide +kernel
theorem dL_ring_263 : decode cL_ring 263 = .ok (.invokestatic 9, 3) := by decide +kernel
theorem dL_ring_266 : decode cL_ring 266 = .ok (.iadd, 1) := by decide +kernel
theorem dL_ring_267 : decode cL_ring 267 = .ok (.invokevirtual 43, 3) := by decide +kernel
theorem dL_ring_270 : decode cL_ring 270 = .ok (.pop, 1) := by decide +kernel
theorem dL_ring_271 : decode cL_ring 271 = .ok (.iinc 4 1, 3) := by decide +kernel
theorem dL_ring_274 : decode cL_ring 274 = .ok (.goto (-105), 3) := by decide +kernel
theorem dL_ring_277 : decode cL_ring 277 = .ok (.aload_n 1, 1) := by decide +kernel
theorem dL_ring_278 : decode cL_ring 278 = .ok (.areturn, 1) := by decide +kernel
theorem dL_give_0 : decode cL_give 0 = .ok (.aload_n 0, 1) := by decide +kernel
theorem dL_give_1 : decode cL_give 1 = .ok (.iload_n 1, 1) := by decide +kernel
theorem dL_give_2 : decode cL_give 2 = .ok (.iload_n 2, 1) := by decide +kernel
theorem dL_give_3 : decode cL_give 3 = .ok (.iload_n 3, 1) := by decide +kernel
theorem dL_give_4 : decode cL_give 4 = .ok (.invokevirtual 46, 3) := by decide +kernel
theorem dL_give_7 : decode cL_give 7 = .ok (.ireturn, 1) := by decide +kernel
theorem dL_give_8 : decode cL_give 8 = .ok (.astore 4, 2) := by decide +kernel
theorem dL_give_10 : decode cL_give 10 = .ok (.iconst (-1), 1) := by decide +kernel
theorem dL_give_11 : decode cL_give 11 = .ok (.ireturn, 1) := by decide +kernel
end
section
theorem dL_law_0 : decode cL_law 0 = .ok (.aload_n 0, 1) := by decide +kernel
theorem dL_law_1 : decode cL_law 1 = .ok (.invokestatic 50, 3) := by decide +kernel
theorem dL_law_4 : decode cL_law 4 = .ok (.astore_n 1, 1) := by decide +kernel
theorem dL_law_5 : decode cL_law 5 = .ok (.iconst 0, 1) := by decide +kernel
theorem dL_law_6 : decode cL_law 6 = .ok (.istore_n 2, 1) := by decide +kernel
theorem dL_law_7 : decode cL_law 7 = .ok (.iload_n 2, 1) := by decide +kernel
theorem dL_law_8 : decode cL_law 8 = .ok (.bipush 30, 2) := by decide +kernel
theorem dL_law_10 : decode cL_law 10 = .ok (.if_icmp .ge 1265, 3) := by decide +kernel
theorem dL_law_13 : decode cL_law 13 = .ok (.aload_n 0, 1) := by decide +kernel
theorem dL_law_14 : decode cL_law 14 = .ok (.iload_n 2, 1) := by decide +kernel
theorem dL_law_15 : decode cL_law 15 = .ok (.bipush 16, 2) := by decide +kernel
theorem dL_law_17 : decode cL_law 17 = .ok (.irem, 1) := by decide +kernel
theorem dL_law_18 : decode cL_law 18 = .ok (.invokestatic 18, 3) := by decide +kernel
theorem dL_law_21 : decode cL_law 21 = .ok (.iload_n 2, 1) := by decide +kernel
theorem dL_law_22 : decode cL_law 22 = .ok (.bipush 16, 2) := by decide +kernel
theorem dL_law_24 : decode cL_law 24 = .ok (.idiv, 1) := by decide +kernel
theorem dL_law_25 : decode cL_law 25 = .ok (.bipush 6, 2) := by decide +kernel
theorem dL_law_27 : decode cL_law 27 = .ok (.imul, 1) := by decide +kernel
theorem dL_law_28 : decode cL_law 28 = .ok (.ishr, 1) := by decide +kernel
theorem dL_law_29 : decode cL_law 29 = .ok (.istore_n 3, 1) := by decide +kernel
theorem dL_law_30 : decode cL_law 30 = .ok (.aload_n 1, 1) := by decide +kernel
theorem dL_law_31 : decode cL_law 31 = .ok (.iconst 1, 1) := by decide +kernel
theorem dL_law_32 : decode cL_law 32 = .ok (.invokevirtual 54, 3) := by decide +kernel
theorem dL_law_35 : decode cL_law 35 = .ok (.istore 4, 2) := by decide +kernel
theorem dL_law_37 : decode cL_law 37 = .ok (.aload_n 1, 1) := by decide +kernel
theorem dL_law_38 : decode cL_law 38 = .ok (.iconst 2, 1) := by decide +kernel
theorem dL_law_39 : decode cL_law 39 = .ok (.invokevirtual 54, 3) := by decide +kernel
theorem dL_law_42 : decode cL_law 42 = .ok (.istore 5, 2) := by decide +kernel
theorem dL_law_44 : decode cL_law 44 = .ok (.iload_n 3, 1) := by decide +kernel
theorem dL_law_45 : decode cL_law 45 = .ok (.iconst 3, 1) := by decide +kernel
theorem dL_law_46 : decode cL_law 46 = .ok (.ishr, 1) := by decide +kernel
theorem dL_law_47 : decode cL_law 47 = .ok (.iload 4, 2) := by decide +kernel
theorem dL_law_49 : decode cL_law 49 = .ok (.invokestatic 9, 3) := by decide +kernel
theorem dL_law_52 : decode cL_law 52 = .ok (.istore 6, 2) := by decide +kernel
theorem dL_law_54 : decode cL_law 54 = .ok (.iload_n 3, 1) := by decide +kernel
theorem dL_law_55 : decode cL_law 55 = .ok (.bipush 6, 2) := by decide +kernel
theorem dL_law_57 : decode cL_law 57 = .ok (.invokestatic 9, 3) := by decide +kernel
theorem dL_law_60 : decode cL_law 60 = .ok (.tableswitch 206 0 3 #[32, 104, 154, 179], 32) := by decide +kernel
theorem dL_law_92 : decode cL_law 92 = .ok (.iconst 1, 1) := by decide +kernel
theorem dL_law_93 : decode cL_law 93 = .ok (.iload_n 3, 1) := by decide +kernel
theorem dL_law_94 : decode cL_law 94 = .ok (.iconst 5, 1) := by decide +kernel
theorem dL_law_95 : decode cL_law 95 = .ok (.ishr, 1) := by decide +kernel
theorem dL_law_96 : decode cL_law 96 = .ok (.bipush 8, 2) := by decide +kernel
theorem dL_law_98 : decode cL_law 98 = .ok (.invokestatic 9, 3) := by decide +kernel
theorem dL_law_101 : decode cL_law 101 = .ok (.iadd, 1) := by decide +kernel
theorem dL_law_102 : decode cL_law 102 = .ok (.istore 7, 2) := by decide +kernel
theorem dL_law_104 : decode cL_law 104 = .ok (.aload_n 1, 1) := by decide +kernel
theorem dL_law_105 : decode cL_law 105 = .ok (.iload 6, 2) := by decide +kernel
theorem dL_law_107 : decode cL_law 107 = .ok (.iconst 4, 1) := by decide +kernel
theorem dL_law_108 : decode cL_law 108 = .ok (.invokevirtual 57, 3) := by decide +kernel
theorem dL_law_111 : decode cL_law 111 = .ok (.istore 8, 2) := by decide +kernel
theorem dL_law_113 : decode cL_law 113 = .ok (.aload_n 1, 1) := by decide +kernel
theorem dL_law_114 : decode cL_law 114 = .ok (.iload 6, 2) := by decide +kernel
theorem dL_law_116 : decode cL_law 116 = .ok (.iload 7, 2) := by decide +kernel
theorem dL_law_118 : decode cL_law 118 = .ok (.iload_n 3, 1) := by decide +kernel
theorem dL_law_119 : decode cL_law 119 = .ok (.iconst 2, 1) := by decide +kernel
theorem dL_law_120 : decode cL_law 120 = .ok (.ishr, 1) := by decide +kernel
theorem dL_law_121 : decode cL_law 121 = .ok (.iload 7, 2) := by decide +kernel
theorem dL_law_123 : decode cL_law 123 = .ok (.invokestatic 26, 3) := by decide +kernel
theorem dL_law_126 : decode cL_law 126 = .ok (.invokevirtual 29, 3) := by decide +kernel
theorem dL_law_129 : decode cL_law 129 = .ok (.iload 8, 2) := by decide +kernel
theorem dL_law_131 : decode cL_law 131 = .ok (.if_icmp .ne 31, 3) := by decide +kernel
theorem dL_law_134 : decode cL_law 134 = .ok (.aload_n 1, 1) := by decide +kernel
theorem dL_law_135 : decode cL_law 135 = .ok (.iload 6, 2) := by decide +kernel
theorem dL_law_137 : decode cL_law 137 = .ok (.iconst 4, 1) := by decide +kernel
theorem dL_law_138 : decode cL_law 138 = .ok (.invokevirtual 57, 3) := by decide +kernel
theorem dL_law_141 : decode cL_law 141 = .ok (.iload 7, 2) := by decide +kernel
theorem dL_law_143 : decode cL_law 143 = .ok (.if_icmp .ne 19, 3) := by decide +kernel
theorem dL_law_146 : decode cL_law 146 = .ok (.aload_n 1, 1) := by decide +kernel
theorem dL_law_147 : decode cL_law 147 = .ok (.iload 6, 2) := by decide +kernel
theorem dL_law_149 : decode cL_law 149 = .ok (.iload 7, 2) := by decide +kernel
theorem dL_law_151 : decode cL_law 151 = .ok (.iconst 1, 1) := by decide +kernel
theorem dL_law_152 : decode cL_law 152 = .ok (.isub, 1) := by decide +kernel
theorem dL_law_153 : decode cL_law 153 = .ok (.iconst 1, 1) := by decide +kernel
theorem dL_law_154 : decode cL_law 154 = .ok (.invokevirtual 60, 3) := by decide +kernel
theorem dL_law_157 : decode cL_law 157 = .ok (.iload 6, 2) := by decide +kernel
theorem dL_law_159 : decode cL_law 159 = .ok (.if_icmp .eq 146, 3) := by decide +kernel
theorem dL_law_162 : decode cL_law 162 = .ok (.iconst 0, 1) := by decide +kernel
theorem dL_law_163 : decode cL_law 163 = .ok (.ireturn, 1) := by decide +kernel
theorem dL_law_164 : decode cL_law 164 = .ok (.iload_n 3, 1) := by decide +kernel
theorem dL_law_165 : decode cL_law 165 = .ok (.iconst 5, 1) := by decide +kernel
theorem dL_law_166 : decode cL_law 166 = .ok (.ishr, 1) := by decide +kernel
theorem dL_law_167 : decode cL_law 167 = .ok (.aload_n 1, 1) := by decide +kernel
theorem dL_law_168 : decode cL_law 168 = .ok (.iload 6, 2) := by decide +kernel
theorem dL_law_170 : decode cL_law 170 = .ok (.iconst 4, 1) := by decide +kernel
theorem dL_law_171 : decode cL_law 171 = .ok (.invokevirtual 57, 3) := by decide +kernel
theorem dL_law_174 : decode cL_law 174 = .ok (.invokestatic 9, 3) := by decide +kernel
theorem dL_law_177 : decode cL_law 177 = .ok (.istore 7, 2) := by decide +kernel
theorem dL_law_179 : decode cL_law 179 = .ok (.aload_n 1, 1) := by decide +kernel
theorem dL_law_180 : decode cL_law 180 = .ok (.iload 6, 2) := by decide +kernel
theorem dL_law_182 : decode cL_law 182 = .ok (.iload 7, 2) := by decide +kernel
theorem dL_law_184 : decode cL_law 184 = .ok (.iconst 1, 1) := by decide +kernel
theorem dL_law_185 : decode cL_law 185 = .ok (.invokevirtual 60, 3) := by decide +kernel
theorem dL_law_188 : decode cL_law 188 = .ok (.istore 8, 2) := by decide +kernel
theorem dL_law_190 : decode cL_law 190 = .ok (.aload_n 1, 1) := by decide +kernel
theorem dL_law_191 : decode cL_law 191 = .ok (.iload 6, 2) := by decide +kernel
theorem dL_law_193 : decode cL_law 193 = .ok (.iload 7, 2) := by decide +kernel
theorem dL_law_195 : decode cL_law 195 = .ok (.iload_n 3, 1) := by decide +kernel
theorem dL_law_196 : decode cL_law 196 = .ok (.bipush 6, 2) := by decide +kernel
theorem dL_law_198 : decode cL_law 198 = .ok (.ishr, 1) := by decide +kernel
theorem dL_law_199 : decode cL_law 199 = .ok (.iload 4, 2) := by decide +kernel
theorem dL_law_201 : decode cL_law 201 = .ok (.invokestatic 9, 3) := by decide +kernel
theorem dL_law_204 : decode cL_law 204 = .ok (.invokevirtual 33, 3) := by decide +kernel
theorem dL_law_207 : decode cL_law 207 = .ok (.iload 8, 2) := by decide +kernel
theorem dL_law_209 : decode cL_law 209 = .ok (.if_icmp .eq 96, 3) := by decide +kernel
theorem dL_law_212 : decode cL_law 212 = .ok (.iconst 0, 1) := by decide +kernel
theorem dL_law_213 : decode cL_law 213 = .ok (.ireturn, 1) := by decide +kernel
theorem dL_law_214 : decode cL_law 214 = .ok (.iload 5, 2) := by decide +kernel
theorem dL_law_216 : decode cL_law 216 = .ok (.bipush 12, 2) := by decide +kernel
theorem dL_law_218 : decode cL_law 218 = .ok (.if_icmp .ge 87, 3) := by decide +kernel
theorem dL_law_221 : decode cL_law 221 = .ok (.aload_n 1, 1) := by decide +kernel
theorem dL_law_222 : decode cL_law 222 = .ok (.iload_n 3, 1) := by decide +kernel
theorem dL_law_223 : decode cL_law 223 = .ok (.iconst 5, 1) := by decide +kernel
theorem dL_law_224 : decode cL_law 224 = .ok (.ishr, 1) := by decide +kernel
theorem dL_law_225 : decode cL_law 225 = .ok (.iconst 3, 1) := by decide +kernel
theorem dL_law_226 : decode cL_law 226 = .ok (.invokestatic 9, 3) := by decide +kernel
theorem dL_law_229 : decode cL_law 229 = .ok (.invokevirtual 36, 3) := by decide +kernel
theorem dL_law_232 : decode cL_law 232 = .ok (.iload 5, 2) := by decide +kernel
theorem dL_law_234 : decode cL_law 234 = .ok (.if_icmp .eq 71, 3) := by decide +kernel
theorem dL_law_237 : decode cL_law 237 = .ok (.iconst 0, 1) := by decide +kernel
theorem dL_law_238 : decode cL_law 238 = .ok (.ireturn, 1) := by decide +kernel
theorem dL_law_239 : decode cL_law 239 = .ok (.iload 4, 2) := by decide +kernel
theorem dL_law_241 : decode cL_law 241 = .ok (.iconst 4, 1) := by decide +kernel
theorem dL_law_242 : decode cL_law 242 = .ok (.if_icmp .ge 63, 3) := by decide +kernel
theorem dL_law_245 : decode cL_law 245 = .ok (.aload_n 1, 1) := by decide +kernel
theorem dL_law_246 : decode cL_law 246 = .ok (.iconst 1, 1) := by decide +kernel
theorem dL_law_247 : decode cL_law 247 = .ok (.iload_n 3, 1) := by decide +kernel
theorem dL_law_248 : decode cL_law 248 = .ok (.iconst 5, 1) := by decide +kernel
theorem dL_law_249 : decode cL_law 249 = .ok (.ishr, 1) := by decide +kernel
theorem dL_law_250 : decode cL_law 250 = .ok (.bipush 9, 2) := by decide +kernel
theorem dL_law_252 : decode cL_law 252 = .ok (.invokestatic 9, 3) := by decide +kernel
theorem dL_law_255 : decode cL_law 255 = .ok (.iadd, 1) := by decide +kernel
theorem dL_law_256 : decode cL_law 256 = .ok (.invokevirtual 22, 3) := by decide +kernel
theorem dL_law_259 : decode cL_law 259 = .ok (.iload 4, 2) := by decide +kernel
theorem dL_law_261 : decode cL_law 261 = .ok (.if_icmp .eq 44, 3) := by decide +kernel
theorem dL_law_264 : decode cL_law 264 = .ok (.iconst 0, 1) := by decide +kernel
theorem dL_law_265 : decode cL_law 265 = .ok (.ireturn, 1) := by decide +kernel
theorem dL_law_266 : decode cL_law 266 = .ok (.iconst 0, 1) := by decide +kernel
theorem dL_law_267 : decode cL_law 267 = .ok (.istore 7, 2) := by decide +kernel
theorem dL_law_269 : decode cL_law 269 = .ok (.iload 7, 2) := by decide +kernel
theorem dL_law_271 : decode cL_law 271 = .ok (.iload 5, 2) := by decide +kernel
theorem dL_law_273 : decode cL_law 273 = .ok (.if_icmp .ge 32, 3) := by decide +kernel
theorem dL_law_276 : decode cL_law 276 = .ok (.aload_n 1, 1) := by decide +kernel
theorem dL_law_277 : decode cL_law 277 = .ok (.iload 7, 2) := by decide +kernel
theorem dL_law_279 : decode cL_law 279 = .ok (.iload 6, 2) := by decide +kernel
theorem dL_law_281 : decode cL_law 281 = .ok (.iload_n 3, 1) := by decide +kernel
theorem dL_law_282 : decode cL_law 282 = .ok (.iconst 4, 1) := by decide +kernel
theorem dL_law_283 : decode cL_law 283 = .ok (.iload 7, 2) := by decide +kernel
theorem dL_law_285 : decode cL_law 285 = .ok (.iadd, 1) := by decide +kernel
theorem dL_law_286 : decode cL_law 286 = .ok (.ishr, 1) := by decide +kernel
theorem dL_law_287 : decode cL_law 287 = .ok (.iconst 2, 1) := by decide +kernel
theorem dL_law_288 : decode cL_law 288 = .ok (.invokestatic 9, 3) := by decide +kernel
theorem dL_law_291 : decode cL_law 291 = .ok (.invokestatic 39, 3) := by decide +kernel
theorem dL_law_294 : decode cL_law 294 = .ok (.ifCond .ne 5, 3) := by decide +kernel
theorem dL_law_297 : decode cL_law 297 = .ok (.iconst 0, 1) := by decide +kernel
theorem dL_law_298 : decode cL_law 298 = .ok (.ireturn, 1) := by decide +kernel
theorem dL_law_299 : decode cL_law 299 = .ok (.iinc 7 1, 3) := by decide +kernel
theorem dL_law_302 : decode cL_law 302 = .ok (.goto (-33), 3) := by decide +kernel
theorem dL_law_305 : decode cL_law 305 = .ok (.aload_n 1, 1) := by decide +kernel
theorem dL_law_306 : decode cL_law 306 = .ok (.iconst 1, 1) := by decide +kernel
theorem dL_law_307 : decode cL_law 307 = .ok (.invokevirtual 54, 3) := by decide +kernel
theorem dL_law_310 : decode cL_law 310 = .ok (.istore 4, 2) := by decide +kernel
theorem dL_law_312 : decode cL_law 312 = .ok (.aload_n 1, 1) := by decide +kernel
theorem dL_law_313 : decode cL_law 313 = .ok (.iconst 2, 1) := by decide +kernel
theorem dL_law_314 : decode cL_law 314 = .ok (.invokevirtual 54, 3) := by decide +kernel
theorem dL_law_317 : decode cL_law 317 = .ok (.istore 5, 2) := by decide +kernel
theorem dL_law_319 : decode cL_law 319 = .ok (.iconst 1, 1) := by decide +kernel
theorem dL_law_320 : decode cL_law 320 = .ok (.iload_n 3, 1) := by decide +kernel
theorem dL_law_321 : decode cL_law 321 = .ok (.iconst 4, 1) := by decide +kernel
theorem dL_law_322 : decode cL_law 322 = .ok (.ishr, 1) := by decide +kernel
theorem dL_law_323 : decode cL_law 323 = .ok (.iconst 4, 1) := by decide +kernel
theorem dL_law_324 : decode cL_law 324 = .ok (.invokestatic 9, 3) := by decide +kernel
theorem dL_law_327 : decode cL_law 327 = .ok (.iadd, 1) := by decide +kernel
theorem dL_law_328 : decode cL_law 328 = .ok (.istore 7, 2) := by decide +kernel
theorem dL_law_330 : decode cL_law 330 = .ok (.aload_n 1, 1) := by decide +kernel
theorem dL_law_331 : decode cL_law 331 = .ok (.invokevirtual 63, 3) := by decide +kernel
theorem dL_law_334 : decode cL_law 334 = .ok (.lstore 8, 2) := by decide +kernel
theorem dL_law_336 : decode cL_law 336 = .ok (.aload_n 1, 1) := by decide +kernel
theorem dL_law_337 : decode cL_law 337 = .ok (.iload 7, 2) := by decide +kernel
theorem dL_law_339 : decode cL_law 339 = .ok (.iconst 0, 1) := by decide +kernel
theorem dL_law_340 : decode cL_law 340 = .ok (.invokevirtual 67, 3) := by decide +kernel
theorem dL_law_343 : decode cL_law 343 = .ok (.istore 10, 2) := by decide +kernel
theorem dL_law_345 : decode cL_law 345 = .ok (.aload_n 1, 1) := by decide +kernel
theorem dL_law_346 : decode cL_law 346 = .ok (.iload 7, 2) := by decide +kernel
theorem dL_law_348 : decode cL_law 348 = .ok (.iconst 1, 1) := by decide +kernel
theorem dL_law_349 : decode cL_law 349 = .ok (.invokevirtual 67, 3) := by decide +kernel
theorem dL_law_352 : decode cL_law 352 = .ok (.istore 11, 2) := by decide +kernel
theorem dL_law_354 : decode cL_law 354 = .ok (.aload_n 1, 1) := by decide +kernel
theorem dL_law_355 : decode cL_law 355 = .ok (.invokevirtual 70, 3) := by decide +kernel
theorem dL_law_358 : decode cL_law 358 = .ok (.istore 12, 2) := by decide +kernel
theorem dL_law_360 : decode cL_law 360 = .ok (.iload_n 2, 1) := by decide +kernel
theorem dL_law_361 : decode cL_law 361 = .ok (.iconst 5, 1) := by decide +kernel
theorem dL_law_362 : decode cL_law 362 = .ok (.irem, 1) := by decide +kernel
theorem dL_law_363 : decode cL_law 363 = .ok (.ifCond .ne 23, 3) := by decide +kernel
theorem dL_law_366 : decode cL_law 366 = .ok (.aload_n 1, 1) := by decide +kernel
theorem dL_law_367 : decode cL_law 367 = .ok (.iload 6, 2) := by decide +kernel
theorem dL_law_369 : decode cL_law 369 = .ok (.iconst 1, 1) := by decide +kernel
theorem dL_law_370 : decode cL_law 370 = .ok (.iload_n 3, 1) := by decide +kernel
theorem dL_law_371 : decode cL_law 371 = .ok (.bipush 6, 2) := by decide +kernel
theorem dL_law_373 : decode cL_law 373 = .ok (.ishr, 1) := by decide +kernel
theorem dL_law_374 : decode cL_law 374 = .ok (.bipush 30, 2) := by decide +kernel
theorem dL_law_376 : decode cL_law 376 = .ok (.invokestatic 9, 3) := by decide +kernel
theorem dL_law_379 : decode cL_law 379 = .ok (.iadd, 1) := by decide +kernel
theorem dL_law_380 : decode cL_law 380 = .ok (.invokevirtual 74, 3) := by decide +kernel
theorem dL_law_383 : decode cL_law 383 = .ok (.goto 4, 3) := by decide +kernel
theorem dL_law_386 : decode cL_law 386 = .ok (.iconst (-1), 1) := by decide +kernel
theorem dL_law_387 : decode cL_law 387 = .ok (.istore 13, 2) := by decide +kernel
theorem dL_law_389 : decode cL_law 389 = .ok (.aload_n 1, 1) := by decide +kernel
theorem dL_law_390 : decode cL_law 390 = .ok (.invokevirtual 63, 3) := by decide +kernel
theorem dL_law_393 : decode cL_law 393 = .ok (.lload 8, 2) := by decide +kernel
theorem dL_law_395 : decode cL_law 395 = .ok (.lcmp, 1) := by decide +kernel
theorem dL_law_396 : decode cL_law 396 = .ok (.ifCond .ne 73, 3) := by decide +kernel
theorem dL_law_399 : decode cL_law 399 = .ok (.iload 12, 2) := by decide +kernel
theorem dL_law_401 : decode cL_law 401 = .ok (.ifCond .le 14, 3) := by decide +kernel
theorem dL_law_404 : decode cL_law 404 = .ok (.iload 12, 2) := by decide +kernel
theorem dL_law_406 : decode cL_law 406 = .ok (.iload 7, 2) := by decide +kernel
theorem dL_law_408 : decode cL_law 408 = .ok (.if_icmp .gt 7, 3) := by decide +kernel
theorem dL_law_411 : decode cL_law 411 = .ok (.iconst 1, 1) := by decide +kernel
theorem dL_law_412 : decode cL_law 412 = .ok (.goto 4, 3) := by decide +kernel
theorem dL_law_415 : decode cL_law 415 = .ok (.iconst 0, 1) := by decide +kernel
theorem dL_law_416 : decode cL_law 416 = .ok (.iload 11, 2) := by decide +kernel
theorem dL_law_418 : decode cL_law 418 = .ok (.ifCond .le 7, 3) := by decide +kernel
theorem dL_law_421 : decode cL_law 421 = .ok (.iconst 1, 1) := by decide +kernel
theorem dL_law_422 : decode cL_law 422 = .ok (.goto 4, 3) := by decide +kernel
theorem dL_law_425 : decode cL_law 425 = .ok (.iconst 0, 1) := by decide +kernel
theorem dL_law_426 : decode cL_law 426 = .ok (.if_icmp .ne 43, 3) := by decide +kernel
theorem dL_law_429 : decode cL_law 429 = .ok (.iload 13, 2) := by decide +kernel
theorem dL_law_431 : decode cL_law 431 = .ok (.bipush 10, 2) := by decide +kernel
theorem dL_law_433 : decode cL_law 433 = .ok (.aload_n 1, 1) := by decide +kernel
theorem dL_law_434 : decode cL_law 434 = .ok (.iload 6, 2) := by decide +kernel
theorem dL_law_436 : decode cL_law 436 = .ok (.iconst 4, 1) := by decide +kernel
theorem dL_law_437 : decode cL_law 437 = .ok (.invokevirtual 57, 3) := by decide +kernel
theorem dL_law_440 : decode cL_law 440 = .ok (.imul, 1) := by decide +kernel
theorem dL_law_441 : decode cL_law 441 = .ok (.if_icmp .ge 28, 3) := by decide +kernel
theorem dL_law_444 : decode cL_law 444 = .ok (.iload 13, 2) := by decide +kernel
theorem dL_law_446 : decode cL_law 446 = .ok (.ifCond .lt 25, 3) := by decide +kernel
theorem dL_law_449 : decode cL_law 449 = .ok (.aload_n 1, 1) := by decide +kernel
theorem dL_law_450 : decode cL_law 450 = .ok (.iload 6, 2) := by decide +kernel
theorem dL_law_452 : decode cL_law 452 = .ok (.iload 13, 2) := by decide +kernel
theorem dL_law_454 : decode cL_law 454 = .ok (.bipush 10, 2) := by decide +kernel
theorem dL_law_456 : decode cL_law 456 = .ok (.idiv, 1) := by decide +kernel
theorem dL_law_457 : decode cL_law 457 = .ok (.iconst 0, 1) := by decide +kernel
theorem dL_law_458 : decode cL_law 458 = .ok (.invokevirtual 60, 3) := by decide +kernel
theorem dL_law_461 : decode cL_law 461 = .ok (.iload 13, 2) := by decide +kernel
theorem dL_law_463 : decode cL_law 463 = .ok (.bipush 10, 2) := by decide +kernel
theorem dL_law_465 : decode cL_law 465 = .ok (.irem, 1) := by decide +kernel
theorem dL_law_466 : decode cL_law 466 = .ok (.if_icmp .ne 5, 3) := by decide +kernel
theorem dL_law_469 : decode cL_law 469 = .ok (.iconst 0, 1) := by decide +kernel
theorem dL_law_470 : decode cL_law 470 = .ok (.ireturn, 1) := by decide +kernel
theorem dL_law_471 : decode cL_law 471 = .ok (.aload_n 1, 1) := by decide +kernel
theorem dL_law_472 : decode cL_law 472 = .ok (.iconst 0, 1) := by decide +kernel
theorem dL_law_473 : decode cL_law 473 = .ok (.invokevirtual 54, 3) := by decide +kernel
theorem dL_law_476 : decode cL_law 476 = .ok (.istore 14, 2) := by decide +kernel
theorem dL_law_478 : decode cL_law 478 = .ok (.iload 4, 2) := by decide +kernel
theorem dL_law_480 : decode cL_law 480 = .ok (.iconst 2, 1) := by decide +kernel
theorem dL_law_481 : decode cL_law 481 = .ok (.multianewarray 77 2, 4) := by decide +kernel
theorem dL_law_485 : decode cL_law 485 = .ok (.astore 15, 2) := by decide +kernel
theorem dL_law_487 : decode cL_law 487 = .ok (.iconst 0, 1) := by decide +kernel
theorem dL_law_488 : decode cL_law 488 = .ok (.istore 16, 2) := by decide +kernel
theorem dL_law_490 : decode cL_law 490 = .ok (.iload 16, 2) := by decide +kernel
theorem dL_law_492 : decode cL_law 492 = .ok (.iload 4, 2) := by decide +kernel
theorem dL_law_494 : decode cL_law 494 = .ok (.if_icmp .ge 100, 3) := by decide +kernel
theorem dL_law_497 : decode cL_law 497 = .ok (.iconst 0, 1) := by decide +kernel
theorem dL_law_498 : decode cL_law 498 = .ok (.istore 17, 2) := by decide +kernel
theorem dL_law_500 : decode cL_law 500 = .ok (.iload 17, 2) := by decide +kernel
theorem dL_law_502 : decode cL_law 502 = .ok (.iconst 2, 1) := by decide +kernel
theorem dL_law_503 : decode cL_law 503 = .ok (.if_icmp .ge 85, 3) := by decide +kernel
theorem dL_law_506 : decode cL_law 506 = .ok (.aload 15, 2) := by decide +kernel
theorem dL_law_508 : decode cL_law 508 = .ok (.iload 16, 2) := by decide +kernel
theorem dL_law_510 : decode cL_law 510 = .ok (.aaload, 1) := by decide +kernel
theorem dL_law_511 : decode cL_law 511 = .ok (.iload 17, 2) := by decide +kernel
theorem dL_law_513 : decode cL_law 513 = .ok (.aload_n 1, 1) := by decide +kernel
theorem dL_law_514 : decode cL_law 514 = .ok (.iload 16, 2) := by decide +kernel
theorem dL_law_516 : decode cL_law 516 = .ok (.iconst 2, 1) := by decide +kernel
theorem dL_law_517 : decode cL_law 517 = .ok (.iload 17, 2) := by decide +kernel
theorem dL_law_519 : decode cL_law 519 = .ok (.iadd, 1) := by decide +kernel
theorem dL_law_520 : decode cL_law 520 = .ok (.invokevirtual 57, 3) := by decide +kernel
theorem dL_law_523 : decode cL_law 523 = .ok (.iastore, 1) := by decide +kernel
theorem dL_law_524 : decode cL_law 524 = .ok (.iload 14, 2) := by decide +kernel
theorem dL_law_526 : decode cL_law 526 = .ok (.istore 18, 2) := by decide +kernel
theorem dL_law_528 : decode cL_law 528 = .ok (.iload 18, 2) := by decide +kernel
theorem dL_law_530 : decode cL_law 530 = .ok (.iload 14, 2) := by decide +kernel
theorem dL_law_532 : decode cL_law 532 = .ok (.iload 7, 2) := by decide +kernel
theorem dL_law_534 : decode cL_law 534 = .ok (.iadd, 1) := by decide +kernel
theorem dL_law_535 : decode cL_law 535 = .ok (.if_icmp .ge 47, 3) := by decide +kernel
theorem dL_law_538 : decode cL_law 538 = .ok (.iload 18, 2) := by decide +kernel
theorem dL_law_540 : decode cL_law 540 = .ok (.iconst 2, 1) := by decide +kernel
theorem dL_law_541 : decode cL_law 541 = .ok (.irem, 1) := by decide +kernel
theorem dL_law_542 : decode cL_law 542 = .ok (.iload 17, 2) := by decide +kernel
theorem dL_law_544 : decode cL_law 544 = .ok (.if_icmp .ne 32, 3) := by decide +kernel
theorem dL_law_547 : decode cL_law 547 = .ok (.aload_n 1, 1) := by decide +kernel
theorem dL_law_548 : decode cL_law 548 = .ok (.iload 16, 2) := by decide +kernel
theorem dL_law_550 : decode cL_law 550 = .ok (.iload 18, 2) := by decide +kernel
theorem dL_law_552 : decode cL_law 552 = .ok (.aload_n 1, 1) := by decide +kernel
theorem dL_law_553 : decode cL_law 553 = .ok (.iload 16, 2) := by decide +kernel
theorem dL_law_555 : decode cL_law 555 = .ok (.iconst 4, 1) := by decide +kernel
theorem dL_law_556 : decode cL_law 556 = .ok (.invokevirtual 57, 3) := by decide +kernel
theorem dL_law_559 : decode cL_law 559 = .ok (.irem, 1) := by decide +kernel
theorem dL_law_560 : decode cL_law 560 = .ok (.iconst 0, 1) := by decide +kernel
theorem dL_law_561 : decode cL_law 561 = .ok (.invokevirtual 60, 3) := by decide +kernel
theorem dL_law_564 : decode cL_law 564 = .ok (.ifCond .le 12, 3) := by decide +kernel
theorem dL_law_567 : decode cL_law 567 = .ok (.aload 15, 2) := by decide +kernel
theorem dL_law_569 : decode cL_law 569 = .ok (.iload 16, 2) := by decide +kernel
theorem dL_law_571 : decode cL_law 571 = .ok (.aaload, 1) := by decide +kernel
theorem dL_law_572 : decode cL_law 572 = .ok (.iload 17, 2) := by decide +kernel
theorem dL_law_574 : decode cL_law 574 = .ok (.iconst (-1), 1) := by decide +kernel
theorem dL_law_575 : decode cL_law 575 = .ok (.iastore, 1) := by decide +kernel
theorem dL_law_576 : decode cL_law 576 = .ok (.iinc 18 1, 3) := by decide +kernel
theorem dL_law_579 : decode cL_law 579 = .ok (.goto (-51), 3) := by decide +kernel
theorem dL_law_582 : decode cL_law 582 = .ok (.iinc 17 1, 3) := by decide +kernel
theorem dL_law_585 : decode cL_law 585 = .ok (.goto (-85), 3) := by decide +kernel
theorem dL_law_588 : decode cL_law 588 = .ok (.iinc 16 1, 3) := by decide +kernel
theorem dL_law_591 : decode cL_law 591 = .ok (.goto (-101), 3) := by decide +kernel
theorem dL_law_594 : decode cL_law 594 = .ok (.aload_n 1, 1) := by decide +kernel
theorem dL_law_595 : decode cL_law 595 = .ok (.bipush 7, 2) := by decide +kernel
theorem dL_law_597 : decode cL_law 597 = .ok (.invokevirtual 54, 3) := by decide +kernel
theorem dL_law_600 : decode cL_law 600 = .ok (.istore 16, 2) := by decide +kernel
theorem dL_law_602 : decode cL_law 602 = .ok (.aload_n 1, 1) := by decide +kernel
theorem dL_law_603 : decode cL_law 603 = .ok (.iload 7, 2) := by decide +kernel
theorem dL_law_605 : decode cL_law 605 = .ok (.invokevirtual 43, 3) := by decide +kernel
theorem dL_law_608 : decode cL_law 608 = .ok (.iload 11, 2) := by decide +kernel
theorem dL_law_610 : decode cL_law 610 = .ok (.if_icmp .ne 40, 3) := by decide +kernel
theorem dL_law_613 : decode cL_law 613 = .ok (.aload_n 1, 1) := by decide +kernel
theorem dL_law_614 : decode cL_law 614 = .ok (.bipush 7, 2) := by decide +kernel
theorem dL_law_616 : decode cL_law 616 = .ok (.invokevirtual 54, 3) := by decide +kernel
theorem dL_law_619 : decode cL_law 619 = .ok (.iload 16, 2) := by decide +kernel
theorem dL_law_621 : decode cL_law 621 = .ok (.iload 11, 2) := by decide +kernel
theorem dL_law_623 : decode cL_law 623 = .ok (.iadd, 1) := by decide +kernel
theorem dL_law_624 : decode cL_law 624 = .ok (.if_icmp .ne 26, 3) := by decide +kernel
theorem dL_law_627 : decode cL_law 627 = .ok (.aload_n 1, 1) := by decide +kernel
theorem dL_law_628 : decode cL_law 628 = .ok (.iconst 4, 1) := by decide +kernel
theorem dL_law_629 : decode cL_law 629 = .ok (.invokevirtual 54, 3) := by decide +kernel
theorem dL_law_632 : decode cL_law 632 = .ok (.iload 10, 2) := by decide +kernel
theorem dL_law_634 : decode cL_law 634 = .ok (.if_icmp .ne 16, 3) := by decide +kernel
theorem dL_law_637 : decode cL_law 637 = .ok (.aload_n 1, 1) := by decide +kernel
theorem dL_law_638 : decode cL_law 638 = .ok (.iconst 0, 1) := by decide +kernel
theorem dL_law_639 : decode cL_law 639 = .ok (.invokevirtual 54, 3) := by decide +kernel
theorem dL_law_642 : decode cL_law 642 = .ok (.iload 14, 2) := by decide +kernel
theorem dL_law_644 : decode cL_law 644 = .ok (.iload 7, 2) := by decide +kernel
theorem dL_law_646 : decode cL_law 646 = .ok (.iadd, 1) := by decide +kernel
theorem dL_law_647 : decode cL_law 647 = .ok (.if_icmp .eq 5, 3) := by decide +kernel
theorem dL_law_650 : decode cL_law 650 = .ok (.iconst 0, 1) := by decide +kernel
theorem dL_law_651 : decode cL_law 651 = .ok (.ireturn, 1) := by decide +kernel
theorem dL_law_652 : decode cL_law 652 = .ok (.iconst 4, 1) := by decide +kernel
theorem dL_law_653 : decode cL_law 653 = .ok (.newarray .int, 2) := by decide +kernel
theorem dL_law_655 : decode cL_law 655 = .ok (.astore 17, 2) := by decide +kernel
theorem dL_law_657 : decode cL_law 657 = .ok (.iconst 0, 1) := by decide +kernel
theorem dL_law_658 : decode cL_law 658 = .ok (.istore 18, 2) := by decide +kernel
theorem dL_law_660 : decode cL_law 660 = .ok (.iconst 0, 1) := by decide +kernel
theorem dL_law_661 : decode cL_law 661 = .ok (.istore 19, 2) := by decide +kernel
theorem dL_law_663 : decode cL_law 663 = .ok (.iconst 0, 1) := by decide +kernel
theorem dL_law_664 : decode cL_law 664 = .ok (.istore 20, 2) := by decide +kernel
theorem dL_law_666 : decode cL_law 666 = .ok (.iload 4, 2) := by decide +kernel
theorem dL_law_668 : decode cL_law 668 = .ok (.newarray .int, 2) := by decide +kernel
theorem dL_law_670 : decode cL_law 670 = .ok (.astore 21, 2) := by decide +kernel
theorem dL_law_672 : decode cL_law 672 = .ok (.iconst 0, 1) := by decide +kernel
theorem dL_law_673 : decode cL_law 673 = .ok (.istore 22, 2) := by decide +kernel
theorem dL_law_675 : decode cL_law 675 = .ok (.iload 22, 2) := by decide +kernel
theorem dL_law_677 : decode cL_law 677 = .ok (.iload 5, 2) := by decide +kernel
theorem dL_law_679 : decode cL_law 679 = .ok (.if_icmp .ge 289, 3) := by decide +kernel
theorem dL_law_682 : decode cL_law 682 = .ok (.aload_n 1, 1) := by decide +kernel
theorem dL_law_683 : decode cL_law 683 = .ok (.iload 22, 2) := by decide +kernel
theorem dL_law_685 : decode cL_law 685 = .ok (.iconst 0, 1) := by decide +kernel
theorem dL_law_686 : decode cL_law 686 = .ok (.invokevirtual 79, 3) := by decide +kernel
theorem dL_law_689 : decode cL_law 689 = .ok (.istore 23, 2) := by decide +kernel
theorem dL_law_691 : decode cL_law 691 = .ok (.aload_n 1, 1) := by decide +kernel
theorem dL_law_692 : decode cL_law 692 = .ok (.iload 22, 2) := by decide +kernel
theorem dL_law_694 : decode cL_law 694 = .ok (.iconst 1, 1) := by decide +kernel
theorem dL_law_695 : decode cL_law 695 = .ok (.invokevirtual 79, 3) := by decide +kernel
theorem dL_law_698 : decode cL_law 698 = .ok (.istore 24, 2) := by decide +kernel
theorem dL_law_700 : decode cL_law 700 = .ok (.aload_n 1, 1) := by decide +kernel
theorem dL_law_701 : decode cL_law 701 = .ok (.iload 22, 2) := by decide +kernel
theorem dL_law_703 : decode cL_law 703 = .ok (.iconst 2, 1) := by decide +kernel
theorem dL_law_704 : decode cL_law 704 = .ok (.invokevirtual 79, 3) := by decide +kernel
theorem dL_law_707 : decode cL_law 707 = .ok (.istore 25, 2) := by decide +kernel
theorem dL_law_709 : decode cL_law 709 = .ok (.aload_n 1, 1) := by decide +kernel
theorem dL_law_710 : decode cL_law 710 = .ok (.iload 22, 2) := by decide +kernel
theorem dL_law_712 : decode cL_law 712 = .ok (.iconst 3, 1) := by decide +kernel
theorem dL_law_713 : decode cL_law 713 = .ok (.invokevirtual 79, 3) := by decide +kernel
theorem dL_law_716 : decode cL_law 716 = .ok (.istore 26, 2) := by decide +kernel
theorem dL_law_718 : decode cL_law 718 = .ok (.aload_n 1, 1) := by decide +kernel
theorem dL_law_719 : decode cL_law 719 = .ok (.iload 22, 2) := by decide +kernel
theorem dL_law_721 : decode cL_law 721 = .ok (.iconst 4, 1) := by decide +kernel
theorem dL_law_722 : decode cL_law 722 = .ok (.invokevirtual 79, 3) := by decide +kernel
theorem dL_law_725 : decode cL_law 725 = .ok (.istore 27, 2) := by decide +kernel
theorem dL_law_727 : decode cL_law 727 = .ok (.aload 17, 2) := by decide +kernel
theorem dL_law_729 : decode cL_law 729 = .ok (.iload 24, 2) := by decide +kernel
theorem dL_law_731 : decode cL_law 731 = .ok (.dup2, 1) := by decide +kernel
theorem dL_law_732 : decode cL_law 732 = .ok (.iaload, 1) := by decide +kernel
theorem dL_law_733 : decode cL_law 733 = .ok (.iconst 1, 1) := by decide +kernel
theorem dL_law_734 : decode cL_law 734 = .ok (.iadd, 1) := by decide +kernel
theorem dL_law_735 : decode cL_law 735 = .ok (.iastore, 1) := by decide +kernel
theorem dL_law_736 : decode cL_law 736 = .ok (.iload 18, 2) := by decide +kernel
theorem dL_law_738 : decode cL_law 738 = .ok (.aload_n 1, 1) := by decide +kernel
theorem dL_law_739 : decode cL_law 739 = .ok (.iload 22, 2) := by decide +kernel
theorem dL_law_741 : decode cL_law 741 = .ok (.iconst 5, 1) := by decide +kernel
theorem dL_law_742 : decode cL_law 742 = .ok (.invokevirtual 79, 3) := by decide +kernel
theorem dL_law_745 : decode cL_law 745 = .ok (.iadd, 1) := by decide +kernel
theorem dL_law_746 : decode cL_law 746 = .ok (.istore 18, 2) := by decide +kernel
theorem dL_law_748 : decode cL_law 748 = .ok (.iload 19, 2) := by decide +kernel
theorem dL_law_750 : decode cL_law 750 = .ok (.aload_n 1, 1) := by decide +kernel
theorem dL_law_751 : decode cL_law 751 = .ok (.iload 22, 2) := by decide +kernel
theorem dL_law_753 : decode cL_law 753 = .ok (.bipush 6, 2) := by decide +kernel
theorem dL_law_755 : decode cL_law 755 = .ok (.invokevirtual 79, 3) := by decide +kernel
theorem dL_law_758 : decode cL_law 758 = .ok (.iadd, 1) := by decide +kernel
theorem dL_law_759 : decode cL_law 759 = .ok (.istore 19, 2) := by decide +kernel
theorem dL_law_761 : decode cL_law 761 = .ok (.iload 20, 2) := by decide +kernel
theorem dL_law_763 : decode cL_law 763 = .ok (.iload 23, 2) := by decide +kernel
theorem dL_law_765 : decode cL_law 765 = .ok (.iconst 1, 1) := by decide +kernel
theorem dL_law_766 : decode cL_law 766 = .ok (.if_icmp .ne 14, 3) := by decide +kernel
theorem dL_law_769 : decode cL_law 769 = .ok (.aload_n 1, 1) := by decide +kernel
theorem dL_law_770 : decode cL_law 770 = .ok (.iload 22, 2) := by decide +kernel
theorem dL_law_772 : decode cL_law 772 = .ok (.bipush 6, 2) := by decide +kernel
theorem dL_law_774 : decode cL_law 774 = .ok (.invokevirtual 79, 3) := by decide +kernel
theorem dL_law_777 : decode cL_law 777 = .ok (.goto 4, 3) := by decide +kernel
theorem dL_law_780 : decode cL_law 780 = .ok (.iconst 0, 1) := by decide +kernel
theorem dL_law_781 : decode cL_law 781 = .ok (.iadd, 1) := by decide +kernel
theorem dL_law_782 : decode cL_law 782 = .ok (.istore 20, 2) := by decide +kernel
theorem dL_law_784 : decode cL_law 784 = .ok (.iload 24, 2) := by decide +kernel
theorem dL_law_786 : decode cL_law 786 = .ok (.iconst 2, 1) := by decide +kernel
theorem dL_law_787 : decode cL_law 787 = .ok (.if_icmp .ne 12, 3) := by decide +kernel
theorem dL_law_790 : decode cL_law 790 = .ok (.aload 21, 2) := by decide +kernel
theorem dL_law_792 : decode cL_law 792 = .ok (.iload 25, 2) := by decide +kernel
theorem dL_law_794 : decode cL_law 794 = .ok (.dup2, 1) := by decide +kernel
theorem dL_law_795 : decode cL_law 795 = .ok (.iaload, 1) := by decide +kernel
theorem dL_law_796 : decode cL_law 796 = .ok (.iconst 1, 1) := by decide +kernel
theorem dL_law_797 : decode cL_law 797 = .ok (.iadd, 1) := by decide +kernel
theorem dL_law_798 : decode cL_law 798 = .ok (.iastore, 1) := by decide +kernel
theorem dL_law_799 : decode cL_law 799 = .ok (.iload 24, 2) := by decide +kernel
theorem dL_law_801 : decode cL_law 801 = .ok (.iconst 1, 1) := by decide +kernel
theorem dL_law_802 : decode cL_law 802 = .ok (.if_icmp .eq 9, 3) := by decide +kernel
theorem dL_law_805 : decode cL_law 805 = .ok (.iload 24, 2) := by decide +kernel
theorem dL_law_807 : decode cL_law 807 = .ok (.iconst 2, 1) := by decide +kernel
theorem dL_law_808 : decode cL_law 808 = .ok (.if_icmp .ne 7, 3) := by decide +kernel
theorem dL_law_811 : decode cL_law 811 = .ok (.iconst 1, 1) := by decide +kernel
theorem dL_law_812 : decode cL_law 812 = .ok (.goto 4, 3) := by decide +kernel
theorem dL_law_815 : decode cL_law 815 = .ok (.iconst 0, 1) := by decide +kernel
theorem dL_law_816 : decode cL_law 816 = .ok (.iload 25, 2) := by decide +kernel
theorem dL_law_818 : decode cL_law 818 = .ok (.ifCond .lt 7, 3) := by decide +kernel
theorem dL_law_821 : decode cL_law 821 = .ok (.iconst 1, 1) := by decide +kernel
theorem dL_law_822 : decode cL_law 822 = .ok (.goto 4, 3) := by decide +kernel
theorem dL_law_825 : decode cL_law 825 = .ok (.iconst 0, 1) := by decide +kernel
theorem dL_law_826 : decode cL_law 826 = .ok (.if_icmp .ne 134, 3) := by decide +kernel
theorem dL_law_829 : decode cL_law 829 = .ok (.iload 24, 2) := by decide +kernel
theorem dL_law_831 : decode cL_law 831 = .ok (.iconst 1, 1) := by decide +kernel
theorem dL_law_832 : decode cL_law 832 = .ok (.if_icmp .ne 7, 3) := by decide +kernel
theorem dL_law_835 : decode cL_law 835 = .ok (.iconst 1, 1) := by decide +kernel
theorem dL_law_836 : decode cL_law 836 = .ok (.goto 4, 3) := by decide +kernel
theorem dL_law_839 : decode cL_law 839 = .ok (.iconst 0, 1) := by decide +kernel
theorem dL_law_840 : decode cL_law 840 = .ok (.iload 26, 2) := by decide +kernel
theorem dL_law_842 : decode cL_law 842 = .ok (.ifCond .lt 7, 3) := by decide +kernel
theorem dL_law_845 : decode cL_law 845 = .ok (.iconst 1, 1) := by decide +kernel
theorem dL_law_846 : decode cL_law 846 = .ok (.goto 4, 3) := by decide +kernel
theorem dL_law_849 : decode cL_law 849 = .ok (.iconst 0, 1) := by decide +kernel
theorem dL_law_850 : decode cL_law 850 = .ok (.if_icmp .ne 110, 3) := by decide +kernel
theorem dL_law_853 : decode cL_law 853 = .ok (.iload 24, 2) := by decide +kernel
theorem dL_law_855 : decode cL_law 855 = .ok (.iconst 2, 1) := by decide +kernel
theorem dL_law_856 : decode cL_law 856 = .ok (.if_icmp .ne 7, 3) := by decide +kernel
theorem dL_law_859 : decode cL_law 859 = .ok (.iconst 1, 1) := by decide +kernel
theorem dL_law_860 : decode cL_law 860 = .ok (.goto 4, 3) := by decide +kernel
theorem dL_law_863 : decode cL_law 863 = .ok (.iconst 0, 1) := by decide +kernel
theorem dL_law_864 : decode cL_law 864 = .ok (.iload 27, 2) := by decide +kernel
theorem dL_law_866 : decode cL_law 866 = .ok (.ifCond .lt 7, 3) := by decide +kernel
theorem dL_law_869 : decode cL_law 869 = .ok (.iconst 1, 1) := by decide +kernel
theorem dL_law_870 : decode cL_law 870 = .ok (.goto 4, 3) := by decide +kernel
theorem dL_law_873 : decode cL_law 873 = .ok (.iconst 0, 1) := by decide +kernel
theorem dL_law_874 : decode cL_law 874 = .ok (.if_icmp .ne 86, 3) := by decide +kernel
theorem dL_law_877 : decode cL_law 877 = .ok (.iload 27, 2) := by decide +kernel
theorem dL_law_879 : decode cL_law 879 = .ok (.bipush 9, 2) := by decide +kernel
theorem dL_law_881 : decode cL_law 881 = .ok (.if_icmp .gt 79, 3) := by decide +kernel
theorem dL_law_884 : decode cL_law 884 = .ok (.iload 24, 2) := by decide +kernel
theorem dL_law_886 : decode cL_law 886 = .ok (.iconst 3, 1) := by decide +kernel
theorem dL_law_887 : decode cL_law 887 = .ok (.if_icmp .ne 7, 3) := by decide +kernel
theorem dL_law_890 : decode cL_law 890 = .ok (.iconst 1, 1) := by decide +kernel
theorem dL_law_891 : decode cL_law 891 = .ok (.goto 4, 3) := by decide +kernel
theorem dL_law_894 : decode cL_law 894 = .ok (.iconst 0, 1) := by decide +kernel
theorem dL_law_895 : decode cL_law 895 = .ok (.iload 23, 2) := by decide +kernel
theorem dL_law_897 : decode cL_law 897 = .ok (.iconst 2, 1) := by decide +kernel
theorem dL_law_898 : decode cL_law 898 = .ok (.if_icmp .ne 19, 3) := by decide +kernel
theorem dL_law_901 : decode cL_law 901 = .ok (.aload_n 1, 1) := by decide +kernel
theorem dL_law_902 : decode cL_law 902 = .ok (.iload 22, 2) := by decide +kernel
theorem dL_law_904 : decode cL_law 904 = .ok (.bipush 6, 2) := by decide +kernel
theorem dL_law_906 : decode cL_law 906 = .ok (.invokevirtual 79, 3) := by decide +kernel
theorem dL_law_909 : decode cL_law 909 = .ok (.iconst 1, 1) := by decide +kernel
theorem dL_law_910 : decode cL_law 910 = .ok (.if_icmp .ne 7, 3) := by decide +kernel
theorem dL_law_913 : decode cL_law 913 = .ok (.iconst 1, 1) := by decide +kernel
theorem dL_law_914 : decode cL_law 914 = .ok (.goto 4, 3) := by decide +kernel
theorem dL_law_917 : decode cL_law 917 = .ok (.iconst 0, 1) := by decide +kernel
theorem dL_law_918 : decode cL_law 918 = .ok (.if_icmp .ne 42, 3) := by decide +kernel
theorem dL_law_921 : decode cL_law 921 = .ok (.iload 23, 2) := by decide +kernel
theorem dL_law_923 : decode cL_law 923 = .ok (.iconst 2, 1) := by decide +kernel
theorem dL_law_924 : decode cL_law 924 = .ok (.if_icmp .ne 15, 3) := by decide +kernel
theorem dL_law_927 : decode cL_law 927 = .ok (.aload_n 1, 1) := by decide +kernel
theorem dL_law_928 : decode cL_law 928 = .ok (.iload 22, 2) := by decide +kernel
theorem dL_law_930 : decode cL_law 930 = .ok (.bipush 6, 2) := by decide +kernel
theorem dL_law_932 : decode cL_law 932 = .ok (.invokevirtual 79, 3) := by decide +kernel
theorem dL_law_935 : decode cL_law 935 = .ok (.iconst 1, 1) := by decide +kernel
theorem dL_law_936 : decode cL_law 936 = .ok (.if_icmp .gt 24, 3) := by decide +kernel
theorem dL_law_939 : decode cL_law 939 = .ok (.iload 24, 2) := by decide +kernel
theorem dL_law_941 : decode cL_law 941 = .ok (.iconst 1, 1) := by decide +kernel
theorem dL_law_942 : decode cL_law 942 = .ok (.if_icmp .ne 20, 3) := by decide +kernel
theorem dL_law_945 : decode cL_law 945 = .ok (.aload_n 1, 1) := by decide +kernel
theorem dL_law_946 : decode cL_law 946 = .ok (.iload 25, 2) := by decide +kernel
theorem dL_law_948 : decode cL_law 948 = .ok (.iconst 2, 1) := by decide +kernel
theorem dL_law_949 : decode cL_law 949 = .ok (.iload 26, 2) := by decide +kernel
theorem dL_law_951 : decode cL_law 951 = .ok (.iadd, 1) := by decide +kernel
theorem dL_law_952 : decode cL_law 952 = .ok (.invokevirtual 57, 3) := by decide +kernel
theorem dL_law_955 : decode cL_law 955 = .ok (.iload 22, 2) := by decide +kernel
theorem dL_law_957 : decode cL_law 957 = .ok (.if_icmp .eq 5, 3) := by decide +kernel
theorem dL_law_960 : decode cL_law 960 = .ok (.iconst 0, 1) := by decide +kernel
theorem dL_law_961 : decode cL_law 961 = .ok (.ireturn, 1) := by decide +kernel
theorem dL_law_962 : decode cL_law 962 = .ok (.iinc 22 1, 3) := by decide +kernel
theorem dL_law_965 : decode cL_law 965 = .ok (.goto (-290), 3) := by decide +kernel
theorem dL_law_968 : decode cL_law 968 = .ok (.iconst 0, 1) := by decide +kernel
theorem dL_law_969 : decode cL_law 969 = .ok (.istore 22, 2) := by decide +kernel
theorem dL_law_971 : decode cL_law 971 = .ok (.iconst 0, 1) := by decide +kernel
theorem dL_law_972 : decode cL_law 972 = .ok (.istore 23, 2) := by decide +kernel
theorem dL_law_974 : decode cL_law 974 = .ok (.iconst 0, 1) := by decide +kernel
theorem dL_law_975 : decode cL_law 975 = .ok (.istore 24, 2) := by decide +kernel
theorem dL_law_977 : decode cL_law 977 = .ok (.iconst 0, 1) := by decide +kernel
theorem dL_law_978 : decode cL_law 978 = .ok (.istore 25, 2) := by decide +kernel
theorem dL_law_980 : decode cL_law 980 = .ok (.iload 25, 2) := by decide +kernel
theorem dL_law_982 : decode cL_law 982 = .ok (.iload 4, 2) := by decide +kernel
theorem dL_law_984 : decode cL_law 984 = .ok (.if_icmp .ge 159, 3) := by decide +kernel
theorem dL_law_987 : decode cL_law 987 = .ok (.iconst 0, 1) := by decide +kernel
theorem dL_law_988 : decode cL_law 988 = .ok (.istore 26, 2) := by decide +kernel
theorem dL_law_990 : decode cL_law 990 = .ok (.iload 26, 2) := by decide +kernel
theorem dL_law_992 : decode cL_law 992 = .ok (.iconst 2, 1) := by decide +kernel
theorem dL_law_993 : decode cL_law 993 = .ok (.if_icmp .ge 102, 3) := by decide +kernel
theorem dL_law_996 : decode cL_law 996 = .ok (.aload_n 1, 1) := by decide +kernel
theorem dL_law_997 : decode cL_law 997 = .ok (.iload 25, 2) := by decide +kernel
theorem dL_law_999 : decode cL_law 999 = .ok (.iconst 2, 1) := by decide +kernel
theorem dL_law_1000 : decode cL_law 1000 = .ok (.iload 26, 2) := by decide +kernel
theorem dL_law_1002 : decode cL_law 1002 = .ok (.iadd, 1) := by decide +kernel
theorem dL_law_1003 : decode cL_law 1003 = .ok (.invokevirtual 57, 3) := by decide +kernel
theorem dL_law_1006 : decode cL_law 1006 = .ok (.istore 27, 2) := by decide +kernel
theorem dL_law_1008 : decode cL_law 1008 = .ok (.iload 22, 2) := by decide +kernel
theorem dL_law_1010 : decode cL_law 1010 = .ok (.iload 27, 2) := by decide +kernel
theorem dL_law_1012 : decode cL_law 1012 = .ok (.ifCond .ge 7, 3) := by decide +kernel
theorem dL_law_1015 : decode cL_law 1015 = .ok (.iconst 0, 1) := by decide +kernel
theorem dL_law_1016 : decode cL_law 1016 = .ok (.goto 4, 3) := by decide +kernel
theorem dL_law_1019 : decode cL_law 1019 = .ok (.iconst 1, 1) := by decide +kernel
theorem dL_law_1020 : decode cL_law 1020 = .ok (.iadd, 1) := by decide +kernel
theorem dL_law_1021 : decode cL_law 1021 = .ok (.istore 22, 2) := by decide +kernel
theorem dL_law_1023 : decode cL_law 1023 = .ok (.iload 27, 2) := by decide +kernel
theorem dL_law_1025 : decode cL_law 1025 = .ok (.ifCond .lt 38, 3) := by decide +kernel
theorem dL_law_1028 : decode cL_law 1028 = .ok (.aload_n 1, 1) := by decide +kernel
theorem dL_law_1029 : decode cL_law 1029 = .ok (.iload 27, 2) := by decide +kernel
theorem dL_law_1031 : decode cL_law 1031 = .ok (.iconst 1, 1) := by decide +kernel
theorem dL_law_1032 : decode cL_law 1032 = .ok (.invokevirtual 79, 3) := by decide +kernel
theorem dL_law_1035 : decode cL_law 1035 = .ok (.iconst 1, 1) := by decide +kernel
theorem dL_law_1036 : decode cL_law 1036 = .ok (.if_icmp .ne 51, 3) := by decide +kernel
theorem dL_law_1039 : decode cL_law 1039 = .ok (.aload_n 1, 1) := by decide +kernel
theorem dL_law_1040 : decode cL_law 1040 = .ok (.iload 27, 2) := by decide +kernel
theorem dL_law_1042 : decode cL_law 1042 = .ok (.iconst 2, 1) := by decide +kernel
theorem dL_law_1043 : decode cL_law 1043 = .ok (.invokevirtual 79, 3) := by decide +kernel
theorem dL_law_1046 : decode cL_law 1046 = .ok (.iload 25, 2) := by decide +kernel
theorem dL_law_1048 : decode cL_law 1048 = .ok (.if_icmp .ne 39, 3) := by decide +kernel
theorem dL_law_1051 : decode cL_law 1051 = .ok (.aload_n 1, 1) := by decide +kernel
theorem dL_law_1052 : decode cL_law 1052 = .ok (.iload 27, 2) := by decide +kernel
theorem dL_law_1054 : decode cL_law 1054 = .ok (.iconst 3, 1) := by decide +kernel
theorem dL_law_1055 : decode cL_law 1055 = .ok (.invokevirtual 79, 3) := by decide +kernel
theorem dL_law_1058 : decode cL_law 1058 = .ok (.iload 26, 2) := by decide +kernel
theorem dL_law_1060 : decode cL_law 1060 = .ok (.if_icmp .ne 27, 3) := by decide +kernel
theorem dL_law_1063 : decode cL_law 1063 = .ok (.aload 15, 2) := by decide +kernel
theorem dL_law_1065 : decode cL_law 1065 = .ok (.iload 25, 2) := by decide +kernel
theorem dL_law_1067 : decode cL_law 1067 = .ok (.aaload, 1) := by decide +kernel
theorem dL_law_1068 : decode cL_law 1068 = .ok (.iload 26, 2) := by decide +kernel
theorem dL_law_1070 : decode cL_law 1070 = .ok (.iaload, 1) := by decide +kernel
theorem dL_law_1071 : decode cL_law 1071 = .ok (.ifCond .lt 18, 3) := by decide +kernel
theorem dL_law_1074 : decode cL_law 1074 = .ok (.iload 27, 2) := by decide +kernel
theorem dL_law_1076 : decode cL_law 1076 = .ok (.aload 15, 2) := by decide +kernel
theorem dL_law_1078 : decode cL_law 1078 = .ok (.iload 25, 2) := by decide +kernel
theorem dL_law_1080 : decode cL_law 1080 = .ok (.aaload, 1) := by decide +kernel
theorem dL_law_1081 : decode cL_law 1081 = .ok (.iload 26, 2) := by decide +kernel
theorem dL_law_1083 : decode cL_law 1083 = .ok (.iaload, 1) := by decide +kernel
theorem dL_law_1084 : decode cL_law 1084 = .ok (.if_icmp .eq 5, 3) := by decide +kernel
theorem dL_law_1087 : decode cL_law 1087 = .ok (.iconst 0, 1) := by decide +kernel
theorem dL_law_1088 : decode cL_law 1088 = .ok (.ireturn, 1) := by decide +kernel
theorem dL_law_1089 : decode cL_law 1089 = .ok (.iinc 26 1, 3) := by decide +kernel
theorem dL_law_1092 : decode cL_law 1092 = .ok (.goto (-102), 3) := by decide +kernel
theorem dL_law_1095 : decode cL_law 1095 = .ok (.iload 23, 2) := by decide +kernel
theorem dL_law_1097 : decode cL_law 1097 = .ok (.aload_n 1, 1) := by decide +kernel
theorem dL_law_1098 : decode cL_law 1098 = .ok (.iload 25, 2) := by decide +kernel
theorem dL_law_1100 : decode cL_law 1100 = .ok (.bipush 6, 2) := by decide +kernel
theorem dL_law_1102 : decode cL_law 1102 = .ok (.invokevirtual 57, 3) := by decide +kernel
theorem dL_law_1105 : decode cL_law 1105 = .ok (.iadd, 1) := by decide +kernel
theorem dL_law_1106 : decode cL_law 1106 = .ok (.istore 23, 2) := by decide +kernel
theorem dL_law_1108 : decode cL_law 1108 = .ok (.iload 24, 2) := by decide +kernel
theorem dL_law_1110 : decode cL_law 1110 = .ok (.aload_n 1, 1) := by decide +kernel
theorem dL_law_1111 : decode cL_law 1111 = .ok (.iload 25, 2) := by decide +kernel
theorem dL_law_1113 : decode cL_law 1113 = .ok (.iconst 1, 1) := by decide +kernel
theorem dL_law_1114 : decode cL_law 1114 = .ok (.invokevirtual 57, 3) := by decide +kernel
theorem dL_law_1117 : decode cL_law 1117 = .ok (.iadd, 1) := by decide +kernel
theorem dL_law_1118 : decode cL_law 1118 = .ok (.istore 24, 2) := by decide +kernel
theorem dL_law_1120 : decode cL_law 1120 = .ok (.aload_n 1, 1) := by decide +kernel
theorem dL_law_1121 : decode cL_law 1121 = .ok (.iload 25, 2) := by decide +kernel
theorem dL_law_1123 : decode cL_law 1123 = .ok (.iconst 5, 1) := by decide +kernel
theorem dL_law_1124 : decode cL_law 1124 = .ok (.invokevirtual 57, 3) := by decide +kernel
theorem dL_law_1127 : decode cL_law 1127 = .ok (.aload 21, 2) := by decide +kernel
theorem dL_law_1129 : decode cL_law 1129 = .ok (.iload 25, 2) := by decide +kernel
theorem dL_law_1131 : decode cL_law 1131 = .ok (.iaload, 1) := by decide +kernel
theorem dL_law_1132 : decode cL_law 1132 = .ok (.if_icmp .eq 5, 3) := by decide +kernel
theorem dL_law_1135 : decode cL_law 1135 = .ok (.iconst 0, 1) := by decide +kernel
theorem dL_law_1136 : decode cL_law 1136 = .ok (.ireturn, 1) := by decide +kernel
theorem dL_law_1137 : decode cL_law 1137 = .ok (.iinc 25 1, 3) := by decide +kernel
theorem dL_law_1140 : decode cL_law 1140 = .ok (.goto (-160), 3) := by decide +kernel
theorem dL_law_1143 : decode cL_law 1143 = .ok (.iconst 0, 1) := by decide +kernel
theorem dL_law_1144 : decode cL_law 1144 = .ok (.istore 25, 2) := by decide +kernel
theorem dL_law_1146 : decode cL_law 1146 = .ok (.iload 25, 2) := by decide +kernel
theorem dL_law_1148 : decode cL_law 1148 = .ok (.iconst 4, 1) := by decide +kernel
theorem dL_law_1149 : decode cL_law 1149 = .ok (.if_icmp .ge 47, 3) := by decide +kernel
theorem dL_law_1152 : decode cL_law 1152 = .ok (.aload_n 1, 1) := by decide +kernel
theorem dL_law_1153 : decode cL_law 1153 = .ok (.iload 25, 2) := by decide +kernel
theorem dL_law_1155 : decode cL_law 1155 = .ok (.ifCond .ne 7, 3) := by decide +kernel
theorem dL_law_1158 : decode cL_law 1158 = .ok (.iconst 5, 1) := by decide +kernel
theorem dL_law_1159 : decode cL_law 1159 = .ok (.goto 18, 3) := by decide +kernel
theorem dL_law_1162 : decode cL_law 1162 = .ok (.iload 25, 2) := by decide +kernel
theorem dL_law_1164 : decode cL_law 1164 = .ok (.iconst 3, 1) := by decide +kernel
theorem dL_law_1165 : decode cL_law 1165 = .ok (.if_icmp .ne 8, 3) := by decide +kernel
theorem dL_law_1168 : decode cL_law 1168 = .ok (.bipush 6, 2) := by decide +kernel
theorem dL_law_1170 : decode cL_law 1170 = .ok (.goto 7, 3) := by decide +kernel
theorem dL_law_1173 : decode cL_law 1173 = .ok (.iconst 2, 1) := by decide +kernel
theorem dL_law_1174 : decode cL_law 1174 = .ok (.iload 25, 2) := by decide +kernel
theorem dL_law_1176 : decode cL_law 1176 = .ok (.iadd, 1) := by decide +kernel
theorem dL_law_1177 : decode cL_law 1177 = .ok (.invokevirtual 54, 3) := by decide +kernel
theorem dL_law_1180 : decode cL_law 1180 = .ok (.aload 17, 2) := by decide +kernel
theorem dL_law_1182 : decode cL_law 1182 = .ok (.iload 25, 2) := by decide +kernel
theorem dL_law_1184 : decode cL_law 1184 = .ok (.iaload, 1) := by decide +kernel
theorem dL_law_1185 : decode cL_law 1185 = .ok (.if_icmp .eq 5, 3) := by decide +kernel
theorem dL_law_1188 : decode cL_law 1188 = .ok (.iconst 0, 1) := by decide +kernel
theorem dL_law_1189 : decode cL_law 1189 = .ok (.ireturn, 1) := by decide +kernel
theorem dL_law_1190 : decode cL_law 1190 = .ok (.iinc 25 1, 3) := by decide +kernel
theorem dL_law_1193 : decode cL_law 1193 = .ok (.goto (-47), 3) := by decide +kernel
theorem dL_law_1196 : decode cL_law 1196 = .ok (.iload 22, 2) := by decide +kernel
theorem dL_law_1198 : decode cL_law 1198 = .ok (.aload 17, 2) := by decide +kernel
theorem dL_law_1200 : decode cL_law 1200 = .ok (.iconst 1, 1) := by decide +kernel
theorem dL_law_1201 : decode cL_law 1201 = .ok (.iaload, 1) := by decide +kernel
theorem dL_law_1202 : decode cL_law 1202 = .ok (.if_icmp .ne 65, 3) := by decide +kernel
theorem dL_law_1205 : decode cL_law 1205 = .ok (.iload 18, 2) := by decide +kernel
theorem dL_law_1207 : decode cL_law 1207 = .ok (.iload 23, 2) := by decide +kernel
theorem dL_law_1209 : decode cL_law 1209 = .ok (.iload 19, 2) := by decide +kernel
theorem dL_law_1211 : decode cL_law 1211 = .ok (.iadd, 1) := by decide +kernel
theorem dL_law_1212 : decode cL_law 1212 = .ok (.aload 17, 2) := by decide +kernel
theorem dL_law_1214 : decode cL_law 1214 = .ok (.iconst 2, 1) := by decide +kernel
theorem dL_law_1215 : decode cL_law 1215 = .ok (.iaload, 1) := by decide +kernel
theorem dL_law_1216 : decode cL_law 1216 = .ok (.iadd, 1) := by decide +kernel
theorem dL_law_1217 : decode cL_law 1217 = .ok (.if_icmp .ne 50, 3) := by decide +kernel
theorem dL_law_1220 : decode cL_law 1220 = .ok (.iload 18, 2) := by decide +kernel
theorem dL_law_1222 : decode cL_law 1222 = .ok (.aload_n 1, 1) := by decide +kernel
theorem dL_law_1223 : decode cL_law 1223 = .ok (.bipush 8, 2) := by decide +kernel
theorem dL_law_1225 : decode cL_law 1225 = .ok (.invokevirtual 54, 3) := by decide +kernel
theorem dL_law_1228 : decode cL_law 1228 = .ok (.if_icmp .ne 39, 3) := by decide +kernel
theorem dL_law_1231 : decode cL_law 1231 = .ok (.iload 19, 2) := by decide +kernel
theorem dL_law_1233 : decode cL_law 1233 = .ok (.aload_n 1, 1) := by decide +kernel
theorem dL_law_1234 : decode cL_law 1234 = .ok (.bipush 7, 2) := by decide +kernel
theorem dL_law_1236 : decode cL_law 1236 = .ok (.invokevirtual 54, 3) := by decide +kernel
theorem dL_law_1239 : decode cL_law 1239 = .ok (.if_icmp .ne 28, 3) := by decide +kernel
theorem dL_law_1242 : decode cL_law 1242 = .ok (.iload 24, 2) := by decide +kernel
theorem dL_law_1244 : decode cL_law 1244 = .ok (.iload 20, 2) := by decide +kernel
theorem dL_law_1246 : decode cL_law 1246 = .ok (.if_icmp .ne 21, 3) := by decide +kernel
theorem dL_law_1249 : decode cL_law 1249 = .ok (.aload_n 1, 1) := by decide +kernel
theorem dL_law_1250 : decode cL_law 1250 = .ok (.invokevirtual 82, 3) := by decide +kernel
theorem dL_law_1253 : decode cL_law 1253 = .ok (.iload 18, 2) := by decide +kernel
theorem dL_law_1255 : decode cL_law 1255 = .ok (.i2d, 1) := by decide +kernel
theorem dL_law_1256 : decode cL_law 1256 = .ok (.aload_n 1, 1) := by decide +kernel
theorem dL_law_1257 : decode cL_law 1257 = .ok (.iconst 0, 1) := by decide +kernel
theorem dL_law_1258 : decode cL_law 1258 = .ok (.invokevirtual 54, 3) := by decide +kernel
theorem dL_law_1261 : decode cL_law 1261 = .ok (.i2d, 1) := by decide +kernel
theorem dL_law_1262 : decode cL_law 1262 = .ok (.ddiv, 1) := by decide +kernel
theorem dL_law_1263 : decode cL_law 1263 = .ok (.dcmp .l, 1) := by decide +kernel
theorem dL_law_1264 : decode cL_law 1264 = .ok (.ifCond .eq 5, 3) := by decide +kernel
theorem dL_law_1267 : decode cL_law 1267 = .ok (.iconst 0, 1) := by decide +kernel
theorem dL_law_1268 : decode cL_law 1268 = .ok (.ireturn, 1) := by decide +kernel
theorem dL_law_1269 : decode cL_law 1269 = .ok (.iinc 2 1, 3) := by decide +kernel
theorem dL_law_1272 : decode cL_law 1272 = .ok (.goto (-1265), 3) := by decide +kernel
theorem dL_law_1275 : decode cL_law 1275 = .ok (.iconst 1, 1) := by decide +kernel
theorem dL_law_1276 : decode cL_law 1276 = .ok (.ireturn, 1) := by decide +kernel
end
section
/-! ===== the world of this claim: rows of ints at fixed places ===== -/
/-- a memory: part, kind, number, place -/
abbrev Mem : Type := Nat → Nat → Nat → Nat → Int32
abbrev Sg : Type := Nat → Nat → Nat → Int32
abbrev Lf : Type := Nat → Int64
/-- how fields lie, where each cell is, the arrays' types, the base -/
abbrev Cx : Type := va_G × (Nat → Nat → Nat → Nat) × (Nat → ClassId) × Nat
def celR (a : Nat → Nat → Nat) (cc : Nat → ClassId) (k i : Nat) (f : Nat → Int32) : va_E := match k with
  | 0 => .inr (2, [.ref (a 1 0), .ref (a 7 0), .int (f 2), .int (f 3), .int (f 4)])
  | 1 => .inl (cc 1, 4, .inr (.inr (.inr (.inr (fun j => some (a 2 j))))))
  | 2 => .inr (0, [.ref (a 3 i), .ref (a 6 i), .int (f 2), .int (f 3), .int (f 4)])
  | 3 => .inr (1, [.ref (a 4 i), .ref (a 5 i), .int (f 2)])
  | 4 => .inl (cc 0, 8, .inl f)
  | 5 => .inl (cc 0, 8, .inl f)
  | 6 => .inl (cc 0, 2, .inl f)
  | 7 => .inl (cc 2, 12, .inr (.inr (.inr (.inr (fun j => some (a 8 j))))))
  | _ => .inr (3, [.int (f 0), .int (f 1), .int (f 2), .int (f 3), .int (f 4), .int (f 5), .int (f 6), .int (f 7)])
def celD (X : Cx) (lf : Lf) (r k i : Nat) (f : Nat → Int32) : va_E := match r with
  | 0 => celR (X.2.1 0) X.2.2.1 k i f
  | 1 => celR (X.2.1 1) X.2.2.1 k i f
  | _ => .inr (4, [.ref (X.2.1 0 0 0), .ref (X.2.1 1 0 0)])
theorem celD_R {X : Cx} {lf : Lf} {r k i : Nat} {f : Nat → Int32} (h : r < 2) : celD X lf r k i f = celR (X.2.1 r) X.2.2.1 k i f := by
  rcases (show r = 0 ∨ r = 1 by omega) with rfl | rfl <;> rfl
abbrev Id3 : Type := Nat × Nat × Nat
def idR (r : Nat) : List Id3 := [(r, 0, 0), (r, 1, 0), (r, 7, 0), (r, 2, 0), (r, 3, 0), (r, 4, 0), (r, 5, 0), (r, 6, 0), (r, 2, 1), (r, 3, 1), (r, 4, 1), (r, 5, 1), (r, 6, 1), (r, 2, 2), (r, 3, 2), (r, 4, 2), (r, 5, 2), (r, 6, 2), (r, 2, 3), (r, 3, 3), (r, 4, 3), (r, 5, 3), (r, 6, 3), (r, 8, 0), (r, 8, 1), (r, 8, 2), (r, 8, 3), (r, 8, 4), (r, 8, 5), (r, 8, 6), (r, 8, 7), (r, 8, 8), (r, 8, 9), (r, 8, 10), (r, 8, 11)]
def ids : List Id3 := idR 0 ++ (idR 1 ++ [(5, 0, 0)])
/-- how many cells of a kind a ring has -/
def nk (k : Nat) : Nat := match k with
  | 0 => 1
  | 1 => 1
  | 7 => 1
  | 8 => 12
  | _ => 4
theorem ids_nd : ids.Nodup := by decide +kernel
theorem id_R0 : ((List.range 2).all fun r => (List.range 9).all fun k => (List.range (nk k)).all fun i => decide ((r, k, i) ∈ ids)) = true := by decide +kernel
theorem id_R {r : Nat} (hr : r < 2) {k : Nat} (hk : k < 9) {i : Nat} (hi : i < nk k) : (r, k, i) ∈ ids := of_decide_eq_true (List.all_eq_true.mp (List.all_eq_true.mp (List.all_eq_true.mp id_R0 r (List.mem_range.mpr hr)) k (List.mem_range.mpr hk)) i (List.mem_range.mpr hi))
theorem id_5 : (5, 0, 0) ∈ ids := by decide +kernel
/-- an address of a place -/
def xad (X : Cx) (q : Id3) : Nat := X.2.1 q.1 q.2.1 q.2.2
def wl (X : Cx) (M : Mem) (lf : Lf) : va_W := ids.map (fun q => (xad X q, celD X lf q.1 q.2.1 q.2.2 (M q.1 q.2.1 q.2.2)))
/-- what a context keeps to -/
def Cxok (X : Cx) : Prop := (∀ p, p ∈ ids → ∀ q, q ∈ ids → xad X p = xad X q → p = q) ∧ ∀ p, p ∈ ids → X.2.2.2 ≤ xad X p
/-- which cells a method may change: the world's, and new ones -/
def xA (X : Cx) (sz : Nat) : Nat → Prop := fun q => (∃ p, p ∈ ids ∧ q = xad X p) ∨ sz ≤ q
def xB (X : Cx) : Nat → Prop := fun q => X.2.2.2 ≤ q
theorem xA_mono {X : Cx} {a b : Nat} (h : a ≤ b) (q : Nat) (hq : xA X b q) : xA X a q := by
  rcases hq with hq | hq
  · exact Or.inl hq
  · exact Or.inr (Nat.le_trans h hq)
theorem xA_in {X : Cx} {sz r k i : Nat} (h : (r, k, i) ∈ ids) : xA X sz (X.2.1 r k i) := Or.inl ⟨_, h, rfl⟩
theorem xA_sz {X : Cx} {sz q : Nat} (h : sz ≤ q) : xA X sz q := Or.inr h
theorem xA_B {X : Cx} (hX : Cxok X) {sz : Nat} (hb : X.2.2.2 ≤ sz) (q : Nat) (h : xA X sz q) : xB X q := by
  rcases h with ⟨p, hp, rfl⟩ | h
  · exact hX.2 p hp
  · exact Nat.le_trans hb h
-- memories
def uS (σ : Sg) (k i : Nat) (f : Nat → Int32) : Sg := fun a b => if a = k ∧ b = i then f else σ a b
def uC (M : Mem) (r : Nat) (σ : Sg) : Mem := fun a => if a = r then σ else M a
def u3 (σ : Sg) (k i j : Nat) (v : Int32) : Sg := uS σ k i (upd (σ k i) j v)
theorem uC_self (M : Mem) (r : Nat) : uC M r (M r) = M := by
  funext a
  unfold uC
  by_cases h : a = r
  · rw [if_pos h, h]
  · rw [if_neg h]
theorem uC_at (M : Mem) (r : Nat) (σ : Sg) : uC M r σ r = σ := if_pos rfl
theorem uC_ne {M : Mem} {r a : Nat} {σ : Sg} (h : a ≠ r) : uC M r σ a = M a := if_neg h
theorem uC_uC (M : Mem) (r : Nat) (σ τ : Sg) : uC (uC M r σ) r τ = uC M r τ := by
  funext a
  unfold uC
  by_cases h : a = r
  · rw [if_pos h, if_pos h]
  · rw [if_neg h, if_neg h, if_neg h]
theorem uC_comm (M : Mem) {r t : Nat} (h : r ≠ t) (σ τ : Sg) : uC (uC M r σ) t τ = uC (uC M t τ) r σ := by
  funext a
  unfold uC
  by_cases h1 : a = t
  · subst h1
    rw [if_pos rfl, if_neg (Ne.symm h), if_pos rfl]
  · rw [if_neg h1, if_neg h1]
theorem uS_at (σ : Sg) (k i : Nat) (f : Nat → Int32) : uS σ k i f k i = f := if_pos ⟨rfl, rfl⟩
theorem uS_ne {σ : Sg} {k i a b : Nat} {f : Nat → Int32} (h : ¬ (a = k ∧ b = i)) : uS σ k i f a b = σ a b := if_neg h
theorem u3_eq (σ : Sg) (k i j : Nat) (v : Int32) (a b c : Nat) : u3 σ k i j v a b c = if a = k ∧ b = i ∧ c = j then v else σ a b c := by
  unfold u3 uS upd
  by_cases h : a = k ∧ b = i
  · rw [if_pos h]
    obtain ⟨h1, h2⟩ := h
    subst h1; subst h2
    by_cases h3 : c = j
    · rw [if_pos h3, if_pos ⟨rfl, rfl, h3⟩]
    · rw [if_neg h3, if_neg (fun z => h3 z.2.2)]
  · rw [if_neg h, if_neg (fun z => h ⟨z.1, z.2.1⟩)]
theorem u3_at (σ : Sg) (k i j : Nat) (v : Int32) : u3 σ k i j v k i j = v := by rw [u3_eq, if_pos ⟨rfl, rfl, rfl⟩]
theorem u3_ne {σ : Sg} {k i j a b c : Nat} {v : Int32} (h : ¬ (a = k ∧ b = i ∧ c = j)) : u3 σ k i j v a b c = σ a b c := by rw [u3_eq, if_neg h]
theorem u3_uC (M : Mem) (r : Nat) (σ : Sg) (k i : Nat) (f : Nat → Int32) : uC (uC M r σ) r (uS ((uC M r σ) r) k i f) = uC M r (uS σ k i f) := by rw [uC_uC, uC_at]
theorem wl_get {X : Cx} {M : Mem} {lf : Lf} {ex : va_W} {r k i : Nat} (h : (r, k, i) ∈ ids) : ∃ q0 : Nat, ids[q0]? = some (r, k, i) ∧ (wl X M lf ++ ex)[q0]? = some (X.2.1 r k i, celD X lf r k i (M r k i)) := by
  obtain ⟨q0, h0⟩ := List.getElem?_of_mem h
  refine ⟨q0, h0, ?_⟩
  have hl : q0 < (wl X M lf).length := by
    unfold wl
    rw [List.length_map]
    exact (List.getElem?_eq_some_iff.mp h0).1
  rw [List.getElem?_append_left hl]
  unfold wl
  rw [List.getElem?_map, h0]
  rfl
theorem wl_set {X : Cx} {M : Mem} {lf : Lf} {ex : va_W} {r k i q0 : Nat} (h0 : ids[q0]? = some (r, k, i)) (f : Nat → Int32) :
    (wl X M lf ++ ex).set q0 (X.2.1 r k i, celD X lf r k i f) = wl X (uC M r (uS (M r) k i f)) lf ++ ex := by
  have hl0 : q0 < ids.length := (List.getElem?_eq_some_iff.mp h0).1
  have hl : q0 < (wl X M lf).length := by
    unfold wl
    rw [List.length_map]
    exact hl0
  rw [List.set_append_left _ _ hl]
  congr 1
  apply List.ext_getElem?
  intro j
  unfold wl
  by_cases hj : j = q0
  · subst hj
    rw [List.getElem?_set_self (by rw [List.length_map]; exact hl0), List.getElem?_map, h0]
    show some _ = some (xad X (r, k, i), celD X lf r k i (uC M r (uS (M r) k i f) r k i))
    rw [uC_at, uS_at]
    rfl
  · rw [List.getElem?_set_ne (Ne.symm hj), List.getElem?_map, List.getElem?_map]
    cases hq : ids[j]? with
    | none => rfl
    | some q =>
      obtain ⟨a, b, c⟩ := q
      have hne : ¬ (a = r ∧ b = k ∧ c = i) := by
        rintro ⟨rfl, rfl, rfl⟩
        exact hj ((List.getElem?_inj (List.getElem?_eq_some_iff.mp hq).1 ids_nd).mp (hq.trans h0.symm))
      show some (xad X (a, b, c), celD X lf a b c (M a b c)) = some (xad X (a, b, c), celD X lf a b c (uC M r (uS (M r) k i f) a b c))
      have e : uC M r (uS (M r) k i f) a b c = M a b c := by
        by_cases ha : a = r
        · subst ha
          rw [uC_at]
          exact uS_ne (fun z => hne ⟨rfl, z.1, z.2⟩)
        · rw [uC_ne ha]
      rw [e]
theorem wl_addr {X : Cx} {M : Mem} {lf : Lf} {j : Nat} {q : Nat × va_E} (h : (wl X M lf)[j]? = some q) : ∃ p, ids[j]? = some p ∧ q.1 = xad X p := by
  unfold wl at h
  rw [List.getElem?_map] at h
  cases hp : ids[j]? with
  | none => rw [hp] at h; cases h
  | some p => rw [hp] at h; cases h; exact ⟨p, rfl, rfl⟩
/-- the world's addresses are apart -/
theorem wl_D {X : Cx} (hX : Cxok X) (M : Mem) (lf : Lf) (sz : Nat) : va_D (xA X sz) (wl X M lf) := by
  refine ⟨fun i j p q hi hj hpq => ?_, fun k q hk => ?_⟩
  · obtain ⟨a, ha, e1⟩ := wl_addr hi
    obtain ⟨b, hb, e2⟩ := wl_addr hj
    have hab : a = b := hX.1 a (List.mem_of_getElem? ha) b (List.mem_of_getElem? hb) (by rw [← e1, ← e2]; exact hpq)
    subst hab
    exact (List.getElem?_inj (List.getElem?_eq_some_iff.mp ha).1 ids_nd).mp (ha.trans hb.symm)
  · obtain ⟨p, hp, e⟩ := wl_addr hk
    exact Or.inl ⟨p, List.mem_of_getElem? hp, e⟩
/-- with further cells beside it -/
def exOk (X : Cx) (sz : Nat) (ex : va_W) : Prop := va_D (fun q => sz ≤ q) ex ∧ ∀ (k : Nat) (q : Nat × va_E), ex[k]? = some q → ∀ p, p ∈ ids → q.1 ≠ xad X p
theorem exOk_nil {X : Cx} {sz : Nat} : exOk X sz [] := ⟨⟨fun i j p q h => by simp at h, fun k q h => by simp at h⟩, fun k q h => by simp at h⟩
theorem wl_DE {X : Cx} (hX : Cxok X) (M : Mem) (lf : Lf) {sz : Nat} {ex : va_W} (he : exOk X sz ex) : va_D (xA X sz) (wl X M lf ++ ex) := by
  refine va_D.app (wl_D hX M lf sz) (he.1.weaken (fun _ _ _ h => Or.inr h)) (fun i j p q hi hj => ?_)
  obtain ⟨a, ha, e1⟩ := wl_addr hi
  rw [e1]
  exact fun z => he.2 j q hj a (List.mem_of_getElem? ha) z.symm
end
section
/-! ===== what stays through all calls: the tables' words, nest links, texts, two statics ===== -/
def wAll : List Cond := lw_tbl.filter goodWord
theorem wAll_in {w : Cond} {i : Nat} (h : lw_tbl[i]? = some w) (hg : goodWord w = true) : w ∈ wAll := List.mem_filter.mpr ⟨List.mem_of_getElem? h, hg⟩
theorem wAll_tbl {w : Cond} (h : w ∈ wAll) : w ∈ lw_tbl := (List.mem_filter.mp h).1
theorem wAll_good {w : Cond} (h : w ∈ wAll) : goodWord w = true := (List.mem_filter.mp h).2
abbrev wsc (y : MethodName) (cc : ByteArray) (n : Nat) (ret : Option FieldType) : List Cond := .code y cc n ret :: wAll
theorem good_c {c0 : Cond} (h : c0 ∈ wAll) : GoodIn wAll (c0 :: wAll) := fun w hw => by
  rcases List.mem_cons.mp hw with rfl | hw
  · exact ⟨h, good_of_word (wAll_good h)⟩
  · exact ⟨hw, good_of_word (wAll_good hw)⟩
theorem good_V {own C : String} {idx : Nat} {y : MethodName} {ws : List Cond} (h1 : Cond.methodLink own idx y ∈ wAll) (h2 : Cond.instanceMethod y ∈ wAll) (h3 : Cond.selects C y y ∈ wAll) (h4 : Cond.initialized C ∈ wAll) (hG : GoodIn wAll ws) : GoodIn wAll (wsV own idx C y ws) := by
  intro w hw
  unfold wsV at hw
  rcases List.mem_append.mp hw with hw | hw
  · have : w ∈ wAll := by
      rcases List.mem_cons.mp hw with rfl | hw
      · exact h1
      · rcases List.mem_cons.mp hw with rfl | hw
        · exact h2
        · rcases List.mem_cons.mp hw with rfl | hw
          · exact h3
          · rcases List.mem_cons.mp hw with rfl | hw
            · exact h4
            · cases hw
    exact ⟨this, good_of_word (wAll_good this)⟩
  · exact hG w hw
theorem good_S {own : String} {idx : Nat} {y : MethodName} {ws : List Cond} (h1 : Cond.methodLink own idx y ∈ wAll) (h2 : Cond.static y ∈ wAll) (h4 : Cond.initialized own ∈ wAll) (hG : GoodIn wAll ws) : GoodIn wAll (wsS own idx y ws) := by
  intro w hw
  unfold wsS at hw
  rcases List.mem_append.mp hw with hw | hw
  · have : w ∈ wAll := by
      rcases List.mem_cons.mp hw with rfl | hw
      · exact h1
      · rcases List.mem_cons.mp hw with rfl | hw
        · exact h2
        · rcases List.mem_cons.mp hw with rfl | hw
          · exact h4
          · cases hw
    exact ⟨this, good_of_word (wAll_good this)⟩
  · exact hG w hw
def isNest : Cond → Bool
  | .fieldLinkNest .. => true
  | .methodLinkNest .. => true
  | _ => false
def nestW : List Cond := tables_1.filter isNest
theorem nest_in {w : Cond} {i : Nat} (h : tables_1[i]? = some w) (hg : isNest w = true) : w ∈ nestW := List.mem_filter.mpr ⟨List.mem_of_getElem? h, hg⟩
theorem nest_warm {w : Cond} (hg : isNest w = true) {s U : State} (hW : s.WarmedH U.vm) (h : va_Nw w s) : va_Nw w U := by
  cases w <;> first | exact va_Nw.warmF hW h | exact va_Nw.warmM hW h | cases hg
theorem nest_tab {w : Cond} (hg : isNest w = true) : w.onTables = true := by
  cases w <;> first | rfl | cases hg
/-- the texts that the class throws: their places in its pool -/
def strW : List (Nat × String) := [(21, "skill is not 1 to 9"), (32, "there are 4 jugglers"), (43, "length is not 1 to 8"), (48, "heights has not at most length digits"), (83, "kind is not 0 to 2"), (88, "there are 12 things"), (98, "hand is not 0 or 1"), (110, "the thing is not on the floor"), (115, "the hand has a thing"), (185, "there is no such juggler"), (187, "there is no such place"), (192, "there is no such thing"), (194, "what is none of the answers"), (196, "beats is too few or too many")]
def exN : List String := ["java/lang/RuntimeException", "java/lang/Exception"]
def exL : List Cond := vx_atS RX4 23 "java/lang/IllegalArgumentException" exN ++ (vx_atS RX4 34 "java/lang/IllegalStateException" exN ++ vx_atS RX4 100 "java/lang/IndexOutOfBoundsException" exN)
def isBad : Cond → Bool
  | .castable .. => true
  | .declares .. => true
  | _ => false
def badW : List Cond := tables_1.filter isBad
theorem bad_in {w : Cond} {i : Nat} (h : tables_1[i]? = some w) (hg : isBad w = true) : w ∈ badW := List.mem_filter.mpr ⟨List.mem_of_getElem? h, hg⟩
theorem bad_warm0 {w : Cond} (hg : isBad w = true) {s U : State} (hW : s.WarmedH U.vm) (h : va_Nw w s) : va_Nw w U := by
  cases w <;> first | exact va_Nw.warmC hW h | exact va_Nw.warmD hW h | cases hg
theorem bad_tab0 {w : Cond} (hg : isBad w = true) : w.onTables = true := by
  cases w <;> first | rfl | cases hg
theorem bad_warm (w : Cond) (hw : w ∈ badW) {s U : State} (hW : s.WarmedH U.vm) (h : va_Nw w s) : va_Nw w U := bad_warm0 (List.mem_filter.mp hw).2 hW h
theorem bad_tab (w : Cond) (hw : w ∈ badW) : w.onTables = true := bad_tab0 (List.mem_filter.mp hw).2
theorem exL_kind : exL.all (fun w => goodWord w || isBad w) = true := by decide +kernel
theorem exL_tbl : exL.all (fun w => decide (w ∈ lw_tbl)) = true := by decide +kernel
theorem exL_bad : (exL.filter isBad).all (fun w => decide (w ∈ tables_1)) = true := by decide +kernel
theorem exL_hat {args : Array Value} {s : State} (h1 : ∀ w, w ∈ wAll → w.before args s = true) (h2 : ∀ w, w ∈ badW → va_Nw w s) : ∀ w, w ∈ exL → w.before args s = true := by
  intro w hw
  have hk := List.all_eq_true.mp exL_kind w hw
  simp only [Bool.or_eq_true] at hk
  rcases hk with hk | hk
  · exact h1 w (List.mem_filter.mpr ⟨of_decide_eq_true (List.all_eq_true.mp exL_tbl w hw), hk⟩)
  · exact va_Nw.use (bad_tab0 hk) (h2 w (List.mem_filter.mpr ⟨of_decide_eq_true (List.all_eq_true.mp exL_bad w (List.mem_filter.mpr ⟨hw, hk⟩)), hk⟩))
theorem exL_ot : exL.all vx_ot = true := by decide +kernel
end
section
/-! ===== the judgement over memories: V, and a row for each instruction ===== -/
def tysX (X : Cx) : List (ClassId × FieldType) := [(X.2.2.1 0, .int), (X.2.2.1 1, .object "HammerEggs$Juggler"), (X.2.2.1 2, .object "HammerEggs$Thing"), (X.2.2.1 3, .array .int)]
/-- which exceptions are not which -/
def ncW : List (String × String) := [("java/lang/IllegalStateException", "java/lang/IllegalArgumentException"), ("java/lang/IllegalArgumentException", "java/lang/IndexOutOfBoundsException"), ("java/lang/IllegalStateException", "java/lang/IndexOutOfBoundsException"), ("java/lang/IndexOutOfBoundsException", "java/lang/IllegalArgumentException")]
/-- what stays -/
def Kz (X : Cx) (U : State) : Prop := X.2.2.2 ≤ U.heap.size ∧ va_K X.1 vwCl (tysX X) U ∧ (∀ w, w ∈ nestW → va_Nw w U) ∧ (∀ q, q ∈ strW → ∃ sa, vk_R RX4 q.1 q.2 sa U) ∧ (∀ w, w ∈ badW → va_Nw w U) ∧ (∀ q, q ∈ ncW → va_Nc q.1 q.2 U) ∧ vx_Zq Bundle.tN "UNASSIGNED_STACK" Bundle.steD (xB X) U U.heap ∧ vx_Zq Bundle.tN "SUPPRESSED_SENTINEL" Bundle.listD (xB X) U U.heap
theorem Kz_same {X : Cx} {u U : State} (hv : U.vm = u.vm) (hh : U.heap = u.heap) (h : Kz X u) : Kz X U := by
  obtain ⟨h1, h2, h3, h4, h5, h8, h6, h7⟩ := h
  have ha : u.vm.Alike U.vm := by rw [hv]; exact Vm.Alike.refl _
  refine ⟨by rw [hh]; exact h1, va_K.moved ha h2, fun w hw => va_Nw.same (nest_tab (List.mem_filter.mp hw).2) hv.symm (h3 w hw), fun q hq => ?_, fun w hw => va_Nw.same (bad_tab w hw) hv.symm (h5 w hw), fun q hq => va_Nc.moved ha (h8 q hq), ?_, ?_⟩
  · obtain ⟨sa, hs⟩ := h4 q hq
    exact ⟨sa, vk_R.same hv hs⟩
  · rw [hh]; exact vx_Zq.moved ha h6
  · rw [hh]; exact vx_Zq.moved ha h7
theorem Kz_pass {X : Cx} (hX : Cxok X) {s U : State} {locs : List Loc} (hW : s.WarmedH U.vm) (hS : va_S (xA X s.heap.size) s.heap U.heap locs) (h : Kz X s) : Kz X U := by
  obtain ⟨h1, h2, h3, h4, h5, h8, h6, h7⟩ := h
  have hk : ∀ a : Nat, a < s.heap.size → ¬ xB X a → U.heap[a]? = s.heap[a]? := fun a ha hn => hS.2.1 a ha (fun z => hn (xA_B hX h1 a z))
  refine ⟨Nat.le_trans h1 hS.1, va_K.moved hW.alike h2, fun w hw => nest_warm (List.mem_filter.mp hw).2 hW (h3 w hw), fun q hq => ?_, fun w hw => bad_warm w hw hW (h5 w hw), fun q hq => va_Nc.moved hW.alike (h8 q hq), ?_, ?_⟩
  · obtain ⟨sa, hs⟩ := h4 q hq
    exact ⟨sa, vk_R.warm hW hs⟩
  · exact vx_Zq.kept (vx_Zq.moved hW.alike h6) hk
  · exact vx_Zq.kept (vx_Zq.moved hW.alike h7) hk
/-- what a body knows of its machine -/
abbrev Fx (p : Program) (l : Launch) (s : State) (m : MethodId) (args : Array Value) (meth : Method) (c : Code) (cc : ByteArray) (nL : Nat) (own : String) (X : Cx) : Prop :=
  CallFix p m c cc nL s args wAll own ∧ Kz X s ∧ Cxok X ∧ meth.locks = false ∧ l.stackTraces = false
def V (p : Program) (l : Launch) (e : Env) (R : Room) (s : State) (m : MethodId) (args : Array Value) (below : List Frame) (meth : Method) (c : Code) (Q : State → Prop) (X : Cx) (nL : Nat) (ex : va_W) (M : Mem) (lf : Lf) (cells slots pc : Nat) (lv : List (Nat × Value)) (st : List Value) : Prop :=
  ∀ (H : Heap) (locs : List Loc) (ls : Array Slot), va_P X.1 vwCl (wl X M lf ++ ex) H → exOk X s.heap.size ex → va_S (xA X s.heap.size) s.heap H locs → lv_has ls nL lv → W p l e R s m args below meth c H locs cells slots Q (F0 m pc ls st)
section VR
variable {p : Program} {l : Launch} {e : Env} {R : Room} {s : State} {m : MethodId} {args : Array Value} {below : List Frame} {meth : Method} {c : Code} {Q : State → Prop} {X : Cx} {nL : Nat} {ex : va_W} {M : Mem} {lf : Lf} {cells slots pc : Nat} {lv : List (Nat × Value)} {st : List Value} {cc : ByteArray} {own : String}
theorem v_of {pc' : Nat} {st' : List Value} (h : ∀ (H : Heap) (locs : List Loc) (ls : Array Slot), lv_has ls nL lv → W p l e R s m args below meth c H locs cells slots Q (F0 m pc' ls st') → W p l e R s m args below meth c H locs cells slots Q (F0 m pc ls st)) (K : V p l e R s m args below meth c Q X nL ex M lf cells slots pc' lv st') : V p l e R s m args below meth c Q X nL ex M lf cells slots pc lv st := fun H locs ls hP hE hS hl => h H locs ls hl (K H locs ls hP hE hS hl)
theorem v_eq {M' : Mem} {st' : List Value} {lv' : List (Nat × Value)} (h1 : M = M') (h2 : lv = lv') (h3 : st = st') (K : V p l e R s m args below meth c Q X nL ex M' lf cells slots pc lv' st') : V p l e R s m args below meth c Q X nL ex M lf cells slots pc lv st := by
  subst h1; subst h2; subst h3; exact K
theorem v_mem {M' : Mem} (h1 : M' = M) (K : V p l e R s m args below meth c Q X nL ex M' lf cells slots pc lv st) : V p l e R s m args below meth c Q X nL ex M lf cells slots pc lv st := h1 ▸ K
theorem v_widen {k n : Nat} (h1 : cells ≤ k) (h2 : slots ≤ n) (K : V p l e R s m args below meth c Q X nL ex M lf k n pc lv st) : V p l e R s m args below meth c Q X nL ex M lf cells slots pc lv st := fun H locs ls hP hE hS hl => W.widen h1 h2 (K H locs ls hP hE hS hl)
theorem v_topi {x : Int32} (K : ∀ y : Int32, y = x → V p l e R s m args below meth c Q X nL ex M lf cells slots pc lv (.int y :: st)) : V p l e R s m args below meth c Q X nL ex M lf cells slots pc lv (.int x :: st) := K x rfl
theorem v_topr {x : Int32} (y : Int32) (h : x = y) (K : V p l e R s m args below meth c Q X nL ex M lf cells slots pc lv (.int y :: st)) : V p l e R s m args below meth c Q X nL ex M lf cells slots pc lv (.int x :: st) := h ▸ K
theorem v_toprl {x : Int64} (y : Int64) (h : x = y) (K : V p l e R s m args below meth c Q X nL ex M lf cells slots pc lv (.long y :: st)) : V p l e R s m args below meth c Q X nL ex M lf cells slots pc lv (.long x :: st) := h ▸ K
theorem v_locs {lv' : List (Nat × Value)} (ks : List Nat) (hl : lv_pick lv ks = lv') (K : V p l e R s m args below meth c Q X nL ex M lf cells slots pc lv' st) : V p l e R s m args below meth c Q X nL ex M lf cells slots pc lv st := fun H locs ls hP hE hS h => K H locs ls hP hE hS (lv_sub h ks hl)
theorem v_iconst (F : Fx p l s m args meth c cc nL own X) {n : Int} {v : Int32} (hdg : decode cc pc = .ok (.iconst n, 1)) (hv : Int32.ofInt n = v) (K : V p l e R s m args below meth c Q X nL ex M lf cells slots (pc + 1) lv (.int v :: st)) : V p l e R s m args below meth c Q X nL ex M lf cells slots pc lv (st) := v_of (fun H locs ls hl k => lv_iconst F.1.1 F.1.2.1 hdg hv k) K
theorem v_bipush (F : Fx p l s m args meth c cc nL own X) {n : Int} {v : Int32} (hdg : decode cc pc = .ok (.bipush n, 2)) (hv : (Int8.ofInt n).toInt32 = v) (K : V p l e R s m args below meth c Q X nL ex M lf cells slots (pc + 2) lv (.int v :: st)) : V p l e R s m args below meth c Q X nL ex M lf cells slots pc lv (st) := v_of (fun H locs ls hl k => lv_bipush F.1.1 F.1.2.1 hdg hv k) K
theorem v_sipush (F : Fx p l s m args meth c cc nL own X) {n : Int} {v : Int32} (hdg : decode cc pc = .ok (.sipush n, 3)) (hv : (Int16.ofInt n).toInt32 = v) (K : V p l e R s m args below meth c Q X nL ex M lf cells slots (pc + 3) lv (.int v :: st)) : V p l e R s m args below meth c Q X nL ex M lf cells slots pc lv (st) := v_of (fun H locs ls hl k => lv_sipush F.1.1 F.1.2.1 hdg hv k) K
theorem v_lconst (F : Fx p l s m args meth c cc nL own X) {n : Fin 2} {v : Int64} (hdg : decode cc pc = .ok (.lconst n, 1)) (hv : Int64.ofNat (n : Nat) = v) (K : V p l e R s m args below meth c Q X nL ex M lf cells slots (pc + 1) lv (.long v :: st)) : V p l e R s m args below meth c Q X nL ex M lf cells slots pc lv (st) := v_of (fun H locs ls hl k => lv_lconst F.1.1 F.1.2.1 hdg hv k) K
theorem v_dconst0 (F : Fx p l s m args meth c cc nL own X)  (hdg : decode cc pc = .ok (.dconst 0, 1))  (K : V p l e R s m args below meth c Q X nL ex M lf cells slots (pc + 1) lv (.double FP.dconst0 :: st)) : V p l e R s m args below meth c Q X nL ex M lf cells slots pc lv (st) := v_of (fun H locs ls hl k => lv_dconst0 F.1.1 F.1.2.1 hdg  k) K
theorem v_iload_n (F : Fx p l s m args meth c cc nL own X) {k : Fin 4} {i : Nat} {x : Int32} (hdg : decode cc pc = .ok (.iload_n k, 1)) (hi : (k : Nat) = i) (j : Nat) (hj : lv[j]? = some (i, .int x)) (K : V p l e R s m args below meth c Q X nL ex M lf cells slots (pc + 1) lv (.int x :: st)) : V p l e R s m args below meth c Q X nL ex M lf cells slots pc lv (st) := v_of (fun H locs ls hl k => lv_iload_n F.1.1 F.1.2.1 hdg hi (lv_at hl j hj) k) K
theorem v_iload (F : Fx p l s m args meth c cc nL own X) {i : Nat} {x : Int32} (hdg : decode cc pc = .ok (.iload i, 2)) (j : Nat) (hj : lv[j]? = some (i, .int x)) (K : V p l e R s m args below meth c Q X nL ex M lf cells slots (pc + 2) lv (.int x :: st)) : V p l e R s m args below meth c Q X nL ex M lf cells slots pc lv (st) := v_of (fun H locs ls hl k => lv_iload F.1.1 F.1.2.1 hdg (lv_at hl j hj) k) K
theorem v_aload_n (F : Fx p l s m args meth c cc nL own X) {k : Fin 4} {i : Nat} {x : Nat} (hdg : decode cc pc = .ok (.aload_n k, 1)) (hi : (k : Nat) = i) (j : Nat) (hj : lv[j]? = some (i, .ref x)) (K : V p l e R s m args below meth c Q X nL ex M lf cells slots (pc + 1) lv (.ref x :: st)) : V p l e R s m args below meth c Q X nL ex M lf cells slots pc lv (st) := v_of (fun H locs ls hl k => lv_aload_n F.1.1 F.1.2.1 hdg hi (lv_at hl j hj) k) K
theorem v_aload (F : Fx p l s m args meth c cc nL own X) {i : Nat} {x : Nat} (hdg : decode cc pc = .ok (.aload i, 2)) (j : Nat) (hj : lv[j]? = some (i, .ref x)) (K : V p l e R s m args below meth c Q X nL ex M lf cells slots (pc + 2) lv (.ref x :: st)) : V p l e R s m args below meth c Q X nL ex M lf cells slots pc lv (st) := v_of (fun H locs ls hl k => lv_aload F.1.1 F.1.2.1 hdg (lv_at hl j hj) k) K
theorem v_lload_n (F : Fx p l s m args meth c cc nL own X) {k : Fin 4} {i : Nat} {x : Int64} (hdg : decode cc pc = .ok (.lload_n k, 1)) (hi : (k : Nat) = i) (j : Nat) (hj : lv[j]? = some (i, .long x)) (K : V p l e R s m args below meth c Q X nL ex M lf cells slots (pc + 1) lv (.long x :: st)) : V p l e R s m args below meth c Q X nL ex M lf cells slots pc lv (st) := v_of (fun H locs ls hl k => lv_lload_n F.1.1 F.1.2.1 hdg hi (lv_at hl j hj) k) K
theorem v_lload (F : Fx p l s m args meth c cc nL own X) {i : Nat} {x : Int64} (hdg : decode cc pc = .ok (.lload i, 2)) (j : Nat) (hj : lv[j]? = some (i, .long x)) (K : V p l e R s m args below meth c Q X nL ex M lf cells slots (pc + 2) lv (.long x :: st)) : V p l e R s m args below meth c Q X nL ex M lf cells slots pc lv (st) := v_of (fun H locs ls hl k => lv_lload F.1.1 F.1.2.1 hdg (lv_at hl j hj) k) K
theorem v_dload_n (F : Fx p l s m args meth c cc nL own X) {k : Fin 4} {i : Nat} {x : UInt64} (hdg : decode cc pc = .ok (.dload_n k, 1)) (hi : (k : Nat) = i) (j : Nat) (hj : lv[j]? = some (i, .double x)) (K : V p l e R s m args below meth c Q X nL ex M lf cells slots (pc + 1) lv (.double x :: st)) : V p l e R s m args below meth c Q X nL ex M lf cells slots pc lv (st) := v_of (fun H locs ls hl k => lv_dload_n F.1.1 F.1.2.1 hdg hi (lv_at hl j hj) k) K
theorem v_dload (F : Fx p l s m args meth c cc nL own X) {i : Nat} {x : UInt64} (hdg : decode cc pc = .ok (.dload i, 2)) (j : Nat) (hj : lv[j]? = some (i, .double x)) (K : V p l e R s m args below meth c Q X nL ex M lf cells slots (pc + 2) lv (.double x :: st)) : V p l e R s m args below meth c Q X nL ex M lf cells slots pc lv (st) := v_of (fun H locs ls hl k => lv_dload F.1.1 F.1.2.1 hdg (lv_at hl j hj) k) K
theorem v_istore_n (F : Fx p l s m args meth c cc nL own X) {k : Fin 4} {i : Nat} {x : Int32} {lv' : List (Nat × Value)} (hdg : decode cc pc = .ok (.istore_n k, 1)) (hi : (k : Nat) = i) (hn : i < nL) (hl : (i, Value.int x) :: lv.filter (fun q => !(q.1 == i) && !(q.1 + 1 == i && q.2.category == 2)) = lv') (K : V p l e R s m args below meth c Q X nL ex M lf cells slots (pc + 1) lv' st) : V p l e R s m args below meth c Q X nL ex M lf cells slots pc lv (.int x :: st) := fun H locs ls hP hE hS h => lv_istore_n F.1.1 F.1.2.1 hdg hi h hn hl (fun ls' h' => K H locs ls' hP hE hS h')
theorem v_istore (F : Fx p l s m args meth c cc nL own X) {i : Nat} {x : Int32} {lv' : List (Nat × Value)} (hdg : decode cc pc = .ok (.istore i, 2)) (hn : i < nL) (hl : (i, Value.int x) :: lv.filter (fun q => !(q.1 == i) && !(q.1 + 1 == i && q.2.category == 2)) = lv') (K : V p l e R s m args below meth c Q X nL ex M lf cells slots (pc + 2) lv' st) : V p l e R s m args below meth c Q X nL ex M lf cells slots pc lv (.int x :: st) := fun H locs ls hP hE hS h => lv_istore F.1.1 F.1.2.1 hdg h hn hl (fun ls' h' => K H locs ls' hP hE hS h')
theorem v_astore_n (F : Fx p l s m args meth c cc nL own X) {k : Fin 4} {i : Nat} {x : Nat} {lv' : List (Nat × Value)} (hdg : decode cc pc = .ok (.astore_n k, 1)) (hi : (k : Nat) = i) (hn : i < nL) (hl : (i, Value.ref x) :: lv.filter (fun q => !(q.1 == i) && !(q.1 + 1 == i && q.2.category == 2)) = lv') (K : V p l e R s m args below meth c Q X nL ex M lf cells slots (pc + 1) lv' st) : V p l e R s m args below meth c Q X nL ex M lf cells slots pc lv (.ref x :: st) := fun H locs ls hP hE hS h => lv_astore_n F.1.1 F.1.2.1 hdg hi h hn hl (fun ls' h' => K H locs ls' hP hE hS h')
theorem v_astore (F : Fx p l s m args meth c cc nL own X) {i : Nat} {x : Nat} {lv' : List (Nat × Value)} (hdg : decode cc pc = .ok (.astore i, 2)) (hn : i < nL) (hl : (i, Value.ref x) :: lv.filter (fun q => !(q.1 == i) && !(q.1 + 1 == i && q.2.category == 2)) = lv') (K : V p l e R s m args below meth c Q X nL ex M lf cells slots (pc + 2) lv' st) : V p l e R s m args below meth c Q X nL ex M lf cells slots pc lv (.ref x :: st) := fun H locs ls hP hE hS h => lv_astore F.1.1 F.1.2.1 hdg h hn hl (fun ls' h' => K H locs ls' hP hE hS h')
theorem v_lstore_n (F : Fx p l s m args meth c cc nL own X) {k : Fin 4} {i : Nat} {x : Int64} {lv' : List (Nat × Value)} (hdg : decode cc pc = .ok (.lstore_n k, 1)) (hi : (k : Nat) = i) (hn : i + 1 < nL) (hl : (i, Value.long x) :: lv.filter (fun q => !(q.1 == i) && (!(q.1 == i + 1) && !(q.1 + 1 == i && q.2.category == 2))) = lv') (K : V p l e R s m args below meth c Q X nL ex M lf cells slots (pc + 1) lv' st) : V p l e R s m args below meth c Q X nL ex M lf cells slots pc lv (.long x :: st) := fun H locs ls hP hE hS h => lv_lstore_n F.1.1 F.1.2.1 hdg hi h hn hl (fun ls' h' => K H locs ls' hP hE hS h')
theorem v_lstore (F : Fx p l s m args meth c cc nL own X) {i : Nat} {x : Int64} {lv' : List (Nat × Value)} (hdg : decode cc pc = .ok (.lstore i, 2)) (hn : i + 1 < nL) (hl : (i, Value.long x) :: lv.filter (fun q => !(q.1 == i) && (!(q.1 == i + 1) && !(q.1 + 1 == i && q.2.category == 2))) = lv') (K : V p l e R s m args below meth c Q X nL ex M lf cells slots (pc + 2) lv' st) : V p l e R s m args below meth c Q X nL ex M lf cells slots pc lv (.long x :: st) := fun H locs ls hP hE hS h => lv_lstore F.1.1 F.1.2.1 hdg h hn hl (fun ls' h' => K H locs ls' hP hE hS h')
theorem v_dstore_n (F : Fx p l s m args meth c cc nL own X) {k : Fin 4} {i : Nat} {x : UInt64} {lv' : List (Nat × Value)} (hdg : decode cc pc = .ok (.dstore_n k, 1)) (hi : (k : Nat) = i) (hn : i + 1 < nL) (hl : (i, Value.double x) :: lv.filter (fun q => !(q.1 == i) && (!(q.1 == i + 1) && !(q.1 + 1 == i && q.2.category == 2))) = lv') (K : V p l e R s m args below meth c Q X nL ex M lf cells slots (pc + 1) lv' st) : V p l e R s m args below meth c Q X nL ex M lf cells slots pc lv (.double x :: st) := fun H locs ls hP hE hS h => lv_dstore_n F.1.1 F.1.2.1 hdg hi h hn hl (fun ls' h' => K H locs ls' hP hE hS h')
theorem v_dstore (F : Fx p l s m args meth c cc nL own X) {i : Nat} {x : UInt64} {lv' : List (Nat × Value)} (hdg : decode cc pc = .ok (.dstore i, 2)) (hn : i + 1 < nL) (hl : (i, Value.double x) :: lv.filter (fun q => !(q.1 == i) && (!(q.1 == i + 1) && !(q.1 + 1 == i && q.2.category == 2))) = lv') (K : V p l e R s m args below meth c Q X nL ex M lf cells slots (pc + 2) lv' st) : V p l e R s m args below meth c Q X nL ex M lf cells slots pc lv (.double x :: st) := fun H locs ls hP hE hS h => lv_dstore F.1.1 F.1.2.1 hdg h hn hl (fun ls' h' => K H locs ls' hP hE hS h')
theorem v_iinc (F : Fx p l s m args meth c cc nL own X) {i k : Nat} {n : Int} {x : Int32} (v : Int32) {lv' : List (Nat × Value)} (hdg : decode cc pc = .ok (.iinc i n, 3)) (hk : lv[k]? = some (i, .int x)) (hv : x + Int32.ofInt n = v) (hn : i < nL) (hl : (i, Value.int v) :: lv.filter (fun q => !(q.1 == i) && !(q.1 + 1 == i && q.2.category == 2)) = lv') (K : V p l e R s m args below meth c Q X nL ex M lf cells slots (pc + 3) lv' st) : V p l e R s m args below meth c Q X nL ex M lf cells slots pc lv st := fun H locs ls hP hE hS h => lv_iinc F.1.1 F.1.2.1 hdg h hk hv hn hl (fun ls' h' => K H locs ls' hP hE hS h')
theorem v_iadd (F : Fx p l s m args meth c cc nL own X) {x y : Int32} (hdg : decode cc pc = .ok (.iadd, 1))  (K : V p l e R s m args below meth c Q X nL ex M lf cells slots (pc + 1) lv (.int (x + y) :: st)) : V p l e R s m args below meth c Q X nL ex M lf cells slots pc lv (.int y :: .int x :: st) := v_of (fun H locs ls hl k => lv_iadd F.1.1 F.1.2.1 hdg  k) K
theorem v_isub (F : Fx p l s m args meth c cc nL own X) {x y : Int32} (hdg : decode cc pc = .ok (.isub, 1))  (K : V p l e R s m args below meth c Q X nL ex M lf cells slots (pc + 1) lv (.int (x - y) :: st)) : V p l e R s m args below meth c Q X nL ex M lf cells slots pc lv (.int y :: .int x :: st) := v_of (fun H locs ls hl k => lv_isub F.1.1 F.1.2.1 hdg  k) K
theorem v_imul (F : Fx p l s m args meth c cc nL own X) {x y : Int32} (hdg : decode cc pc = .ok (.imul, 1))  (K : V p l e R s m args below meth c Q X nL ex M lf cells slots (pc + 1) lv (.int (x * y) :: st)) : V p l e R s m args below meth c Q X nL ex M lf cells slots pc lv (.int y :: .int x :: st) := v_of (fun H locs ls hl k => lv_imul F.1.1 F.1.2.1 hdg  k) K
theorem v_iand (F : Fx p l s m args meth c cc nL own X) {x y : Int32} (hdg : decode cc pc = .ok (.iand, 1))  (K : V p l e R s m args below meth c Q X nL ex M lf cells slots (pc + 1) lv (.int (x &&& y) :: st)) : V p l e R s m args below meth c Q X nL ex M lf cells slots pc lv (.int y :: .int x :: st) := v_of (fun H locs ls hl k => lv_iand F.1.1 F.1.2.1 hdg  k) K
theorem v_ior (F : Fx p l s m args meth c cc nL own X) {x y : Int32} (hdg : decode cc pc = .ok (.ior, 1))  (K : V p l e R s m args below meth c Q X nL ex M lf cells slots (pc + 1) lv (.int (x ||| y) :: st)) : V p l e R s m args below meth c Q X nL ex M lf cells slots pc lv (.int y :: .int x :: st) := v_of (fun H locs ls hl k => lv_ior F.1.1 F.1.2.1 hdg  k) K
theorem v_ixor (F : Fx p l s m args meth c cc nL own X) {x y : Int32} (hdg : decode cc pc = .ok (.ixor, 1))  (K : V p l e R s m args below meth c Q X nL ex M lf cells slots (pc + 1) lv (.int (x ^^^ y) :: st)) : V p l e R s m args below meth c Q X nL ex M lf cells slots pc lv (.int y :: .int x :: st) := v_of (fun H locs ls hl k => lv_ixor F.1.1 F.1.2.1 hdg  k) K
theorem v_ishl (F : Fx p l s m args meth c cc nL own X) {x y : Int32} (hdg : decode cc pc = .ok (.ishl, 1))  (K : V p l e R s m args below meth c Q X nL ex M lf cells slots (pc + 1) lv (.int (x <<< (y &&& 31)) :: st)) : V p l e R s m args below meth c Q X nL ex M lf cells slots pc lv (.int y :: .int x :: st) := v_of (fun H locs ls hl k => lv_ishl F.1.1 F.1.2.1 hdg  k) K
theorem v_idiv (F : Fx p l s m args meth c cc nL own X) {x y : Int32} (hdg : decode cc pc = .ok (.idiv, 1)) (hne : ¬ y = 0) (K : V p l e R s m args below meth c Q X nL ex M lf cells slots (pc + 1) lv (.int (x / y) :: st)) : V p l e R s m args below meth c Q X nL ex M lf cells slots pc lv (.int y :: .int x :: st) := v_of (fun H locs ls hl k => lv_idiv F.1.1 F.1.2.1 hdg hne k) K
theorem v_irem (F : Fx p l s m args meth c cc nL own X) {x y : Int32} (hdg : decode cc pc = .ok (.irem, 1)) (hne : ¬ y = 0) (K : V p l e R s m args below meth c Q X nL ex M lf cells slots (pc + 1) lv (.int (x - x / y * y) :: st)) : V p l e R s m args below meth c Q X nL ex M lf cells slots pc lv (.int y :: .int x :: st) := v_of (fun H locs ls hl k => lv_irem F.1.1 F.1.2.1 hdg hne k) K
theorem v_ladd (F : Fx p l s m args meth c cc nL own X) {x y : Int64} (hdg : decode cc pc = .ok (.ladd, 1))  (K : V p l e R s m args below meth c Q X nL ex M lf cells slots (pc + 1) lv (.long (x + y) :: st)) : V p l e R s m args below meth c Q X nL ex M lf cells slots pc lv (.long y :: .long x :: st) := v_of (fun H locs ls hl k => lv_ladd F.1.1 F.1.2.1 hdg  k) K
theorem v_lmul (F : Fx p l s m args meth c cc nL own X) {x y : Int64} (hdg : decode cc pc = .ok (.lmul, 1))  (K : V p l e R s m args below meth c Q X nL ex M lf cells slots (pc + 1) lv (.long (x * y) :: st)) : V p l e R s m args below meth c Q X nL ex M lf cells slots pc lv (.long y :: .long x :: st) := v_of (fun H locs ls hl k => lv_lmul F.1.1 F.1.2.1 hdg  k) K
theorem v_i2l (F : Fx p l s m args meth c cc nL own X) {x : Int32} (hdg : decode cc pc = .ok (.i2l, 1))  (K : V p l e R s m args below meth c Q X nL ex M lf cells slots (pc + 1) lv (.long x.toInt64 :: st)) : V p l e R s m args below meth c Q X nL ex M lf cells slots pc lv (.int x :: st) := v_of (fun H locs ls hl k => lv_i2l F.1.1 F.1.2.1 hdg rfl k) K
theorem v_i2d (F : Fx p l s m args meth c cc nL own X) {x : Int32} (hdg : decode cc pc = .ok (.i2d, 1))  (K : V p l e R s m args below meth c Q X nL ex M lf cells slots (pc + 1) lv (.double (FP.i2d x) :: st)) : V p l e R s m args below meth c Q X nL ex M lf cells slots pc lv (.int x :: st) := v_of (fun H locs ls hl k => lv_i2d F.1.1 F.1.2.1 hdg  k) K
theorem v_ddiv (F : Fx p l s m args meth c cc nL own X) {x y : UInt64} (hdg : decode cc pc = .ok (.ddiv, 1)) (hne : vf_n64 (FP.ddiv x y)) (K : V p l e R s m args below meth c Q X nL ex M lf cells slots (pc + 1) lv (.double (FP.ddiv x y) :: st)) : V p l e R s m args below meth c Q X nL ex M lf cells slots pc lv (.double y :: .double x :: st) := v_of (fun H locs ls hl k => lv_ddiv F.1.1 F.1.2.1 hdg hne k) K
theorem v_lcmp (F : Fx p l s m args meth c cc nL own X) {x y : Int64} (hdg : decode cc pc = .ok (.lcmp, 1))  (K : V p l e R s m args below meth c Q X nL ex M lf cells slots (pc + 1) lv (.int (lg_cmp x y) :: st)) : V p l e R s m args below meth c Q X nL ex M lf cells slots pc lv (.long y :: .long x :: st) := v_of (fun H locs ls hl k => W.lcmp F.1.1 F.1.2.1 hdg  k) K
theorem v_dcmp (F : Fx p l s m args meth c cc nL own X) {x y : UInt64} {op : CmpOp} (hdg : decode cc pc = .ok (.dcmp op, 1))  (K : V p l e R s m args below meth c Q X nL ex M lf cells slots (pc + 1) lv (.int (Op.cmpValue (FP.dcmp x y) op) :: st)) : V p l e R s m args below meth c Q X nL ex M lf cells slots pc lv (.double y :: .double x :: st) := v_of (fun H locs ls hl k => lv_dcmp F.1.1 F.1.2.1 hdg  k) K
theorem v_dup (F : Fx p l s m args meth c cc nL own X) {va : Value} (hdg : decode cc pc = .ok (.dup, 1)) (hva : va.category = 1) (K : V p l e R s m args below meth c Q X nL ex M lf cells slots (pc + 1) lv (va :: va :: st)) : V p l e R s m args below meth c Q X nL ex M lf cells slots pc lv (va :: st) := v_of (fun H locs ls hl k => lv_dup F.1.1 F.1.2.1 hdg hva k) K
theorem v_pop (F : Fx p l s m args meth c cc nL own X) {va : Value} (hdg : decode cc pc = .ok (.pop, 1)) (hva : va.category = 1) (K : V p l e R s m args below meth c Q X nL ex M lf cells slots (pc + 1) lv (st)) : V p l e R s m args below meth c Q X nL ex M lf cells slots pc lv (va :: st) := v_of (fun H locs ls hl k => lv_pop F.1.1 F.1.2.1 hdg hva k) K
theorem v_dup2_11 (F : Fx p l s m args meth c cc nL own X) {va vb : Value} (hdg : decode cc pc = .ok (.dup2, 1)) (hva : va.category = 1) (hvb : vb.category = 1) (K : V p l e R s m args below meth c Q X nL ex M lf cells slots (pc + 1) lv (va :: vb :: va :: vb :: st)) : V p l e R s m args below meth c Q X nL ex M lf cells slots pc lv (va :: vb :: st) := v_of (fun H locs ls hl k => lv_dup2_11 F.1.1 F.1.2.1 hdg hva hvb k) K
theorem v_if_eq (F : Fx p l s m args meth c cc nL own X) {x : Int32} {off : Int} {tgt : Nat} (hdg : decode cc pc = .ok (.ifCond .eq off, 3)) (ht : (pc : Int) + off = (tgt : Int)) (Kt : x = 0 → V p l e R s m args below meth c Q X nL ex M lf cells slots tgt lv st) (Kf : ¬ x = 0 → V p l e R s m args below meth c Q X nL ex M lf cells slots (pc + 3) lv st) : V p l e R s m args below meth c Q X nL ex M lf cells slots pc lv (.int x :: st) := fun H locs ls hP hE hS hl => lv_if_eq F.1.1 F.1.2.1 hdg ht (fun h => Kt h H locs ls hP hE hS hl) (fun h => Kf h H locs ls hP hE hS hl)
theorem v_icmp_eq (F : Fx p l s m args meth c cc nL own X) {x y : Int32} {off : Int} {tgt : Nat} (hdg : decode cc pc = .ok (.if_icmp .eq off, 3)) (ht : (pc : Int) + off = (tgt : Int)) (Kt : x = y → V p l e R s m args below meth c Q X nL ex M lf cells slots tgt lv st) (Kf : ¬ x = y → V p l e R s m args below meth c Q X nL ex M lf cells slots (pc + 3) lv st) : V p l e R s m args below meth c Q X nL ex M lf cells slots pc lv (.int y :: .int x :: st) := fun H locs ls hP hE hS hl => lv_icmp_eq F.1.1 F.1.2.1 hdg ht (fun h => Kt h H locs ls hP hE hS hl) (fun h => Kf h H locs ls hP hE hS hl)
theorem v_if_ne (F : Fx p l s m args meth c cc nL own X) {x : Int32} {off : Int} {tgt : Nat} (hdg : decode cc pc = .ok (.ifCond .ne off, 3)) (ht : (pc : Int) + off = (tgt : Int)) (Kt : ¬ x = 0 → V p l e R s m args below meth c Q X nL ex M lf cells slots tgt lv st) (Kf : x = 0 → V p l e R s m args below meth c Q X nL ex M lf cells slots (pc + 3) lv st) : V p l e R s m args below meth c Q X nL ex M lf cells slots pc lv (.int x :: st) := fun H locs ls hP hE hS hl => lv_if_ne F.1.1 F.1.2.1 hdg ht (fun h => Kt h H locs ls hP hE hS hl) (fun h => Kf h H locs ls hP hE hS hl)
theorem v_icmp_ne (F : Fx p l s m args meth c cc nL own X) {x y : Int32} {off : Int} {tgt : Nat} (hdg : decode cc pc = .ok (.if_icmp .ne off, 3)) (ht : (pc : Int) + off = (tgt : Int)) (Kt : ¬ x = y → V p l e R s m args below meth c Q X nL ex M lf cells slots tgt lv st) (Kf : x = y → V p l e R s m args below meth c Q X nL ex M lf cells slots (pc + 3) lv st) : V p l e R s m args below meth c Q X nL ex M lf cells slots pc lv (.int y :: .int x :: st) := fun H locs ls hP hE hS hl => lv_icmp_ne F.1.1 F.1.2.1 hdg ht (fun h => Kt h H locs ls hP hE hS hl) (fun h => Kf h H locs ls hP hE hS hl)
theorem v_if_lt (F : Fx p l s m args meth c cc nL own X) {x : Int32} {off : Int} {tgt : Nat} (hdg : decode cc pc = .ok (.ifCond .lt off, 3)) (ht : (pc : Int) + off = (tgt : Int)) (Kt : x < 0 → V p l e R s m args below meth c Q X nL ex M lf cells slots tgt lv st) (Kf : ¬ x < 0 → V p l e R s m args below meth c Q X nL ex M lf cells slots (pc + 3) lv st) : V p l e R s m args below meth c Q X nL ex M lf cells slots pc lv (.int x :: st) := fun H locs ls hP hE hS hl => lv_if_lt F.1.1 F.1.2.1 hdg ht (fun h => Kt h H locs ls hP hE hS hl) (fun h => Kf h H locs ls hP hE hS hl)
theorem v_icmp_lt (F : Fx p l s m args meth c cc nL own X) {x y : Int32} {off : Int} {tgt : Nat} (hdg : decode cc pc = .ok (.if_icmp .lt off, 3)) (ht : (pc : Int) + off = (tgt : Int)) (Kt : x < y → V p l e R s m args below meth c Q X nL ex M lf cells slots tgt lv st) (Kf : ¬ x < y → V p l e R s m args below meth c Q X nL ex M lf cells slots (pc + 3) lv st) : V p l e R s m args below meth c Q X nL ex M lf cells slots pc lv (.int y :: .int x :: st) := fun H locs ls hP hE hS hl => lv_icmp_lt F.1.1 F.1.2.1 hdg ht (fun h => Kt h H locs ls hP hE hS hl) (fun h => Kf h H locs ls hP hE hS hl)
theorem v_if_ge (F : Fx p l s m args meth c cc nL own X) {x : Int32} {off : Int} {tgt : Nat} (hdg : decode cc pc = .ok (.ifCond .ge off, 3)) (ht : (pc : Int) + off = (tgt : Int)) (Kt : 0 ≤ x → V p l e R s m args below meth c Q X nL ex M lf cells slots tgt lv st) (Kf : ¬ 0 ≤ x → V p l e R s m args below meth c Q X nL ex M lf cells slots (pc + 3) lv st) : V p l e R s m args below meth c Q X nL ex M lf cells slots pc lv (.int x :: st) := fun H locs ls hP hE hS hl => lv_if_ge F.1.1 F.1.2.1 hdg ht (fun h => Kt h H locs ls hP hE hS hl) (fun h => Kf h H locs ls hP hE hS hl)
theorem v_icmp_ge (F : Fx p l s m args meth c cc nL own X) {x y : Int32} {off : Int} {tgt : Nat} (hdg : decode cc pc = .ok (.if_icmp .ge off, 3)) (ht : (pc : Int) + off = (tgt : Int)) (Kt : y ≤ x → V p l e R s m args below meth c Q X nL ex M lf cells slots tgt lv st) (Kf : ¬ y ≤ x → V p l e R s m args below meth c Q X nL ex M lf cells slots (pc + 3) lv st) : V p l e R s m args below meth c Q X nL ex M lf cells slots pc lv (.int y :: .int x :: st) := fun H locs ls hP hE hS hl => lv_icmp_ge F.1.1 F.1.2.1 hdg ht (fun h => Kt h H locs ls hP hE hS hl) (fun h => Kf h H locs ls hP hE hS hl)
theorem v_if_gt (F : Fx p l s m args meth c cc nL own X) {x : Int32} {off : Int} {tgt : Nat} (hdg : decode cc pc = .ok (.ifCond .gt off, 3)) (ht : (pc : Int) + off = (tgt : Int)) (Kt : 0 < x → V p l e R s m args below meth c Q X nL ex M lf cells slots tgt lv st) (Kf : ¬ 0 < x → V p l e R s m args below meth c Q X nL ex M lf cells slots (pc + 3) lv st) : V p l e R s m args below meth c Q X nL ex M lf cells slots pc lv (.int x :: st) := fun H locs ls hP hE hS hl => lv_if_gt F.1.1 F.1.2.1 hdg ht (fun h => Kt h H locs ls hP hE hS hl) (fun h => Kf h H locs ls hP hE hS hl)
theorem v_icmp_gt (F : Fx p l s m args meth c cc nL own X) {x y : Int32} {off : Int} {tgt : Nat} (hdg : decode cc pc = .ok (.if_icmp .gt off, 3)) (ht : (pc : Int) + off = (tgt : Int)) (Kt : y < x → V p l e R s m args below meth c Q X nL ex M lf cells slots tgt lv st) (Kf : ¬ y < x → V p l e R s m args below meth c Q X nL ex M lf cells slots (pc + 3) lv st) : V p l e R s m args below meth c Q X nL ex M lf cells slots pc lv (.int y :: .int x :: st) := fun H locs ls hP hE hS hl => lv_icmp_gt F.1.1 F.1.2.1 hdg ht (fun h => Kt h H locs ls hP hE hS hl) (fun h => Kf h H locs ls hP hE hS hl)
theorem v_if_le (F : Fx p l s m args meth c cc nL own X) {x : Int32} {off : Int} {tgt : Nat} (hdg : decode cc pc = .ok (.ifCond .le off, 3)) (ht : (pc : Int) + off = (tgt : Int)) (Kt : x ≤ 0 → V p l e R s m args below meth c Q X nL ex M lf cells slots tgt lv st) (Kf : ¬ x ≤ 0 → V p l e R s m args below meth c Q X nL ex M lf cells slots (pc + 3) lv st) : V p l e R s m args below meth c Q X nL ex M lf cells slots pc lv (.int x :: st) := fun H locs ls hP hE hS hl => lv_if_le F.1.1 F.1.2.1 hdg ht (fun h => Kt h H locs ls hP hE hS hl) (fun h => Kf h H locs ls hP hE hS hl)
theorem v_icmp_le (F : Fx p l s m args meth c cc nL own X) {x y : Int32} {off : Int} {tgt : Nat} (hdg : decode cc pc = .ok (.if_icmp .le off, 3)) (ht : (pc : Int) + off = (tgt : Int)) (Kt : x ≤ y → V p l e R s m args below meth c Q X nL ex M lf cells slots tgt lv st) (Kf : ¬ x ≤ y → V p l e R s m args below meth c Q X nL ex M lf cells slots (pc + 3) lv st) : V p l e R s m args below meth c Q X nL ex M lf cells slots pc lv (.int y :: .int x :: st) := fun H locs ls hP hE hS hl => lv_icmp_le F.1.1 F.1.2.1 hdg ht (fun h => Kt h H locs ls hP hE hS hl) (fun h => Kf h H locs ls hP hE hS hl)
theorem v_goto (F : Fx p l s m args meth c cc nL own X) {off : Int} {tgt : Nat} (hdg : decode cc pc = .ok (.goto off, 3)) (ht : (pc : Int) + off = (tgt : Int)) (K : V p l e R s m args below meth c Q X nL ex M lf cells slots tgt lv st) : V p l e R s m args below meth c Q X nL ex M lf cells slots pc lv st := v_of (fun H locs ls hl k => lv_goto F.1.1 F.1.2.1 hdg ht k) K
theorem v_tableOut (F : Fx p l s m args meth c cc nL own X) {dflt lo hi : Int} {offs : Array Int} {len : Nat} {x : Int32} {tgt : Nat} (hdg : decode cc pc = .ok (.tableswitch dflt lo hi offs, len)) (h : x.toInt < lo ∨ hi < x.toInt) (ht : (pc : Int) + dflt = (tgt : Int)) (K : V p l e R s m args below meth c Q X nL ex M lf cells slots tgt lv st) : V p l e R s m args below meth c Q X nL ex M lf cells slots pc lv (.int x :: st) := v_of (fun H locs ls hl k => lv_tableOut F.1.1 F.1.2.1 hdg h ht k) K
theorem v_tableIn (F : Fx p l s m args meth c cc nL own X) {dflt lo hi : Int} {offs : Array Int} {len : Nat} {x : Int32} {off : Int} {tgt : Nat} (hdg : decode cc pc = .ok (.tableswitch dflt lo hi offs, len)) (h1 : ¬ x.toInt < lo) (h2 : ¬ hi < x.toInt) (ho : offs[(x.toInt - lo).toNat]? = some off) (ht : (pc : Int) + off = (tgt : Int)) (K : V p l e R s m args below meth c Q X nL ex M lf cells slots tgt lv st) : V p l e R s m args below meth c Q X nL ex M lf cells slots pc lv (.int x :: st) := v_of (fun H locs ls hl k => lv_tableIn F.1.1 F.1.2.1 hdg h1 h2 ho ht k) K
theorem v_lookup (F : Fx p l s m args meth c cc nL own X) {dflt : Int} {ps : Array (Int × Int)} {len : Nat} {x : Int32} {off : Int} {tgt : Nat} (hdg : decode cc pc = .ok (.lookupswitch dflt ps, len)) (hp : (ps.toList.zip (ps.toList.drop 1)).all (fun (a, next) => a.1 < next.1) = true) (ho : Op.lookupswitch.offset ps.toList dflt x.toInt = off) (ht : (pc : Int) + off = (tgt : Int)) (K : V p l e R s m args below meth c Q X nL ex M lf cells slots tgt lv st) : V p l e R s m args below meth c Q X nL ex M lf cells slots pc lv (.int x :: st) := v_of (fun H locs ls hl k => lv_lookup F.1.1 F.1.2.1 hdg hp ho ht k) K
theorem v_ldc2 (F : Fx p l s m args meth c cc nL own X) {index : Nat} {v : Int64} (hc : Cond.constantLong own index v ∈ wAll) (hdg : decode cc pc = .ok (.ldc2_w index, 3)) (K : V p l e R s m args below meth c Q X nL ex M lf cells slots (pc + 3) lv (.long v :: st)) : V p l e R s m args below meth c Q X nL ex M lf cells slots pc lv st := v_of (fun H locs ls hl k => lv_ldc2 F.1.1 F.1.2.1 F.1.2.2.2.1 (F.1.2.2.2.2 _ hc) hdg k) K
theorem v_get (F : Fx p l s m args meth c cc nL own X) {r k i ci : Nat} {fs : List Value} {C : String} {T : u_T} {N : Nat} (hid : (r, k, i) ∈ ids) (he : celD X lf r k i (M r k i) = .inr (ci, fs)) (hc : vwCl[ci]? = some (C, T, N)) (hin : ∀ w, w ∈ u_ws C T N → w ∈ wAll) (j : Nat) (hj : j < N) (hT : (T j).1 = C) {v : Value} (hv : fs[j]? = some v) {index : Nat} (hlink : Cond.fieldLink own index C (T j).2.1 (T j).2.2.1 ∈ wAll) (hdg : decode cc pc = .ok (.getfield index, 3)) (K : V p l e R s m args below meth c Q X nL ex M lf cells slots (pc + 3) lv (v :: st)) : V p l e R s m args below meth c Q X nL ex M lf cells slots pc lv (.ref (X.2.1 r k i) :: st) := by
  intro H locs ls hP hE hS hl
  obtain ⟨q0, h0, hq⟩ := wl_get (X := X) (M := M) (lf := lf) (ex := ex) hid
  rw [he] at hq
  exact va_get F.1.1 F.1.2.1 F.1.2.2.2.2 hin F.1.2.2.2.1 F.2.1.2.1 hP q0 hq hc j hj (F.1.2.2.2.2 _ hlink) (by rw [hT]; exact fun x h => h) hv hdg (K H locs ls hP hE hS hl)
theorem v_getN (F : Fx p l s m args meth c cc nL own X) {r k i ci : Nat} {fs : List Value} {C host : String} {T : u_T} {N : Nat} (hid : (r, k, i) ∈ ids) (he : celD X lf r k i (M r k i) = .inr (ci, fs)) (hc : vwCl[ci]? = some (C, T, N)) (hin : ∀ w, w ∈ u_ws C T N → w ∈ wAll) (j : Nat) (hj : j < N) (hT : (T j).1 = C) {v : Value} (hv : fs[j]? = some v) {index : Nat} (hlink : Cond.fieldLinkNest own index C (T j).2.1 (T j).2.2.1 host ∈ nestW) (hdg : decode cc pc = .ok (.getfield index, 3)) (K : V p l e R s m args below meth c Q X nL ex M lf cells slots (pc + 3) lv (v :: st)) : V p l e R s m args below meth c Q X nL ex M lf cells slots pc lv (.ref (X.2.1 r k i) :: st) := by
  intro H locs ls hP hE hS hl
  obtain ⟨q0, h0, hq⟩ := wl_get (X := X) (M := M) (lf := lf) (ex := ex) hid
  rw [he] at hq
  exact va_getN F.1.1 F.1.2.1 F.1.2.2.2.2 hin F.1.2.2.2.1 F.2.1.2.1 hP q0 hq hc j hj (va_Nw.use rfl (F.2.1.2.2.1 _ hlink)) (by rw [hT]; exact fun x h => h) hv hdg (K H locs ls hP hE hS hl)
theorem v_put (F : Fx p l s m args meth c cc nL own X) {r k i ci : Nat} {fs : List Value} {C : String} {T : u_T} {N : Nat} (ty0 : Nat → FieldType) (hty : ∀ k, k < N → parseFieldDescriptor (T k).2.2.1 = some (ty0 k)) (hnm : ∀ a, a < N → ∀ b, b < N → a ≠ b → (T a).2.1 ≠ (T b).2.1) (hid : (r, k, i) ∈ ids) (he : celD X lf r k i (M r k i) = .inr (ci, fs)) (hc : vwCl[ci]? = some (C, T, N)) (hin : ∀ w, w ∈ u_ws C T N → w ∈ wAll) (j : Nat) (hj : j < N) (hT : (T j).1 = C) (hF : (T j).2.2.2 = false) (hd : parseFieldDescriptor (T j).2.2.1 = some .int) {v : Int32} (he2 : celD X lf r k i (upd (M r k i) j v) = .inr (ci, fs.set j (.int v))) (hl0 : j < fs.length) {index : Nat} (hlink : Cond.fieldLink own index C (T j).2.1 (T j).2.2.1 ∈ wAll) (hdg : decode cc pc = .ok (.putfield index, 3)) (K : V p l e R s m args below meth c Q X nL ex (uC M r (u3 (M r) k i j v)) lf cells slots (pc + 3) lv st) : V p l e R s m args below meth c Q X nL ex M lf cells slots pc lv (.int v :: .ref (X.2.1 r k i) :: st) := by
  intro H locs ls hP hE hS hl
  obtain ⟨q0, h0, hq⟩ := wl_get (X := X) (M := M) (lf := lf) (ex := ex) hid
  rw [he] at hq
  refine va_put F.1.1 F.1.2.1 F.1.2.2.2.2 hin ty0 hty hnm F.1.2.2.2.1 F.2.1.2.1 hP (wl_DE F.2.2.1 M lf hE) hS q0 hq hc j hj (F.1.2.2.2.2 _ hlink) (by rw [hT]; exact fun x h => h) hF hd rfl rfl hl0 hdg (fun H1 locs1 hP1 hD1 hS1 => ?_)
  rw [← he2, wl_set h0] at hP1
  exact K H1 locs1 ls hP1 hE hS1 hl
theorem v_putN (F : Fx p l s m args meth c cc nL own X) {r k i ci : Nat} {fs : List Value} {C host : String} {T : u_T} {N : Nat} (ty0 : Nat → FieldType) (hty : ∀ k, k < N → parseFieldDescriptor (T k).2.2.1 = some (ty0 k)) (hnm : ∀ a, a < N → ∀ b, b < N → a ≠ b → (T a).2.1 ≠ (T b).2.1) (hid : (r, k, i) ∈ ids) (he : celD X lf r k i (M r k i) = .inr (ci, fs)) (hc : vwCl[ci]? = some (C, T, N)) (hin : ∀ w, w ∈ u_ws C T N → w ∈ wAll) (j : Nat) (hj : j < N) (hT : (T j).1 = C) (hF : (T j).2.2.2 = false) (hd : parseFieldDescriptor (T j).2.2.1 = some .int) {v : Int32} (he2 : celD X lf r k i (upd (M r k i) j v) = .inr (ci, fs.set j (.int v))) (hl0 : j < fs.length) {index : Nat} (hlink : Cond.fieldLinkNest own index C (T j).2.1 (T j).2.2.1 host ∈ nestW) (hdg : decode cc pc = .ok (.putfield index, 3)) (K : V p l e R s m args below meth c Q X nL ex (uC M r (u3 (M r) k i j v)) lf cells slots (pc + 3) lv st) : V p l e R s m args below meth c Q X nL ex M lf cells slots pc lv (.int v :: .ref (X.2.1 r k i) :: st) := by
  intro H locs ls hP hE hS hl
  obtain ⟨q0, h0, hq⟩ := wl_get (X := X) (M := M) (lf := lf) (ex := ex) hid
  rw [he] at hq
  refine va_putN F.1.1 F.1.2.1 F.1.2.2.2.2 hin ty0 hty hnm F.1.2.2.2.1 F.2.1.2.1 hP (wl_DE F.2.2.1 M lf hE) hS q0 hq hc j hj (va_Nw.use rfl (F.2.1.2.2.1 _ hlink)) (by rw [hT]; exact fun x h => h) hF hd rfl rfl hl0 hdg (fun H1 locs1 hP1 hD1 hS1 => ?_)
  rw [← he2, wl_set h0] at hP1
  exact K H1 locs1 ls hP1 hE hS1 hl
/-- an index, as a number -/
def Ix (x : Int32) (j n : Nat) : Prop := ¬ x < 0 ∧ x.toNatClampNeg = j ∧ j < n
theorem Ix_in {x : Int32} {j n : Nat} (h : Ix x j n) : vp_in x n := fun z => z.elim h.1 (fun z => by rw [h.2.1] at z; exact absurd h.2.2 (Nat.not_lt.mpr z))
theorem Ix_nI {j n : Nat} (h : j < n) (hn : n < 2 ^ 31 := by decide) : Ix (nI j) j n := ⟨nI_pos (Nat.lt_trans h hn), nI_clamp (Nat.lt_trans h hn), h⟩
theorem v_iald (F : Fx p l s m args meth c cc nL own X) {r k i n : Nat} {cA : ClassId} {f : Nat → Int32} (hid : (r, k, i) ∈ ids) (he : celD X lf r k i (M r k i) = .inl (cA, n, .inl f)) (hcA : cA = X.2.2.1 0) {x : Int32} (j : Nat) (hx : Ix x j n) (hdg : decode cc pc = .ok (.iaload, 1)) (K : V p l e R s m args below meth c Q X nL ex M lf cells slots (pc + 1) lv (.int (f j) :: st)) : V p l e R s m args below meth c Q X nL ex M lf cells slots pc lv (.int x :: .ref (X.2.1 r k i) :: st) := by
  intro H locs ls hP hE hS hl
  subst hcA
  obtain ⟨q0, h0, hq⟩ := wl_get (X := X) (M := M) (lf := lf) (ex := ex) hid
  rw [he] at hq
  have hK := K H locs ls hP hE hS hl
  rw [← hx.2.1] at hK
  exact va_iald F.1.1 F.1.2.1 F.2.1.2.1 hP q0 0 hq rfl (Ix_in hx) hdg hK
theorem v_iast (F : Fx p l s m args meth c cc nL own X) {r k i n : Nat} {cA : ClassId} {f : Nat → Int32} (hid : (r, k, i) ∈ ids) (he : celD X lf r k i (M r k i) = .inl (cA, n, .inl f)) (hcA : cA = X.2.2.1 0) {x v : Int32} (j : Nat) (hx : Ix x j n) (he2 : celD X lf r k i (upd (M r k i) j v) = .inl (cA, n, .inl (upd f j v))) (hdg : decode cc pc = .ok (.iastore, 1)) (K : V p l e R s m args below meth c Q X nL ex (uC M r (u3 (M r) k i j v)) lf cells slots (pc + 1) lv st) : V p l e R s m args below meth c Q X nL ex M lf cells slots pc lv (.int v :: .int x :: .ref (X.2.1 r k i) :: st) := by
  intro H locs ls hP hE hS hl
  subst hcA
  obtain ⟨q0, h0, hq⟩ := wl_get (X := X) (M := M) (lf := lf) (ex := ex) hid
  rw [he] at hq
  refine va_iast F.1.1 F.1.2.1 F.2.1.2.1 hP (wl_DE F.2.2.1 M lf hE) hS q0 0 hq rfl (Ix_in hx) hdg (fun H1 locs1 hP1 hD1 hS1 => ?_)
  rw [hx.2.1, ← he2, wl_set h0] at hP1
  exact K H1 locs1 ls hP1 hE hS1 hl
theorem v_aald (F : Fx p l s m args meth c cc nL own X) {r k i n t0 : Nat} {cA : ClassId} {C : String} {f : Nat → Option Nat} (hid : (r, k, i) ∈ ids) (he : celD X lf r k i (M r k i) = .inl (cA, n, .inr (.inr (.inr (.inr f))))) (ht : (tysX X)[t0]? = some (cA, .object C)) {x : Int32} (j : Nat) (hx : Ix x j n) {a : Nat} (hf : f j = some a) (hdg : decode cc pc = .ok (.aaload, 1)) (K : V p l e R s m args below meth c Q X nL ex M lf cells slots (pc + 1) lv (.ref a :: st)) : V p l e R s m args below meth c Q X nL ex M lf cells slots pc lv (.int x :: .ref (X.2.1 r k i) :: st) := by
  intro H locs ls hP hE hS hl
  obtain ⟨q0, h0, hq⟩ := wl_get (X := X) (M := M) (lf := lf) (ex := ex) hid
  rw [he] at hq
  have hK := K H locs ls hP hE hS hl
  refine va_aldq F.1.1 F.1.2.1 F.2.1.2.1 hP q0 t0 hq ht (Ix_in hx) hdg ?_
  rw [hx.2.1, hf]
  exact hK
theorem v_alen (F : Fx p l s m args meth c cc nL own X) {r k i n t0 : Nat} {cA : ClassId} {ty : FieldType} {f : (Nat → Int32) ⊕ (Nat → Int64) ⊕ (Nat → UInt32) ⊕ (Nat → UInt64) ⊕ (Nat → Option Nat)} (hid : (r, k, i) ∈ ids) (he : celD X lf r k i (M r k i) = .inl (cA, n, f)) (ht : (tysX X)[t0]? = some (cA, ty)) {v : Int32} (hv : Int32.ofNat n = v) (hdg : decode cc pc = .ok (.arraylength, 1)) (K : V p l e R s m args below meth c Q X nL ex M lf cells slots (pc + 1) lv (.int v :: st)) : V p l e R s m args below meth c Q X nL ex M lf cells slots pc lv (.ref (X.2.1 r k i) :: st) := by
  intro H locs ls hP hE hS hl
  obtain ⟨q0, h0, hq⟩ := wl_get (X := X) (M := M) (lf := lf) (ex := ex) hid
  rw [he] at hq
  exact va_alen F.1.1 F.1.2.1 F.2.1.2.1 hP q0 t0 hq ht hv hdg (K H locs ls hP hE hS hl)
end VR
end
section
/-! ===== contracts over memories, and calls ===== -/
abbrev Gx (X : Cx) (l : Launch) : Prop := Cxok X ∧ l.stackTraces = false
def PreW (X : Cx) (M : Mem) (lf : Lf) (sz : Nat) : State → Prop := fun U => U.heap.size = sz ∧ Kz X U ∧ va_P X.1 vwCl (wl X M lf) U.heap
def EndW (X : Cx) (M : Mem) (lf : Lf) : Unit → State → Prop := fun _ t => va_P X.1 vwCl (wl X M lf) t.heap
/-- a method that answers an int r, and leaves the memory M' -/
def CI (X : Cx) (l : Launch) (y : MethodName) (ws : List Cond) (rm : Room) (av : List Value) (M : Mem) (lf : Lf) (r : Int32) (M' : Mem) (lf' : Lf) (mc ms : Nat) : Prop := ∀ sz : Nat, Met l y ws rm (va_Pc av (PreW X M lf sz)) (va_Qi (fun (x : Int32) (_ : Unit) => x = r) (EndW X M' lf') (xA X sz)) mc ms (xA X sz)
def CL (X : Cx) (l : Launch) (y : MethodName) (ws : List Cond) (rm : Room) (av : List Value) (M : Mem) (lf : Lf) (r : Int64) (M' : Mem) (lf' : Lf) (mc ms : Nat) : Prop := ∀ sz : Nat, Met l y ws rm (va_Pc av (PreW X M lf sz)) (va_Ql (fun (x : Int64) (_ : Unit) => x = r) (EndW X M' lf') (xA X sz)) mc ms (xA X sz)
def CD (X : Cx) (l : Launch) (y : MethodName) (ws : List Cond) (rm : Room) (av : List Value) (M : Mem) (lf : Lf) (r : UInt64) (M' : Mem) (lf' : Lf) (mc ms : Nat) : Prop := ∀ sz : Nat, Met l y ws rm (va_Pc av (PreW X M lf sz)) (va_Qd (fun (x : UInt64) (_ : Unit) => x = r) (EndW X M' lf') (xA X sz)) mc ms (xA X sz)
def CV (X : Cx) (l : Launch) (y : MethodName) (ws : List Cond) (rm : Room) (av : List Value) (M : Mem) (lf : Lf) (M' : Mem) (lf' : Lf) (mc ms : Nat) : Prop := ∀ sz : Nat, Met l y ws rm (va_Pc av (PreW X M lf sz)) (va_Qv (fun (_ : Unit) => True) (EndW X M' lf') (xA X sz)) mc ms (xA X sz)
def XCw (X : Cx) (M : Mem) (lf : Lf) (E : String) (sz : Nat) : String → State → State → Prop := vx_X (fun (_ : Unit) => True) (fun E' _ t => E' = E ∧ va_P X.1 vwCl (wl X M lf) t.heap) (xA X sz)
/-- a method that throws an E, and leaves the memory as it was -/
def CXi (X : Cx) (l : Launch) (y : MethodName) (ws : List Cond) (rm : Room) (av : List Value) (M : Mem) (lf : Lf) (E : String) (mc ms : Nat) : Prop := ∀ sz : Nat, vx_Met l y ws rm (va_Pc av (PreW X M lf sz)) (va_Qi (fun (_ : Int32) (_ : Unit) => False) (EndW X M lf) (xA X sz)) (XCw X M lf E sz) mc ms (xA X sz)
def CXv (X : Cx) (l : Launch) (y : MethodName) (ws : List Cond) (rm : Room) (av : List Value) (M : Mem) (lf : Lf) (E : String) (mc ms : Nat) : Prop := ∀ sz : Nat, vx_Met l y ws rm (va_Pc av (PreW X M lf sz)) (va_Qv (fun (_ : Unit) => False) (EndW X M lf) (xA X sz)) (XCw X M lf E sz) mc ms (xA X sz)
abbrev QI (X : Cx) (below : List Frame) (args : Array Value) (s : State) (r : Int32) (M' : Mem) (lf' : Lf) (mc ms : Nat) : State → Prop := MQ below (va_Qi (fun (x : Int32) (_ : Unit) => x = r) (EndW X M' lf') (xA X s.heap.size)) args s mc ms (xA X s.heap.size)
abbrev QL (X : Cx) (below : List Frame) (args : Array Value) (s : State) (r : Int64) (M' : Mem) (lf' : Lf) (mc ms : Nat) : State → Prop := MQ below (va_Ql (fun (x : Int64) (_ : Unit) => x = r) (EndW X M' lf') (xA X s.heap.size)) args s mc ms (xA X s.heap.size)
abbrev QD (X : Cx) (below : List Frame) (args : Array Value) (s : State) (r : UInt64) (M' : Mem) (lf' : Lf) (mc ms : Nat) : State → Prop := MQ below (va_Qd (fun (x : UInt64) (_ : Unit) => x = r) (EndW X M' lf') (xA X s.heap.size)) args s mc ms (xA X s.heap.size)
abbrev QV (X : Cx) (below : List Frame) (args : Array Value) (s : State) (M' : Mem) (lf' : Lf) (mc ms : Nat) : State → Prop := MQ below (va_Qv (fun (_ : Unit) => True) (EndW X M' lf') (xA X s.heap.size)) args s mc ms (xA X s.heap.size)
abbrev QXi (X : Cx) (below : List Frame) (args : Array Value) (s : State) (M : Mem) (lf : Lf) (E : String) (mc ms : Nat) : State → Prop := vx_MQ below (va_Qi (fun (_ : Int32) (_ : Unit) => False) (EndW X M lf) (xA X s.heap.size)) (XCw X M lf E s.heap.size) args s mc ms (xA X s.heap.size)
abbrev QXv (X : Cx) (below : List Frame) (args : Array Value) (s : State) (M : Mem) (lf : Lf) (E : String) (mc ms : Nat) : State → Prop := vx_MQ below (va_Qv (fun (_ : Unit) => False) (EndW X M lf) (xA X s.heap.size)) (XCw X M lf E s.heap.size) args s mc ms (xA X s.heap.size)
theorem PreW_blind {X : Cx} {M : Mem} {lf : Lf} {sz : Nat} {av : List Value} : FrameBlind (va_Pc av (PreW X M lf sz)) := fun a U g mk q => ⟨q.1, q.2.1, Kz_same (u := U) rfl rfl q.2.2.1, q.2.2.2⟩
theorem va_P_spl {D : va_G} {cl : List vw_C} {a b : va_W} {H : Heap} (h : va_P D cl (a ++ b) H) : va_P D cl a H ∧ va_P D cl b H := by
  refine ⟨fun k q hk => h k q ?_, fun k q hk => h (a.length + k) q ?_⟩
  · rw [List.getElem?_append_left (List.getElem?_eq_some_iff.mp hk).1]; exact hk
  · rw [List.getElem?_append_right (Nat.le_add_right _ _), Nat.add_sub_cancel_left]; exact hk
section BD
variable {X : Cx} {l : Launch} {y : MethodName} {cc : ByteArray} {nL : Nat} {rm : Room} {av : List Value} {M M' : Mem} {lf lf' : Lf} {mc ms : Nat} {lv : List (Nat × Value)}
theorem Fx_of {p : Program} {e : Env} {s s₁ : State} {m : MethodId} {args : Array Value} {below : List Frame} {meth : Method} {c : Code} {ret : Option FieldType} {c0 : Cond} (G : Gx X l) (B : BodyLoose p l y (headSpec (c0 :: wAll) rm) cc nL ret e s m args below meth c s₁) (hml : c.maxLocals = nL) (hK : Kz X s) : Fx p l s m args meth c cc nL y.cls X := ⟨⟨B.exec, B.bytes, hml, findClass_of_methodNamed B.named, fun w hw => atoms_spec (ws := c0 :: wAll) B.pre w (List.mem_cons_of_mem _ hw)⟩, hK, G.1, B.notSynchronized, G.2⟩
theorem CI_of {ty : FieldType} {r : Int32} (G : Gx X l) (hy : plainName y.cls = true) (hn : (lg_sl av).length ≤ nL) (hlv : lv_args 0 av = lv)
    (body : ∀ p e s m args below meth c, Fx p l s m args meth c cc nL y.cls X → meth.sig.returnType = some ty → V p l e rm s m args below meth c (QI X below args s r M' lf' mc ms) X nL [] M lf 0 0 0 lv []) : CI X l y (wsc y cc nL (some ty)) rm av M lf r M' lf' mc ms := by
  intro sz
  refine Met.ofW (cc := cc) (maxL := nL) (ret := some ty) hy rfl ?_
  intro p e s m args below meth c s₁ B hml hv
  obtain ⟨rfl, hsz, hK, hP⟩ := hv
  subst hsz
  have h := body p e s m _ below meth c (Fx_of G B hml hK) B.returns
  rw [lg_entry_eq]
  exact h s.heap [] _ (by rw [List.append_nil]; exact hP) exOk_nil va_S.rf (hlv ▸ lv_entry av hn)
theorem CL_of {ty : FieldType} {r : Int64} (G : Gx X l) (hy : plainName y.cls = true) (hn : (lg_sl av).length ≤ nL) (hlv : lv_args 0 av = lv)
    (body : ∀ p e s m args below meth c, Fx p l s m args meth c cc nL y.cls X → meth.sig.returnType = some ty → V p l e rm s m args below meth c (QL X below args s r M' lf' mc ms) X nL [] M lf 0 0 0 lv []) : CL X l y (wsc y cc nL (some ty)) rm av M lf r M' lf' mc ms := by
  intro sz
  refine Met.ofW (cc := cc) (maxL := nL) (ret := some ty) hy rfl ?_
  intro p e s m args below meth c s₁ B hml hv
  obtain ⟨rfl, hsz, hK, hP⟩ := hv
  subst hsz
  have h := body p e s m _ below meth c (Fx_of G B hml hK) B.returns
  rw [lg_entry_eq]
  exact h s.heap [] _ (by rw [List.append_nil]; exact hP) exOk_nil va_S.rf (hlv ▸ lv_entry av hn)
theorem CD_of {ty : FieldType} {r : UInt64} (G : Gx X l) (hy : plainName y.cls = true) (hn : (lg_sl av).length ≤ nL) (hlv : lv_args 0 av = lv)
    (body : ∀ p e s m args below meth c, Fx p l s m args meth c cc nL y.cls X → meth.sig.returnType = some ty → V p l e rm s m args below meth c (QD X below args s r M' lf' mc ms) X nL [] M lf 0 0 0 lv []) : CD X l y (wsc y cc nL (some ty)) rm av M lf r M' lf' mc ms := by
  intro sz
  refine Met.ofW (cc := cc) (maxL := nL) (ret := some ty) hy rfl ?_
  intro p e s m args below meth c s₁ B hml hv
  obtain ⟨rfl, hsz, hK, hP⟩ := hv
  subst hsz
  have h := body p e s m _ below meth c (Fx_of G B hml hK) B.returns
  rw [lg_entry_eq]
  exact h s.heap [] _ (by rw [List.append_nil]; exact hP) exOk_nil va_S.rf (hlv ▸ lv_entry av hn)
theorem CV_of (G : Gx X l) (hy : plainName y.cls = true) (hn : (lg_sl av).length ≤ nL) (hlv : lv_args 0 av = lv)
    (body : ∀ p e s m args below meth c, Fx p l s m args meth c cc nL y.cls X → meth.sig.returnType = none → V p l e rm s m args below meth c (QV X below args s M' lf' mc ms) X nL [] M lf 0 0 0 lv []) : CV X l y (wsc y cc nL none) rm av M lf M' lf' mc ms := by
  intro sz
  refine Met.ofW (cc := cc) (maxL := nL) (ret := none) hy rfl ?_
  intro p e s m args below meth c s₁ B hml hv
  obtain ⟨rfl, hsz, hK, hP⟩ := hv
  subst hsz
  have h := body p e s m _ below meth c (Fx_of G B hml hK) B.returns
  rw [lg_entry_eq]
  exact h s.heap [] _ (by rw [List.append_nil]; exact hP) exOk_nil va_S.rf (hlv ▸ lv_entry av hn)
theorem CXi_of {ty : FieldType} {E : String} (G : Gx X l) (hy : plainName y.cls = true) (hn : (lg_sl av).length ≤ nL) (hlv : lv_args 0 av = lv)
    (body : ∀ p e s m args below meth c, Fx p l s m args meth c cc nL y.cls X → (∀ x ∈ c.exceptionTable.toList, False) → V p l e rm s m args below meth c (QXi X below args s M lf E mc ms) X nL [] M lf 0 0 0 lv []) : CXi X l y (wsc y cc nL (some ty)) rm av M lf E mc ms := by
  intro sz
  refine vx_ofW (cc := cc) (maxL := nL) (ret := some ty) hy rfl ?_
  intro p e s m args below meth c s₁ B hml hxt hv
  obtain ⟨rfl, hsz, hK, hP⟩ := hv
  subst hsz
  have h := body p e s m _ below meth c (Fx_of G B hml hK) hxt
  rw [lg_entry_eq]
  exact h s.heap [] _ (by rw [List.append_nil]; exact hP) exOk_nil va_S.rf (hlv ▸ lv_entry av hn)
theorem CXv_of {E : String} (G : Gx X l) (hy : plainName y.cls = true) (hn : (lg_sl av).length ≤ nL) (hlv : lv_args 0 av = lv)
    (body : ∀ p e s m args below meth c, Fx p l s m args meth c cc nL y.cls X → (∀ x ∈ c.exceptionTable.toList, False) → V p l e rm s m args below meth c (QXv X below args s M lf E mc ms) X nL [] M lf 0 0 0 lv []) : CXv X l y (wsc y cc nL none) rm av M lf E mc ms := by
  intro sz
  refine vx_ofW (cc := cc) (maxL := nL) (ret := none) hy rfl ?_
  intro p e s m args below meth c s₁ B hml hxt hv
  obtain ⟨rfl, hsz, hK, hP⟩ := hv
  subst hsz
  have h := body p e s m _ below meth c (Fx_of G B hml hK) hxt
  rw [lg_entry_eq]
  exact h s.heap [] _ (by rw [List.append_nil]; exact hP) exOk_nil va_S.rf (hlv ▸ lv_entry av hn)
end BD
/-- the receiver: an object of the class C in the world -/
def Rv (X : Cx) (b : Nat) (C : String) : Prop := ∃ (r k i ci : Nat) (q : vw_C), b = X.2.1 r k i ∧ (r, k, i) ∈ ids ∧ vwCl[ci]? = some q ∧ q.1 = C ∧ ∀ (lf : Lf) (f : Nat → Int32), ∃ fs, celD X lf r k i f = .inr (ci, fs)
theorem Rv_R {X : Cx} {r : Nat} (hr : r < 2) : Rv X (X.2.1 r 0 0) RX2 := ⟨r, 0, 0, 2, (RX2, TX2, 5), rfl, id_R hr (by decide) (by decide), rfl, rfl, fun lf f => ⟨_, celD_R hr⟩⟩
theorem Rv_J {X : Cx} {r i : Nat} (hr : r < 2) (hi : i < 4) : Rv X (X.2.1 r 2 i) RX0 := ⟨r, 2, i, 0, (RX0, TX0, 5), rfl, id_R hr (by decide) hi, rfl, rfl, fun lf f => ⟨_, celD_R hr⟩⟩
theorem Rv_P {X : Cx} {r i : Nat} (hr : r < 2) (hi : i < 4) : Rv X (X.2.1 r 3 i) RX1 := ⟨r, 3, i, 1, (RX1, TX1, 3), rfl, id_R hr (by decide) hi, rfl, rfl, fun lf f => ⟨_, celD_R hr⟩⟩
theorem Rv_T {X : Cx} {r i : Nat} (hr : r < 2) (hi : i < 12) : Rv X (X.2.1 r 8 i) RX3 := ⟨r, 8, i, 3, (RX3, TX3, 8), rfl, id_R hr (by decide) hi, rfl, rfl, fun lf f => ⟨_, celD_R hr⟩⟩
theorem Rv_H {X : Cx} : Rv X (X.2.1 5 0 0) RX4 := ⟨5, 0, 0, 4, (RX4, TX4, 2), rfl, id_5, rfl, rfl, fun lf f => ⟨_, rfl⟩⟩
theorem Rv_cell {X : Cx} {b : Nat} {C : String} {M : Mem} {lf : Lf} {H : Heap} {s : State} (h : Rv X b C) (hK : va_K X.1 vwCl (tysX X) s) (hP : va_P X.1 vwCl (wl X M lf) H) : ∃ cell : Cell, H[b]? = some cell ∧ cell.vm.isStatics = false ∧ s.vm.findClass C = some cell.cls := by
  obtain ⟨r, k, i, ci, q, rfl, hid, hc, rfl, hf⟩ := h
  obtain ⟨fs, he⟩ := hf lf (M r k i)
  obtain ⟨q0, h0, hq⟩ := wl_get (X := X) (M := M) (lf := lf) (ex := []) hid
  rw [he, List.append_nil] at hq
  exact va_recv hK hP hc hq
/-- the words of a call: of an instance method by its own class; of a nest mate's; of a static one -/
def Wv (own : String) (index : Nat) (C : String) (y : MethodName) (bytes : ByteArray) (maxL : Nat) (ret : Option FieldType) (n : Nat) : Prop := (y.cls = C ∧ y.cls ≠ "java/lang/invoke/MethodHandle" ∧ y.cls ≠ "java/lang/invoke/VarHandle" ∧ (parseMethodDescriptor y.desc).map (fun d => d.parameters.length) = some n) ∧ Cond.methodLink own index y ∈ wAll ∧ Cond.instanceMethod y ∈ wAll ∧ Cond.selects C y y ∈ wAll ∧ Cond.initialized C ∈ wAll ∧ Cond.code y bytes maxL ret ∈ wAll
def Wn (own : String) (index : Nat) (C : String) (y : MethodName) (bytes : ByteArray) (maxL : Nat) (ret : Option FieldType) (n : Nat) : Prop := (y.cls = C ∧ y.cls ≠ "java/lang/invoke/MethodHandle" ∧ y.cls ≠ "java/lang/invoke/VarHandle" ∧ (parseMethodDescriptor y.desc).map (fun d => d.parameters.length) = some n) ∧ (∃ host, Cond.methodLinkNest own index y host ∈ nestW) ∧ Cond.instanceMethod y ∈ wAll ∧ Cond.selects C y y ∈ wAll ∧ Cond.initialized y.cls ∈ wAll ∧ Cond.code y bytes maxL ret ∈ wAll
def Ws (own : String) (index : Nat) (y : MethodName) (bytes : ByteArray) (maxL : Nat) (ret : Option FieldType) (n : Nat) : Prop := (y.cls ≠ "java/lang/invoke/MethodHandle" ∧ y.cls ≠ "java/lang/invoke/VarHandle" ∧ (parseMethodDescriptor y.desc).map (fun d => d.parameters.length) = some n) ∧ Cond.methodLink own index y ∈ wAll ∧ Cond.static y ∈ wAll ∧ Cond.initialized y.cls ∈ wAll ∧ Cond.code y bytes maxL ret ∈ wAll
/-- the room of a call -/
def Rr (R rm : Room) (maxL cells slots mc ms : Nat) (rest : List Value) : Prop := rm.cells = mc ∧ rm.slots = ms ∧ rm.frames + 1 ≤ R.frames ∧ 8 + (maxL + 11) + rm.locals ≤ R.locals ∧ cells + mc ≤ R.cells ∧ slots + ms ≤ R.slots ∧ (rest.map fun v => v.category).sum ≤ 8
section VC
variable {p : Program} {l : Launch} {e : Env} {R : Room} {s : State} {m : MethodId} {args : Array Value} {below : List Frame} {meth : Method} {c : Code} {Q : State → Prop} {X : Cx} {nL : Nat} {ex : va_W} {M M' : Mem} {lf lf' : Lf} {cells slots pc : Nat} {lv : List (Nat × Value)} {st : List Value} {cc : ByteArray} {own : String}
variable {y : MethodName} {bytes : ByteArray} {maxL n index mc ms : Nat} {ret : Option FieldType} {rm : Room} {C : String} {b : Nat} {As rest : List Value}
theorem v_pre {H : Heap} {locs : List Loc} {av : List Value} (F : Fx p l s m args meth c cc nL own X) (hP : va_P X.1 vwCl (wl X M lf ++ ex) H) (hS : va_S (xA X s.heap.size) s.heap H locs) (U : State) (hU : U.heap = H) (hW : s.WarmedH U.vm) : va_Pc av (PreW X M lf H.size) av.toArray U := by
  subst hU
  exact ⟨rfl, rfl, Kz_pass F.2.2.1 hW hS F.2.1, (va_P_spl hP).1⟩
theorem v_post {H H1 : Heap} {t : State} (hP : va_P X.1 vwCl (wl X M lf ++ ex) H) (hE : exOk X s.heap.size ex) (ht : t.heap = H1) (hB : EndW X M' lf' () t) (hk : ∀ q : Nat, q < H.size → ¬ xA X H.size q → H1[q]? = H[q]?) : va_P X.1 vwCl (wl X M' lf' ++ ex) H1 := by
  subst ht
  refine va_P.app hB (fun k q hq => ?_)
  have h := (va_P_spl hP).2 k q hq
  refine h.kept (hk q.1 h.lt (fun z => ?_))
  rcases z with ⟨p, hp, e⟩ | z
  · exact hE.2 k q hq p hp e
  · exact absurd h.lt (Nat.not_lt.mpr z)
theorem Wv_cw {args : Array Value} (F : Fx p l s m args meth c cc nL own X) (w : Wv own index C y bytes maxL ret n) (hr : Rr R rm maxL cells slots mc ms rest) : CallW R s args own C index y bytes maxL ret (wsc y bytes maxL ret) rm mc ms n := cwV n F.1.2.2.2.2 (good_V w.2.1 w.2.2.1 w.2.2.2.1 w.2.2.2.2.1 (good_c w.2.2.2.2.2)) rfl hr.1 hr.2.1 w.1 ⟨hr.2.2.1, hr.2.2.2.1⟩
theorem Ws_cw {args : Array Value} (F : Fx p l s m args meth c cc nL own X) (w : Ws own index y bytes maxL ret n) (hr : Rr R rm maxL cells slots mc ms rest) : CallB R s args own index y bytes maxL ret (wsc y bytes maxL ret) rm mc ms n ∧ (Cond.static y).before args s = true := ⟨callB_of n F.1.2.2.2.2 (good_c w.2.2.2.2) rfl hr.1 hr.2.1 (F.1.2.2.2.2 _ w.2.2.2.1) (F.1.2.2.2.2 _ w.2.1) w.1 ⟨hr.2.2.1, hr.2.2.2.1⟩, F.1.2.2.2.2 _ w.2.2.1⟩
theorem v_callVi (F : Fx p l s m args meth c cc nL own X) {r : Int32} (hst : st = As.reverse ++ .ref b :: rest) (hM : CI X l y (wsc y bytes maxL ret) rm (.ref b :: As) M lf r M' lf' mc ms) (hR : Rv X b C) (w : Wv own index C y bytes maxL ret n) (hn : As.length = n) (hr : Rr R rm maxL cells slots mc ms rest) (hdg : decode cc pc = .ok (.invokevirtual index, 3)) (K : V p l e R s m args below meth c Q X nL ex M' lf' (cells + mc) (slots + ms) (pc + 3) lv (.int r :: rest)) : V p l e R s m args below meth c Q X nL ex M lf cells slots pc lv st := by
  intro H locs ls hP hE hS hl
  subst hst
  refine va_calli (va_runV (As := As) (rest := rest) F.1 (hM H.size) (Wv_cw F w hr) ⟨PreW_blind, Rv_cell hR F.2.1.2.1 (va_P_spl hP).1, fun U hU hW => v_pre F hP hS U hU hW⟩ rfl hn hl.1 rfl (lv_room hr.2.2.2.2.2.2) hdg ⟨hr.2.2.2.2.1, hr.2.2.2.2.2.1⟩) hS (fun q _ h => xA_mono hS.1 q h) (xA_mono hS.1) (fun x u t H1 locs1 ht hvm hx hB hz hk hS1 => ?_)
  subst hx
  exact K H1 locs1 ls (v_post hP hE ht hB hk) hE hS1 hl
theorem v_callNi (F : Fx p l s m args meth c cc nL own X) {r : Int32} (hst : st = As.reverse ++ .ref b :: rest) (hM : CI X l y (wsc y bytes maxL ret) rm (.ref b :: As) M lf r M' lf' mc ms) (hR : Rv X b C) (w : Wn own index C y bytes maxL ret n) (hn : As.length = n) (hr : Rr R rm maxL cells slots mc ms rest) (hdg : decode cc pc = .ok (.invokevirtual index, 3)) (K : V p l e R s m args below meth c Q X nL ex M' lf' (cells + mc) (slots + ms) (pc + 3) lv (.int r :: rest)) : V p l e R s m args below meth c Q X nL ex M lf cells slots pc lv st := by
  intro H locs ls hP hE hS hl
  subst hst
  obtain ⟨host, hh⟩ := w.2.1
  refine va_calli (va_runVN (As := As) (rest := rest) F.1 (hM H.size) ⟨va_cnB n F.1.2.2.2.2 (good_c w.2.2.2.2.2) rfl hr.1 hr.2.1 (F.2.1.2.2.1 _ hh) (F.1.2.2.2.2 _ w.2.2.2.2.1) w.1.2 ⟨hr.2.2.1, hr.2.2.2.1⟩, F.1.2.2.2.2 _ w.2.2.1, F.1.2.2.2.2 _ w.2.2.2.1⟩ ⟨PreW_blind, Rv_cell hR F.2.1.2.1 (va_P_spl hP).1, fun U hU hW => v_pre F hP hS U hU hW⟩ rfl hn hl.1 rfl (lv_room hr.2.2.2.2.2.2) hdg ⟨hr.2.2.2.2.1, hr.2.2.2.2.2.1⟩) hS (fun q _ h => xA_mono hS.1 q h) (xA_mono hS.1) (fun x u t H1 locs1 ht hvm hx hB hz hk hS1 => ?_)
  subst hx
  exact K H1 locs1 ls (v_post hP hE ht hB hk) hE hS1 hl
theorem v_callSi (F : Fx p l s m args meth c cc nL own X) {r : Int32} (hst : st = As.reverse ++ rest) (hM : CI X l y (wsc y bytes maxL ret) rm As M lf r M' lf' mc ms) (w : Ws own index y bytes maxL ret n) (hn : As.length = n) (hr : Rr R rm maxL cells slots mc ms rest) (hdg : decode cc pc = .ok (.invokestatic index, 3)) (K : V p l e R s m args below meth c Q X nL ex M' lf' (cells + mc) (slots + ms) (pc + 3) lv (.int r :: rest)) : V p l e R s m args below meth c Q X nL ex M lf cells slots pc lv st := by
  intro H locs ls hP hE hS hl
  subst hst
  refine va_calli (va_runS (As := As) (rest := rest) F.1 (hM H.size) (Ws_cw F w hr) ⟨PreW_blind, fun U hU hW => v_pre F hP hS U hU hW⟩ rfl hn hl.1 rfl (lv_room hr.2.2.2.2.2.2) hdg ⟨hr.2.2.2.2.1, hr.2.2.2.2.2.1⟩) hS (fun q _ h => xA_mono hS.1 q h) (xA_mono hS.1) (fun x u t H1 locs1 ht hvm hx hB hz hk hS1 => ?_)
  subst hx
  exact K H1 locs1 ls (v_post hP hE ht hB hk) hE hS1 hl
theorem v_callXVi (F : Fx p l s m args meth c cc nL own X) {E : String} (hst : st = As.reverse ++ .ref b :: rest) (hM : CXi X l y (wsc y bytes maxL ret) rm (.ref b :: As) M lf E mc ms) (hR : Rv X b C) (w : Wv own index C y bytes maxL ret n) (hn : As.length = n) (hr : Rr R rm maxL cells slots mc ms rest) (hdg : decode cc pc = .ok (.invokevirtual index, 3))
    (K : ∀ (H1 : Heap) (locs1 : List Loc) (ls : Array Slot) (ce : Cell) (q9 : Addr), va_P X.1 vwCl (wl X M lf ++ ex) H1 → exOk X s.heap.size ex → va_S (xA X s.heap.size) s.heap H1 locs1 → lv_has ls nL lv → H1[q9]? = some ce → ce.vm = .none → s.vm.findClass E = some ce.cls → vx_W p l e R s m args below meth c H1 locs1 (cells + mc) (slots + ms) Q (F0 m pc ls rest) q9) : V p l e R s m args below meth c Q X nL ex M lf cells slots pc lv st := by
  intro H locs ls hP hE hS hl
  subst hst
  refine vx_calli (vx_runV (As := As) (rest := rest) F.1 (hM H.size) (Wv_cw F w hr) ⟨PreW_blind, Rv_cell hR F.2.1.2.1 (va_P_spl hP).1, fun U hU hW => v_pre F hP hS U hU hW⟩ rfl hn hl.1 rfl (lv_room hr.2.2.2.2.2.2) hdg ⟨hr.2.2.2.2.1, hr.2.2.2.2.2.1⟩) hS (fun q _ h => xA_mono hS.1 q h) (xA_mono hS.1) (fun q _ h => xA_mono hS.1 q h) (fun E1 ce q9 u t H1 locs1 ht hvm hx hB hz hk hS1 h9 hv9 hc9 => ?_) (fun x u t H1 locs1 ht hvm hx hB hz hk hS1 => hx.elim)
  obtain ⟨rfl, hB⟩ := hB
  exact K H1 locs1 ls ce q9 (v_post hP hE ht hB hk) hE hS1 hl h9 hv9 hc9
theorem v_callXSi (F : Fx p l s m args meth c cc nL own X) {E : String} (hst : st = As.reverse ++ rest) (hM : CXi X l y (wsc y bytes maxL ret) rm As M lf E mc ms) (w : Ws own index y bytes maxL ret n) (hn : As.length = n) (hr : Rr R rm maxL cells slots mc ms rest) (hdg : decode cc pc = .ok (.invokestatic index, 3))
    (K : ∀ (H1 : Heap) (locs1 : List Loc) (ls : Array Slot) (ce : Cell) (q9 : Addr), va_P X.1 vwCl (wl X M lf ++ ex) H1 → exOk X s.heap.size ex → va_S (xA X s.heap.size) s.heap H1 locs1 → lv_has ls nL lv → H1[q9]? = some ce → ce.vm = .none → s.vm.findClass E = some ce.cls → vx_W p l e R s m args below meth c H1 locs1 (cells + mc) (slots + ms) Q (F0 m pc ls rest) q9) : V p l e R s m args below meth c Q X nL ex M lf cells slots pc lv st := by
  intro H locs ls hP hE hS hl
  subst hst
  refine vx_calli (vx_runS (As := As) (rest := rest) F.1 (hM H.size) (Ws_cw F w hr) ⟨PreW_blind, fun U hU hW => v_pre F hP hS U hU hW⟩ rfl hn hl.1 rfl (lv_room hr.2.2.2.2.2.2) hdg ⟨hr.2.2.2.2.1, hr.2.2.2.2.2.1⟩) hS (fun q _ h => xA_mono hS.1 q h) (xA_mono hS.1) (fun q _ h => xA_mono hS.1 q h) (fun E1 ce q9 u t H1 locs1 ht hvm hx hB hz hk hS1 h9 hv9 hc9 => ?_) (fun x u t H1 locs1 ht hvm hx hB hz hk hS1 => hx.elim)
  obtain ⟨rfl, hB⟩ := hB
  exact K H1 locs1 ls ce q9 (v_post hP hE ht hB hk) hE hS1 hl h9 hv9 hc9
theorem v_callVl (F : Fx p l s m args meth c cc nL own X) {r : Int64} (hst : st = As.reverse ++ .ref b :: rest) (hM : CL X l y (wsc y bytes maxL ret) rm (.ref b :: As) M lf r M' lf' mc ms) (hR : Rv X b C) (w : Wv own index C y bytes maxL ret n) (hn : As.length = n) (hr : Rr R rm maxL cells slots mc ms rest) (hdg : decode cc pc = .ok (.invokevirtual index, 3)) (K : V p l e R s m args below meth c Q X nL ex M' lf' (cells + mc) (slots + ms) (pc + 3) lv (.long r :: rest)) : V p l e R s m args below meth c Q X nL ex M lf cells slots pc lv st := by
  intro H locs ls hP hE hS hl
  subst hst
  refine va_calll (va_runV (As := As) (rest := rest) F.1 (hM H.size) (Wv_cw F w hr) ⟨PreW_blind, Rv_cell hR F.2.1.2.1 (va_P_spl hP).1, fun U hU hW => v_pre F hP hS U hU hW⟩ rfl hn hl.1 rfl (lv_room hr.2.2.2.2.2.2) hdg ⟨hr.2.2.2.2.1, hr.2.2.2.2.2.1⟩) hS (fun q _ h => xA_mono hS.1 q h) (xA_mono hS.1) (fun x u t H1 locs1 ht hvm hx hB hz hk hS1 => ?_)
  subst hx
  exact K H1 locs1 ls (v_post hP hE ht hB hk) hE hS1 hl
theorem v_callNl (F : Fx p l s m args meth c cc nL own X) {r : Int64} (hst : st = As.reverse ++ .ref b :: rest) (hM : CL X l y (wsc y bytes maxL ret) rm (.ref b :: As) M lf r M' lf' mc ms) (hR : Rv X b C) (w : Wn own index C y bytes maxL ret n) (hn : As.length = n) (hr : Rr R rm maxL cells slots mc ms rest) (hdg : decode cc pc = .ok (.invokevirtual index, 3)) (K : V p l e R s m args below meth c Q X nL ex M' lf' (cells + mc) (slots + ms) (pc + 3) lv (.long r :: rest)) : V p l e R s m args below meth c Q X nL ex M lf cells slots pc lv st := by
  intro H locs ls hP hE hS hl
  subst hst
  obtain ⟨host, hh⟩ := w.2.1
  refine va_calll (va_runVN (As := As) (rest := rest) F.1 (hM H.size) ⟨va_cnB n F.1.2.2.2.2 (good_c w.2.2.2.2.2) rfl hr.1 hr.2.1 (F.2.1.2.2.1 _ hh) (F.1.2.2.2.2 _ w.2.2.2.2.1) w.1.2 ⟨hr.2.2.1, hr.2.2.2.1⟩, F.1.2.2.2.2 _ w.2.2.1, F.1.2.2.2.2 _ w.2.2.2.1⟩ ⟨PreW_blind, Rv_cell hR F.2.1.2.1 (va_P_spl hP).1, fun U hU hW => v_pre F hP hS U hU hW⟩ rfl hn hl.1 rfl (lv_room hr.2.2.2.2.2.2) hdg ⟨hr.2.2.2.2.1, hr.2.2.2.2.2.1⟩) hS (fun q _ h => xA_mono hS.1 q h) (xA_mono hS.1) (fun x u t H1 locs1 ht hvm hx hB hz hk hS1 => ?_)
  subst hx
  exact K H1 locs1 ls (v_post hP hE ht hB hk) hE hS1 hl
theorem v_callSl (F : Fx p l s m args meth c cc nL own X) {r : Int64} (hst : st = As.reverse ++ rest) (hM : CL X l y (wsc y bytes maxL ret) rm As M lf r M' lf' mc ms) (w : Ws own index y bytes maxL ret n) (hn : As.length = n) (hr : Rr R rm maxL cells slots mc ms rest) (hdg : decode cc pc = .ok (.invokestatic index, 3)) (K : V p l e R s m args below meth c Q X nL ex M' lf' (cells + mc) (slots + ms) (pc + 3) lv (.long r :: rest)) : V p l e R s m args below meth c Q X nL ex M lf cells slots pc lv st := by
  intro H locs ls hP hE hS hl
  subst hst
  refine va_calll (va_runS (As := As) (rest := rest) F.1 (hM H.size) (Ws_cw F w hr) ⟨PreW_blind, fun U hU hW => v_pre F hP hS U hU hW⟩ rfl hn hl.1 rfl (lv_room hr.2.2.2.2.2.2) hdg ⟨hr.2.2.2.2.1, hr.2.2.2.2.2.1⟩) hS (fun q _ h => xA_mono hS.1 q h) (xA_mono hS.1) (fun x u t H1 locs1 ht hvm hx hB hz hk hS1 => ?_)
  subst hx
  exact K H1 locs1 ls (v_post hP hE ht hB hk) hE hS1 hl
theorem v_callVd (F : Fx p l s m args meth c cc nL own X) {r : UInt64} (hst : st = As.reverse ++ .ref b :: rest) (hM : CD X l y (wsc y bytes maxL ret) rm (.ref b :: As) M lf r M' lf' mc ms) (hR : Rv X b C) (w : Wv own index C y bytes maxL ret n) (hn : As.length = n) (hr : Rr R rm maxL cells slots mc ms rest) (hdg : decode cc pc = .ok (.invokevirtual index, 3)) (K : V p l e R s m args below meth c Q X nL ex M' lf' (cells + mc) (slots + ms) (pc + 3) lv (.double r :: rest)) : V p l e R s m args below meth c Q X nL ex M lf cells slots pc lv st := by
  intro H locs ls hP hE hS hl
  subst hst
  refine va_calld (va_runV (As := As) (rest := rest) F.1 (hM H.size) (Wv_cw F w hr) ⟨PreW_blind, Rv_cell hR F.2.1.2.1 (va_P_spl hP).1, fun U hU hW => v_pre F hP hS U hU hW⟩ rfl hn hl.1 rfl (lv_room hr.2.2.2.2.2.2) hdg ⟨hr.2.2.2.2.1, hr.2.2.2.2.2.1⟩) hS (fun q _ h => xA_mono hS.1 q h) (xA_mono hS.1) (fun x u t H1 locs1 ht hvm hx hB hz hk hS1 => ?_)
  subst hx
  exact K H1 locs1 ls (v_post hP hE ht hB hk) hE hS1 hl
theorem v_callNd (F : Fx p l s m args meth c cc nL own X) {r : UInt64} (hst : st = As.reverse ++ .ref b :: rest) (hM : CD X l y (wsc y bytes maxL ret) rm (.ref b :: As) M lf r M' lf' mc ms) (hR : Rv X b C) (w : Wn own index C y bytes maxL ret n) (hn : As.length = n) (hr : Rr R rm maxL cells slots mc ms rest) (hdg : decode cc pc = .ok (.invokevirtual index, 3)) (K : V p l e R s m args below meth c Q X nL ex M' lf' (cells + mc) (slots + ms) (pc + 3) lv (.double r :: rest)) : V p l e R s m args below meth c Q X nL ex M lf cells slots pc lv st := by
  intro H locs ls hP hE hS hl
  subst hst
  obtain ⟨host, hh⟩ := w.2.1
  refine va_calld (va_runVN (As := As) (rest := rest) F.1 (hM H.size) ⟨va_cnB n F.1.2.2.2.2 (good_c w.2.2.2.2.2) rfl hr.1 hr.2.1 (F.2.1.2.2.1 _ hh) (F.1.2.2.2.2 _ w.2.2.2.2.1) w.1.2 ⟨hr.2.2.1, hr.2.2.2.1⟩, F.1.2.2.2.2 _ w.2.2.1, F.1.2.2.2.2 _ w.2.2.2.1⟩ ⟨PreW_blind, Rv_cell hR F.2.1.2.1 (va_P_spl hP).1, fun U hU hW => v_pre F hP hS U hU hW⟩ rfl hn hl.1 rfl (lv_room hr.2.2.2.2.2.2) hdg ⟨hr.2.2.2.2.1, hr.2.2.2.2.2.1⟩) hS (fun q _ h => xA_mono hS.1 q h) (xA_mono hS.1) (fun x u t H1 locs1 ht hvm hx hB hz hk hS1 => ?_)
  subst hx
  exact K H1 locs1 ls (v_post hP hE ht hB hk) hE hS1 hl
theorem v_callSd (F : Fx p l s m args meth c cc nL own X) {r : UInt64} (hst : st = As.reverse ++ rest) (hM : CD X l y (wsc y bytes maxL ret) rm As M lf r M' lf' mc ms) (w : Ws own index y bytes maxL ret n) (hn : As.length = n) (hr : Rr R rm maxL cells slots mc ms rest) (hdg : decode cc pc = .ok (.invokestatic index, 3)) (K : V p l e R s m args below meth c Q X nL ex M' lf' (cells + mc) (slots + ms) (pc + 3) lv (.double r :: rest)) : V p l e R s m args below meth c Q X nL ex M lf cells slots pc lv st := by
  intro H locs ls hP hE hS hl
  subst hst
  refine va_calld (va_runS (As := As) (rest := rest) F.1 (hM H.size) (Ws_cw F w hr) ⟨PreW_blind, fun U hU hW => v_pre F hP hS U hU hW⟩ rfl hn hl.1 rfl (lv_room hr.2.2.2.2.2.2) hdg ⟨hr.2.2.2.2.1, hr.2.2.2.2.2.1⟩) hS (fun q _ h => xA_mono hS.1 q h) (xA_mono hS.1) (fun x u t H1 locs1 ht hvm hx hB hz hk hS1 => ?_)
  subst hx
  exact K H1 locs1 ls (v_post hP hE ht hB hk) hE hS1 hl
theorem v_callVv (F : Fx p l s m args meth c cc nL own X) (hst : st = As.reverse ++ .ref b :: rest) (hM : CV X l y (wsc y bytes maxL ret) rm (.ref b :: As) M lf M' lf' mc ms) (hR : Rv X b C) (w : Wv own index C y bytes maxL ret n) (hn : As.length = n) (hr : Rr R rm maxL cells slots mc ms rest) (hdg : decode cc pc = .ok (.invokevirtual index, 3)) (K : V p l e R s m args below meth c Q X nL ex M' lf' (cells + mc) (slots + ms) (pc + 3) lv (rest)) : V p l e R s m args below meth c Q X nL ex M lf cells slots pc lv st := by
  intro H locs ls hP hE hS hl
  subst hst
  refine va_callv (va_runV (As := As) (rest := rest) F.1 (hM H.size) (Wv_cw F w hr) ⟨PreW_blind, Rv_cell hR F.2.1.2.1 (va_P_spl hP).1, fun U hU hW => v_pre F hP hS U hU hW⟩ rfl hn hl.1 rfl (lv_room hr.2.2.2.2.2.2) hdg ⟨hr.2.2.2.2.1, hr.2.2.2.2.2.1⟩) hS (fun q _ h => xA_mono hS.1 q h) (xA_mono hS.1) (fun u t H1 locs1 ht hvm hx hB hz hk hS1 => ?_)
  exact K H1 locs1 ls (v_post hP hE ht hB hk) hE hS1 hl
theorem v_callNv (F : Fx p l s m args meth c cc nL own X) (hst : st = As.reverse ++ .ref b :: rest) (hM : CV X l y (wsc y bytes maxL ret) rm (.ref b :: As) M lf M' lf' mc ms) (hR : Rv X b C) (w : Wn own index C y bytes maxL ret n) (hn : As.length = n) (hr : Rr R rm maxL cells slots mc ms rest) (hdg : decode cc pc = .ok (.invokevirtual index, 3)) (K : V p l e R s m args below meth c Q X nL ex M' lf' (cells + mc) (slots + ms) (pc + 3) lv (rest)) : V p l e R s m args below meth c Q X nL ex M lf cells slots pc lv st := by
  intro H locs ls hP hE hS hl
  subst hst
  obtain ⟨host, hh⟩ := w.2.1
  refine va_callv (va_runVN (As := As) (rest := rest) F.1 (hM H.size) ⟨va_cnB n F.1.2.2.2.2 (good_c w.2.2.2.2.2) rfl hr.1 hr.2.1 (F.2.1.2.2.1 _ hh) (F.1.2.2.2.2 _ w.2.2.2.2.1) w.1.2 ⟨hr.2.2.1, hr.2.2.2.1⟩, F.1.2.2.2.2 _ w.2.2.1, F.1.2.2.2.2 _ w.2.2.2.1⟩ ⟨PreW_blind, Rv_cell hR F.2.1.2.1 (va_P_spl hP).1, fun U hU hW => v_pre F hP hS U hU hW⟩ rfl hn hl.1 rfl (lv_room hr.2.2.2.2.2.2) hdg ⟨hr.2.2.2.2.1, hr.2.2.2.2.2.1⟩) hS (fun q _ h => xA_mono hS.1 q h) (xA_mono hS.1) (fun u t H1 locs1 ht hvm hx hB hz hk hS1 => ?_)
  exact K H1 locs1 ls (v_post hP hE ht hB hk) hE hS1 hl
theorem v_callSv (F : Fx p l s m args meth c cc nL own X) (hst : st = As.reverse ++ rest) (hM : CV X l y (wsc y bytes maxL ret) rm As M lf M' lf' mc ms) (w : Ws own index y bytes maxL ret n) (hn : As.length = n) (hr : Rr R rm maxL cells slots mc ms rest) (hdg : decode cc pc = .ok (.invokestatic index, 3)) (K : V p l e R s m args below meth c Q X nL ex M' lf' (cells + mc) (slots + ms) (pc + 3) lv (rest)) : V p l e R s m args below meth c Q X nL ex M lf cells slots pc lv st := by
  intro H locs ls hP hE hS hl
  subst hst
  refine va_callv (va_runS (As := As) (rest := rest) F.1 (hM H.size) (Ws_cw F w hr) ⟨PreW_blind, fun U hU hW => v_pre F hP hS U hU hW⟩ rfl hn hl.1 rfl (lv_room hr.2.2.2.2.2.2) hdg ⟨hr.2.2.2.2.1, hr.2.2.2.2.2.1⟩) hS (fun q _ h => xA_mono hS.1 q h) (xA_mono hS.1) (fun u t H1 locs1 ht hvm hx hB hz hk hS1 => ?_)
  exact K H1 locs1 ls (v_post hP hE ht hB hk) hE hS1 hl
theorem v_callXVv (F : Fx p l s m args meth c cc nL own X) {E : String} (hst : st = As.reverse ++ .ref b :: rest) (hM : CXv X l y (wsc y bytes maxL ret) rm (.ref b :: As) M lf E mc ms) (hR : Rv X b C) (w : Wv own index C y bytes maxL ret n) (hn : As.length = n) (hr : Rr R rm maxL cells slots mc ms rest) (hdg : decode cc pc = .ok (.invokevirtual index, 3))
    (K : ∀ (H1 : Heap) (locs1 : List Loc) (ls : Array Slot) (ce : Cell) (q9 : Addr), va_P X.1 vwCl (wl X M lf ++ ex) H1 → exOk X s.heap.size ex → va_S (xA X s.heap.size) s.heap H1 locs1 → lv_has ls nL lv → H1[q9]? = some ce → ce.vm = .none → s.vm.findClass E = some ce.cls → vx_W p l e R s m args below meth c H1 locs1 (cells + mc) (slots + ms) Q (F0 m pc ls rest) q9) : V p l e R s m args below meth c Q X nL ex M lf cells slots pc lv st := by
  intro H locs ls hP hE hS hl
  subst hst
  refine vx_callv (vx_runV (As := As) (rest := rest) F.1 (hM H.size) (Wv_cw F w hr) ⟨PreW_blind, Rv_cell hR F.2.1.2.1 (va_P_spl hP).1, fun U hU hW => v_pre F hP hS U hU hW⟩ rfl hn hl.1 rfl (lv_room hr.2.2.2.2.2.2) hdg ⟨hr.2.2.2.2.1, hr.2.2.2.2.2.1⟩) hS (fun q _ h => xA_mono hS.1 q h) (xA_mono hS.1) (fun q _ h => xA_mono hS.1 q h) (fun E1 ce q9 u t H1 locs1 ht hvm hx hB hz hk hS1 h9 hv9 hc9 => ?_) (fun u t H1 locs1 ht hvm hx hB hz hk hS1 => hx.elim)
  obtain ⟨rfl, hB⟩ := hB
  exact K H1 locs1 ls ce q9 (v_post hP hE ht hB hk) hE hS1 hl h9 hv9 hc9
theorem v_callXSv (F : Fx p l s m args meth c cc nL own X) {E : String} (hst : st = As.reverse ++ rest) (hM : CXv X l y (wsc y bytes maxL ret) rm As M lf E mc ms) (w : Ws own index y bytes maxL ret n) (hn : As.length = n) (hr : Rr R rm maxL cells slots mc ms rest) (hdg : decode cc pc = .ok (.invokestatic index, 3))
    (K : ∀ (H1 : Heap) (locs1 : List Loc) (ls : Array Slot) (ce : Cell) (q9 : Addr), va_P X.1 vwCl (wl X M lf ++ ex) H1 → exOk X s.heap.size ex → va_S (xA X s.heap.size) s.heap H1 locs1 → lv_has ls nL lv → H1[q9]? = some ce → ce.vm = .none → s.vm.findClass E = some ce.cls → vx_W p l e R s m args below meth c H1 locs1 (cells + mc) (slots + ms) Q (F0 m pc ls rest) q9) : V p l e R s m args below meth c Q X nL ex M lf cells slots pc lv st := by
  intro H locs ls hP hE hS hl
  subst hst
  refine vx_callv (vx_runS (As := As) (rest := rest) F.1 (hM H.size) (Ws_cw F w hr) ⟨PreW_blind, fun U hU hW => v_pre F hP hS U hU hW⟩ rfl hn hl.1 rfl (lv_room hr.2.2.2.2.2.2) hdg ⟨hr.2.2.2.2.1, hr.2.2.2.2.2.1⟩) hS (fun q _ h => xA_mono hS.1 q h) (xA_mono hS.1) (fun q _ h => xA_mono hS.1 q h) (fun E1 ce q9 u t H1 locs1 ht hvm hx hB hz hk hS1 h9 hv9 hc9 => ?_) (fun u t H1 locs1 ht hvm hx hB hz hk hS1 => hx.elim)
  obtain ⟨rfl, hB⟩ := hB
  exact K H1 locs1 ls ce q9 (v_post hP hE ht hB hk) hE hS1 hl h9 hv9 hc9
theorem v_outi (F : Fx p l s m args meth c cc nL own X) {E : String} {mc ms : Nat} (hxt : ∀ x ∈ c.exceptionTable.toList, False) (h1 : cells ≤ mc) (h2 : slots ≤ ms) (H1 : Heap) (locs1 : List Loc) (ls : Array Slot) (ce : Cell) (q9 : Addr) (hP : va_P X.1 vwCl (wl X M lf ++ ex) H1) (hE : exOk X s.heap.size ex) (hS : va_S (xA X s.heap.size) s.heap H1 locs1) (hl : lv_has ls nL lv) (h9 : H1[q9]? = some ce) (hv9 : ce.vm = .none) (hc9 : s.vm.findClass E = some ce.cls) : vx_W p l e R s m args below meth c H1 locs1 cells slots (QXi X below args s M lf E mc ms) (F0 m pc ls rest) q9 :=
  vx_out (fun x hx => (hxt x hx).elim) F.2.2.2.1 h9 hv9 hc9 (fun t ht hvm => ⟨(), trivial, ⟨rfl, by rw [ht]; exact (va_P_spl hP).1⟩, hS.F ht⟩) hS.2.2 h1 h2
theorem v_outv (F : Fx p l s m args meth c cc nL own X) {E : String} {mc ms : Nat} (hxt : ∀ x ∈ c.exceptionTable.toList, False) (h1 : cells ≤ mc) (h2 : slots ≤ ms) (H1 : Heap) (locs1 : List Loc) (ls : Array Slot) (ce : Cell) (q9 : Addr) (hP : va_P X.1 vwCl (wl X M lf ++ ex) H1) (hE : exOk X s.heap.size ex) (hS : va_S (xA X s.heap.size) s.heap H1 locs1) (hl : lv_has ls nL lv) (h9 : H1[q9]? = some ce) (hv9 : ce.vm = .none) (hc9 : s.vm.findClass E = some ce.cls) : vx_W p l e R s m args below meth c H1 locs1 cells slots (QXv X below args s M lf E mc ms) (F0 m pc ls rest) q9 :=
  vx_out (fun x hx => (hxt x hx).elim) F.2.2.2.1 h9 hv9 hc9 (fun t ht hvm => ⟨(), trivial, ⟨rfl, by rw [ht]; exact (va_P_spl hP).1⟩, hS.F ht⟩) hS.2.2 h1 h2
theorem v_iret (F : Fx p l s m args meth c cc nL own X) {r v : Int32} (hr : meth.sig.returnType = some .int) (hdg : decode cc pc = .ok (.ireturn, 1)) (h1 : v = r) (h2 : M = M') (h3 : lf = lf') : V p l e R s m args below meth c (QI X below args s r M' lf' cells slots) X nL ex M lf cells slots pc lv [.int v] := by
  intro H locs ls hP hE hS hl
  subst h1; subst h2; subst h3
  exact W.iret F.1.1 F.1.2.1 hr (fun t ht hW => ⟨⟨v, (), rfl, rfl, by show va_P _ _ _ t.heap; rw [ht]; exact (va_P_spl hP).1⟩, hS.F ht⟩) hS.2.2 hdg F.2.2.2.1
theorem v_lret (F : Fx p l s m args meth c cc nL own X) {r v : Int64} (hr : meth.sig.returnType = some .long) (hdg : decode cc pc = .ok (.lreturn, 1)) (h1 : v = r) (h2 : M = M') (h3 : lf = lf') : V p l e R s m args below meth c (QL X below args s r M' lf' cells slots) X nL ex M lf cells slots pc lv [.long v] := by
  intro H locs ls hP hE hS hl
  subst h1; subst h2; subst h3
  exact W.lret F.1.1 F.1.2.1 hr (fun t ht hW => ⟨⟨v, (), rfl, rfl, by show va_P _ _ _ t.heap; rw [ht]; exact (va_P_spl hP).1⟩, hS.F ht⟩) hS.2.2 hdg F.2.2.2.1
theorem v_dret (F : Fx p l s m args meth c cc nL own X) {r v : UInt64} (hr : meth.sig.returnType = some .double) (hdg : decode cc pc = .ok (.dreturn, 1)) (h1 : v = r) (h2 : M = M') (h3 : lf = lf') : V p l e R s m args below meth c (QD X below args s r M' lf' cells slots) X nL ex M lf cells slots pc lv [.double v] := by
  intro H locs ls hP hE hS hl
  subst h1; subst h2; subst h3
  exact W.dret F.1.1 F.1.2.1 hr (fun t ht hW => ⟨⟨v, (), rfl, rfl, by show va_P _ _ _ t.heap; rw [ht]; exact (va_P_spl hP).1⟩, hS.F ht⟩) hS.2.2 hdg F.2.2.2.1
theorem v_zret (F : Fx p l s m args meth c cc nL own X) {r v : Int32} {ty : FieldType} (hr : meth.sig.returnType = some ty) (hdg : decode cc pc = .ok (.ireturn, 1)) (hz : narrow ty (.int v) = .int v) (h1 : v = r) (h2 : M = M') (h3 : lf = lf') : V p l e R s m args below meth c (QI X below args s r M' lf' cells slots) X nL ex M lf cells slots pc lv [.int v] := by
  intro H locs ls hP hE hS hl
  subst h1; subst h2; subst h3
  exact W.zret F.1.1 F.1.2.1 hr hz (fun t ht hW => ⟨⟨v, (), rfl, rfl, by show va_P _ _ _ t.heap; rw [ht]; exact (va_P_spl hP).1⟩, hS.F ht⟩) hS.2.2 hdg F.2.2.2.1
theorem v_vret (F : Fx p l s m args meth c cc nL own X) (hr : meth.sig.returnType = none) (hdg : decode cc pc = .ok (.return_, 1)) (h2 : M = M') (h3 : lf = lf') : V p l e R s m args below meth c (QV X below args s M' lf' cells slots) X nL ex M lf cells slots pc lv [] := by
  intro H locs ls hP hE hS hl
  subst h2; subst h3
  exact W.vret F.1.1 F.1.2.1 hr (fun t ht hW => ⟨⟨(), rfl, trivial, by show va_P _ _ _ t.heap; rw [ht]; exact (va_P_spl hP).1⟩, hS.F ht⟩) hS.2.2 hdg F.2.2.2.1
theorem v_throwi (F : Fx p l s m args meth c cc nL RX4 X) (hxt : ∀ x ∈ c.exceptionTable.toList, False) {E text : String} {ik is ic mc ms : Nat} (hE0 : Bundle.fit E = true) (hsub : ∀ w, w ∈ vx_atS RX4 ic E exN → w ∈ exL) (hk : Cond.classLink RX4 ik E ∈ wAll) (hini : Cond.initialized E ∈ wAll) (hs0 : (is, text) ∈ strW)
    (d0 : decode cc pc = .ok (.new ik, 3)) (d3 : decode cc (pc + 3) = .ok (.dup, 1)) (d4 : decode cc (pc + 4) = .ok (.ldc is, 2)) (d6 : decode cc (pc + 6) = .ok (.invokespecial ic, 3)) (d9 : decode cc (pc + 9) = .ok (.athrow, 1))
    (hR1 : 5 < R.frames) (hR2 : (st.map fun v => v.category).sum + 82 ≤ R.locals) (hR3 : cells + 1 ≤ R.cells) (hR4 : slots + 6 ≤ R.slots) (h1 : cells + 1 ≤ mc) (h2 : slots + 6 ≤ ms) : V p l e R s m args below meth c (QXi X below args s M lf E mc ms) X nL ex M lf cells slots pc lv st := by
  intro H locs ls hP hE hS hl
  obtain ⟨sa, hstr⟩ := F.2.1.2.2.2.1 _ hs0
  have hb := F.2.1.1
  refine vx_throwS (A := xA X s.heap.size) (names := exN) (text := text) F.1.1 F.1.2.1 F.2.2.2.2 F.1.2.2.2.1 hE0 (by decide +kernel) (F.1.2.2.2.2 _ hk) (F.1.2.2.2.2 _ hini) hstr (fun w hw => exL_hat F.1.2.2.2.2 F.2.1.2.2.2.2.1 w (hsub w hw)) (fun w hw => ?_)
    (vx_Zq.narrow F.2.1.2.2.2.2.2.2.1 (xA_B F.2.2.1 hb)) (vx_Zq.narrow F.2.1.2.2.2.2.2.2.2 (xA_B F.2.2.1 hb)) hS (hl.1.trans F.1.2.2.1.symm) d0 d3 d4 d6 d9 (fun x hx => (hxt x hx).elim) hR1 hR2 hR3 hR4 F.2.2.2.1 (fun t hvm hz hq => ⟨(), trivial, ⟨rfl, ?_⟩, ?_⟩) hS.2.2 h1 h2
  · rcases List.mem_cons.mp hw with rfl | hw
    · rfl
    · rcases List.mem_cons.mp hw with rfl | hw
      · rfl
      · exact List.all_eq_true.mp exL_ot w (hsub w hw)
  · exact (va_P_spl hP).1.kept (fun k q hk => hq q.1 ((va_P_spl hP).1 k q hk).lt)
  · exact ⟨Nat.le_trans hS.1 hz, fun q g1 g2 => (hq q (Nat.lt_of_lt_of_le g1 hS.1)).trans (hS.2.1 q g1 g2)⟩
theorem v_throwv (F : Fx p l s m args meth c cc nL RX4 X) (hxt : ∀ x ∈ c.exceptionTable.toList, False) {E text : String} {ik is ic mc ms : Nat} (hE0 : Bundle.fit E = true) (hsub : ∀ w, w ∈ vx_atS RX4 ic E exN → w ∈ exL) (hk : Cond.classLink RX4 ik E ∈ wAll) (hini : Cond.initialized E ∈ wAll) (hs0 : (is, text) ∈ strW)
    (d0 : decode cc pc = .ok (.new ik, 3)) (d3 : decode cc (pc + 3) = .ok (.dup, 1)) (d4 : decode cc (pc + 4) = .ok (.ldc is, 2)) (d6 : decode cc (pc + 6) = .ok (.invokespecial ic, 3)) (d9 : decode cc (pc + 9) = .ok (.athrow, 1))
    (hR1 : 5 < R.frames) (hR2 : (st.map fun v => v.category).sum + 82 ≤ R.locals) (hR3 : cells + 1 ≤ R.cells) (hR4 : slots + 6 ≤ R.slots) (h1 : cells + 1 ≤ mc) (h2 : slots + 6 ≤ ms) : V p l e R s m args below meth c (QXv X below args s M lf E mc ms) X nL ex M lf cells slots pc lv st := by
  intro H locs ls hP hE hS hl
  obtain ⟨sa, hstr⟩ := F.2.1.2.2.2.1 _ hs0
  have hb := F.2.1.1
  refine vx_throwS (A := xA X s.heap.size) (names := exN) (text := text) F.1.1 F.1.2.1 F.2.2.2.2 F.1.2.2.2.1 hE0 (by decide +kernel) (F.1.2.2.2.2 _ hk) (F.1.2.2.2.2 _ hini) hstr (fun w hw => exL_hat F.1.2.2.2.2 F.2.1.2.2.2.2.1 w (hsub w hw)) (fun w hw => ?_)
    (vx_Zq.narrow F.2.1.2.2.2.2.2.2.1 (xA_B F.2.2.1 hb)) (vx_Zq.narrow F.2.1.2.2.2.2.2.2.2 (xA_B F.2.2.1 hb)) hS (hl.1.trans F.1.2.2.1.symm) d0 d3 d4 d6 d9 (fun x hx => (hxt x hx).elim) hR1 hR2 hR3 hR4 F.2.2.2.1 (fun t hvm hz hq => ⟨(), trivial, ⟨rfl, ?_⟩, ?_⟩) hS.2.2 h1 h2
  · rcases List.mem_cons.mp hw with rfl | hw
    · rfl
    · rcases List.mem_cons.mp hw with rfl | hw
      · rfl
      · exact List.all_eq_true.mp exL_ot w (hsub w hw)
  · exact (va_P_spl hP).1.kept (fun k q hk => hq q.1 ((va_P_spl hP).1 k q hk).lt)
  · exact ⟨Nat.le_trans hS.1 hz, fun q g1 g2 => (hq q (Nat.lt_of_lt_of_le g1 hS.1)).trans (hS.2.1 q g1 g2)⟩
end VC
end
section
/-! ===== the words of fields, calls, constants, by their places in the tables ===== -/
theorem uw0_X0 : (u_ws RX0 TX0 5).all (fun w => decide (w ∈ lw_tbl) && goodWord w) = true := by decide +kernel
theorem uw_X0 : ∀ w, w ∈ u_ws RX0 TX0 5 → w ∈ wAll := fun w h => by
  have h1 := List.all_eq_true.mp uw0_X0 w h
  rw [Bool.and_eq_true] at h1
  exact List.mem_filter.mpr ⟨of_decide_eq_true h1.1, h1.2⟩
theorem uw0_X1 : (u_ws RX1 TX1 3).all (fun w => decide (w ∈ lw_tbl) && goodWord w) = true := by decide +kernel
theorem uw_X1 : ∀ w, w ∈ u_ws RX1 TX1 3 → w ∈ wAll := fun w h => by
  have h1 := List.all_eq_true.mp uw0_X1 w h
  rw [Bool.and_eq_true] at h1
  exact List.mem_filter.mpr ⟨of_decide_eq_true h1.1, h1.2⟩
theorem uw0_X2 : (u_ws RX2 TX2 5).all (fun w => decide (w ∈ lw_tbl) && goodWord w) = true := by decide +kernel
theorem uw_X2 : ∀ w, w ∈ u_ws RX2 TX2 5 → w ∈ wAll := fun w h => by
  have h1 := List.all_eq_true.mp uw0_X2 w h
  rw [Bool.and_eq_true] at h1
  exact List.mem_filter.mpr ⟨of_decide_eq_true h1.1, h1.2⟩
theorem uw0_X3 : (u_ws RX3 TX3 8).all (fun w => decide (w ∈ lw_tbl) && goodWord w) = true := by decide +kernel
theorem uw_X3 : ∀ w, w ∈ u_ws RX3 TX3 8 → w ∈ wAll := fun w h => by
  have h1 := List.all_eq_true.mp uw0_X3 w h
  rw [Bool.and_eq_true] at h1
  exact List.mem_filter.mpr ⟨of_decide_eq_true h1.1, h1.2⟩
theorem uw0_X4 : (u_ws RX4 TX4 2).all (fun w => decide (w ∈ lw_tbl) && goodWord w) = true := by decide +kernel
theorem uw_X4 : ∀ w, w ∈ u_ws RX4 TX4 2 → w ∈ wAll := fun w h => by
  have h1 := List.all_eq_true.mp uw0_X4 w h
  rw [Bool.and_eq_true] at h1
  exact List.mem_filter.mpr ⟨of_decide_eq_true h1.1, h1.2⟩
theorem wini_X4 : Cond.initialized RX4 ∈ wAll := wAll_in (i := 37) (by decide +kernel) (by decide +kernel)
theorem wini_X0 : Cond.initialized RX0 ∈ wAll := wAll_in (i := 39) (by decide +kernel) (by decide +kernel)
theorem wini_X1 : Cond.initialized RX1 ∈ wAll := wAll_in (i := 40) (by decide +kernel) (by decide +kernel)
theorem wini_X2 : Cond.initialized RX2 ∈ wAll := wAll_in (i := 38) (by decide +kernel) (by decide +kernel)
theorem wini_X3 : Cond.initialized RX3 ∈ wAll := wAll_in (i := 41) (by decide +kernel) (by decide +kernel)
theorem wini_L : Cond.initialized RL ∈ wAll := wAll_in (i := 36) (by decide +kernel) (by decide +kernel)
theorem wini_Exception : Cond.initialized "java/lang/Exception" ∈ wAll := wAll_in (i := 43) (by decide +kernel) (by decide +kernel)
theorem wini_IllegalArgumentException : Cond.initialized "java/lang/IllegalArgumentException" ∈ wAll := wAll_in (i := 45) (by decide +kernel) (by decide +kernel)
theorem wini_IllegalStateException : Cond.initialized "java/lang/IllegalStateException" ∈ wAll := wAll_in (i := 46) (by decide +kernel) (by decide +kernel)
theorem wini_IndexOutOfBoundsException : Cond.initialized "java/lang/IndexOutOfBoundsException" ∈ wAll := wAll_in (i := 47) (by decide +kernel) (by decide +kernel)
theorem wini_Math : Cond.initialized RJ9 ∈ wAll := wAll_in (i := 48) (by decide +kernel) (by decide +kernel)
theorem wini_RuntimeException : Cond.initialized "java/lang/RuntimeException" ∈ wAll := wAll_in (i := 44) (by decide +kernel) (by decide +kernel)
theorem wini_Throwable : Cond.initialized "java/lang/Throwable" ∈ wAll := wAll_in (i := 42) (by decide +kernel) (by decide +kernel)
theorem wc_J9_floorMod_7cf53 : Cond.code yJ9_floorMod_7cf53 cJ9_floorMod_7cf53 3 (some .int) ∈ wAll := wAll_in (i := 293) (by decide +kernel) (by decide +kernel)
theorem wst_J9_floorMod_7cf53 : Cond.static yJ9_floorMod_7cf53 ∈ wAll := wAll_in (i := 292) (by decide +kernel) (by decide +kernel)
theorem wc_L_below : Cond.code yL_below cL_below 2 (some .int) ∈ wAll := wAll_in (i := 379) (by decide +kernel) (by decide +kernel)
theorem wst_L_below : Cond.static yL_below ∈ wAll := wAll_in (i := 378) (by decide +kernel) (by decide +kernel)
theorem wc_L_cell : Cond.code yL_cell cL_cell 2 (some .int) ∈ wAll := wAll_in (i := 383) (by decide +kernel) (by decide +kernel)
theorem wst_L_cell : Cond.static yL_cell ∈ wAll := wAll_in (i := 382) (by decide +kernel) (by decide +kernel)
theorem wst_L_give : Cond.static yL_give ∈ wAll := wAll_in (i := 522) (by decide +kernel) (by decide +kernel)
theorem wc_L_heights : Cond.code yL_heights cL_heights 4 (some .int) ∈ wAll := wAll_in (i := 387) (by decide +kernel) (by decide +kernel)
theorem wst_L_heights : Cond.static yL_heights ∈ wAll := wAll_in (i := 386) (by decide +kernel) (by decide +kernel)
theorem wc_L_ring : Cond.code yL_ring cL_ring 7 (some (.object "HammerEggs")) ∈ wAll := wAll_in (i := 390) (by decide +kernel) (by decide +kernel)
theorem wst_L_ring : Cond.static yL_ring ∈ wAll := wAll_in (i := 389) (by decide +kernel) (by decide +kernel)
theorem wc_X0_canCatch : Cond.code yX0_canCatch cX0_canCatch 3 (some .boolean) ∈ wAll := wAll_in (i := 270) (by decide +kernel) (by decide +kernel)
theorem wi_X0_canCatch : Cond.instanceMethod yX0_canCatch ∈ wAll := wAll_in (i := 268) (by decide +kernel) (by decide +kernel)
theorem wse_X0_canCatch : Cond.selects RX0 yX0_canCatch yX0_canCatch ∈ wAll := wAll_in (i := 16) (by decide +kernel) (by decide +kernel)
theorem wc_X0_copyFrom : Cond.code yX0_copyFrom cX0_copyFrom 3 none ∈ wAll := wAll_in (i := 334) (by decide +kernel) (by decide +kernel)
theorem wi_X0_copyFrom : Cond.instanceMethod yX0_copyFrom ∈ wAll := wAll_in (i := 333) (by decide +kernel) (by decide +kernel)
theorem wse_X0_copyFrom : Cond.selects RX0 yX0_copyFrom yX0_copyFrom ∈ wAll := wAll_in (i := 29) (by decide +kernel) (by decide +kernel)
theorem wc_X0_init : Cond.code yX0_init cX0_init 1 none ∈ wAll := wAll_in (i := 405) (by decide +kernel) (by decide +kernel)
theorem wi_X0_init : Cond.instanceMethod yX0_init ∈ wAll := wAll_in (i := 404) (by decide +kernel) (by decide +kernel)
theorem wc_X0_miss : Cond.code yX0_miss cX0_miss 2 none ∈ wAll := wAll_in (i := 278) (by decide +kernel) (by decide +kernel)
theorem wi_X0_miss : Cond.instanceMethod yX0_miss ∈ wAll := wAll_in (i := 277) (by decide +kernel) (by decide +kernel)
theorem wse_X0_miss : Cond.selects RX0 yX0_miss yX0_miss ∈ wAll := wAll_in (i := 18) (by decide +kernel) (by decide +kernel)
theorem wc_X0_thingsHeld : Cond.code yX0_thingsHeld cX0_thingsHeld 3 (some .int) ∈ wAll := wAll_in (i := 536) (by decide +kernel) (by decide +kernel)
theorem wi_X0_thingsHeld : Cond.instanceMethod yX0_thingsHeld ∈ wAll := wAll_in (i := 535) (by decide +kernel) (by decide +kernel)
theorem wse_X0_thingsHeld : Cond.selects RX0 yX0_thingsHeld yX0_thingsHeld ∈ wAll := wAll_in (i := 35) (by decide +kernel) (by decide +kernel)
theorem wc_X1_addTo : Cond.code yX1_addTo cX1_addTo 6 (some .long) ∈ wAll := wAll_in (i := 375) (by decide +kernel) (by decide +kernel)
theorem wi_X1_addTo : Cond.instanceMethod yX1_addTo ∈ wAll := wAll_in (i := 374) (by decide +kernel) (by decide +kernel)
theorem wse_X1_addTo : Cond.selects RX1 yX1_addTo yX1_addTo ∈ wAll := wAll_in (i := 34) (by decide +kernel) (by decide +kernel)
theorem wc_X1_copyFrom : Cond.code yX1_copyFrom cX1_copyFrom 3 none ∈ wAll := wAll_in (i := 338) (by decide +kernel) (by decide +kernel)
theorem wi_X1_copyFrom : Cond.instanceMethod yX1_copyFrom ∈ wAll := wAll_in (i := 337) (by decide +kernel) (by decide +kernel)
theorem wse_X1_copyFrom : Cond.selects RX1 yX1_copyFrom yX1_copyFrom ∈ wAll := wAll_in (i := 30) (by decide +kernel) (by decide +kernel)
theorem wc_X1_init : Cond.code yX1_init cX1_init 1 none ∈ wAll := wAll_in (i := 410) (by decide +kernel) (by decide +kernel)
theorem wi_X1_init : Cond.instanceMethod yX1_init ∈ wAll := wAll_in (i := 409) (by decide +kernel) (by decide +kernel)
theorem wc_X1_placeIn : Cond.code yX1_placeIn cX1_placeIn 2 (some .int) ∈ wAll := wAll_in (i := 290) (by decide +kernel) (by decide +kernel)
theorem wi_X1_placeIn : Cond.instanceMethod yX1_placeIn ∈ wAll := wAll_in (i := 289) (by decide +kernel) (by decide +kernel)
theorem wse_X1_placeIn : Cond.selects RX1 yX1_placeIn yX1_placeIn ∈ wAll := wAll_in (i := 21) (by decide +kernel) (by decide +kernel)
theorem wc_X1_write : Cond.code yX1_write cX1_write 6 none ∈ wAll := wAll_in (i := 148) (by decide +kernel) (by decide +kernel)
theorem wi_X1_write : Cond.instanceMethod yX1_write ∈ wAll := wAll_in (i := 146) (by decide +kernel) (by decide +kernel)
theorem wse_X1_write : Cond.selects RX1 yX1_write yX1_write ∈ wAll := wAll_in (i := 2) (by decide +kernel) (by decide +kernel)
theorem wc_X2_addJuggler : Cond.code yX2_addJuggler cX2_addJuggler 3 (some .int) ∈ wAll := wAll_in (i := 143) (by decide +kernel) (by decide +kernel)
theorem wi_X2_addJuggler : Cond.instanceMethod yX2_addJuggler ∈ wAll := wAll_in (i := 141) (by decide +kernel) (by decide +kernel)
theorem wse_X2_addJuggler : Cond.selects RX2 yX2_addJuggler yX2_addJuggler ∈ wAll := wAll_in (i := 1) (by decide +kernel) (by decide +kernel)
theorem wc_X2_addThing : Cond.code yX2_addThing cX2_addThing 3 (some .int) ∈ wAll := wAll_in (i := 210) (by decide +kernel) (by decide +kernel)
theorem wi_X2_addThing : Cond.instanceMethod yX2_addThing ∈ wAll := wAll_in (i := 209) (by decide +kernel) (by decide +kernel)
theorem wse_X2_addThing : Cond.selects RX2 yX2_addThing yX2_addThing ∈ wAll := wAll_in (i := 6) (by decide +kernel) (by decide +kernel)
theorem wc_X2_allBruises : Cond.code yX2_allBruises cX2_allBruises 3 (some .int) ∈ wAll := wAll_in (i := 352) (by decide +kernel) (by decide +kernel)
theorem wi_X2_allBruises : Cond.instanceMethod yX2_allBruises ∈ wAll := wAll_in (i := 351) (by decide +kernel) (by decide +kernel)
theorem wse_X2_allBruises : Cond.selects RX2 yX2_allBruises yX2_allBruises ∈ wAll := wAll_in (i := 32) (by decide +kernel) (by decide +kernel)
theorem wc_X2_allFell : Cond.code yX2_allFell cX2_allFell 3 (some .int) ∈ wAll := wAll_in (i := 318) (by decide +kernel) (by decide +kernel)
theorem wi_X2_allFell : Cond.instanceMethod yX2_allFell ∈ wAll := wAll_in (i := 317) (by decide +kernel) (by decide +kernel)
theorem wse_X2_allFell : Cond.selects RX2 yX2_allFell yX2_allFell ∈ wAll := wAll_in (i := 26) (by decide +kernel) (by decide +kernel)
theorem wc_X2_allThrown : Cond.code yX2_allThrown cX2_allThrown 3 (some .int) ∈ wAll := wAll_in (i := 322) (by decide +kernel) (by decide +kernel)
theorem wi_X2_allThrown : Cond.instanceMethod yX2_allThrown ∈ wAll := wAll_in (i := 321) (by decide +kernel) (by decide +kernel)
theorem wse_X2_allThrown : Cond.selects RX2 yX2_allThrown yX2_allThrown ∈ wAll := wAll_in (i := 27) (by decide +kernel) (by decide +kernel)
theorem wc_X2_comeDown : Cond.code yX2_comeDown cX2_comeDown 6 (some .int) ∈ wAll := wAll_in (i := 259) (by decide +kernel) (by decide +kernel)
theorem wi_X2_comeDown : Cond.instanceMethod yX2_comeDown ∈ wAll := wAll_in (i := 258) (by decide +kernel) (by decide +kernel)
theorem wse_X2_comeDown : Cond.selects RX2 yX2_comeDown yX2_comeDown ∈ wAll := wAll_in (i := 14) (by decide +kernel) (by decide +kernel)
theorem wc_X2_copyFrom : Cond.code yX2_copyFrom cX2_copyFrom 3 none ∈ wAll := wAll_in (i := 330) (by decide +kernel) (by decide +kernel)
theorem wi_X2_copyFrom : Cond.instanceMethod yX2_copyFrom ∈ wAll := wAll_in (i := 329) (by decide +kernel) (by decide +kernel)
theorem wse_X2_copyFrom : Cond.selects RX2 yX2_copyFrom yX2_copyFrom ∈ wAll := wAll_in (i := 28) (by decide +kernel) (by decide +kernel)
theorem wc_X2_hasJuggler : Cond.code yX2_hasJuggler cX2_hasJuggler 2 (some .boolean) ∈ wAll := wAll_in (i := 161) (by decide +kernel) (by decide +kernel)
theorem wi_X2_hasJuggler : Cond.instanceMethod yX2_hasJuggler ∈ wAll := wAll_in (i := 160) (by decide +kernel) (by decide +kernel)
theorem wse_X2_hasJuggler : Cond.selects RX2 yX2_hasJuggler yX2_hasJuggler ∈ wAll := wAll_in (i := 4) (by decide +kernel) (by decide +kernel)
theorem wc_X2_hasThing : Cond.code yX2_hasThing cX2_hasThing 2 (some .boolean) ∈ wAll := wAll_in (i := 222) (by decide +kernel) (by decide +kernel)
theorem wi_X2_hasThing : Cond.instanceMethod yX2_hasThing ∈ wAll := wAll_in (i := 221) (by decide +kernel) (by decide +kernel)
theorem wse_X2_hasThing : Cond.selects RX2 yX2_hasThing yX2_hasThing ∈ wAll := wAll_in (i := 8) (by decide +kernel) (by decide +kernel)
theorem wc_X2_init : Cond.code yX2_init cX2_init 2 none ∈ wAll := wAll_in (i := 399) (by decide +kernel) (by decide +kernel)
theorem wi_X2_init : Cond.instanceMethod yX2_init ∈ wAll := wAll_in (i := 398) (by decide +kernel) (by decide +kernel)
theorem wc_X2_play : Cond.code yX2_play cX2_play 4 (some .int) ∈ wAll := wAll_in (i := 251) (by decide +kernel) (by decide +kernel)
theorem wi_X2_play : Cond.instanceMethod yX2_play ∈ wAll := wAll_in (i := 250) (by decide +kernel) (by decide +kernel)
theorem wse_X2_play : Cond.selects RX2 yX2_play yX2_play ∈ wAll := wAll_in (i := 12) (by decide +kernel) (by decide +kernel)
theorem wc_X2_playBeat : Cond.code yX2_playBeat cX2_playBeat 4 (some .int) ∈ wAll := wAll_in (i := 255) (by decide +kernel) (by decide +kernel)
theorem wi_X2_playBeat : Cond.instanceMethod yX2_playBeat ∈ wAll := wAll_in (i := 254) (by decide +kernel) (by decide +kernel)
theorem wse_X2_playBeat : Cond.selects RX2 yX2_playBeat yX2_playBeat ∈ wAll := wAll_in (i := 13) (by decide +kernel) (by decide +kernel)
theorem wc_X2_putIntoHand : Cond.code yX2_putIntoHand cX2_putIntoHand 5 none ∈ wAll := wAll_in (i := 274) (by decide +kernel) (by decide +kernel)
theorem wi_X2_putIntoHand : Cond.instanceMethod yX2_putIntoHand ∈ wAll := wAll_in (i := 273) (by decide +kernel) (by decide +kernel)
theorem wse_X2_putIntoHand : Cond.selects RX2 yX2_putIntoHand yX2_putIntoHand ∈ wAll := wAll_in (i := 17) (by decide +kernel) (by decide +kernel)
theorem wc_X2_tellCount : Cond.code yX2_tellCount cX2_tellCount 2 (some .int) ∈ wAll := wAll_in (i := 310) (by decide +kernel) (by decide +kernel)
theorem wi_X2_tellCount : Cond.instanceMethod yX2_tellCount ∈ wAll := wAll_in (i := 309) (by decide +kernel) (by decide +kernel)
theorem wse_X2_tellCount : Cond.selects RX2 yX2_tellCount yX2_tellCount ∈ wAll := wAll_in (i := 24) (by decide +kernel) (by decide +kernel)
theorem wc_X2_tellJuggler : Cond.code yX2_tellJuggler cX2_tellJuggler 4 (some .int) ∈ wAll := wAll_in (i := 235) (by decide +kernel) (by decide +kernel)
theorem wi_X2_tellJuggler : Cond.instanceMethod yX2_tellJuggler ∈ wAll := wAll_in (i := 234) (by decide +kernel) (by decide +kernel)
theorem wse_X2_tellJuggler : Cond.selects RX2 yX2_tellJuggler yX2_tellJuggler ∈ wAll := wAll_in (i := 10) (by decide +kernel) (by decide +kernel)
theorem wc_X2_tellThing : Cond.code yX2_tellThing cX2_tellThing 4 (some .int) ∈ wAll := wAll_in (i := 227) (by decide +kernel) (by decide +kernel)
theorem wi_X2_tellThing : Cond.instanceMethod yX2_tellThing ∈ wAll := wAll_in (i := 226) (by decide +kernel) (by decide +kernel)
theorem wse_X2_tellThing : Cond.selects RX2 yX2_tellThing yX2_tellThing ∈ wAll := wAll_in (i := 9) (by decide +kernel) (by decide +kernel)
theorem wc_X2_thingsFlyingTo : Cond.code yX2_thingsFlyingTo cX2_thingsFlyingTo 4 (some .int) ∈ wAll := wAll_in (i := 239) (by decide +kernel) (by decide +kernel)
theorem wi_X2_thingsFlyingTo : Cond.instanceMethod yX2_thingsFlyingTo ∈ wAll := wAll_in (i := 238) (by decide +kernel) (by decide +kernel)
theorem wse_X2_thingsFlyingTo : Cond.selects RX2 yX2_thingsFlyingTo yX2_thingsFlyingTo ∈ wAll := wAll_in (i := 11) (by decide +kernel) (by decide +kernel)
theorem wc_X2_thingsIn : Cond.code yX2_thingsIn cX2_thingsIn 4 (some .int) ∈ wAll := wAll_in (i := 314) (by decide +kernel) (by decide +kernel)
theorem wi_X2_thingsIn : Cond.instanceMethod yX2_thingsIn ∈ wAll := wAll_in (i := 313) (by decide +kernel) (by decide +kernel)
theorem wse_X2_thingsIn : Cond.selects RX2 yX2_thingsIn yX2_thingsIn ∈ wAll := wAll_in (i := 25) (by decide +kernel) (by decide +kernel)
theorem wc_X2_throwFrom : Cond.code yX2_throwFrom cX2_throwFrom 6 none ∈ wAll := wAll_in (i := 286) (by decide +kernel) (by decide +kernel)
theorem wi_X2_throwFrom : Cond.instanceMethod yX2_throwFrom ∈ wAll := wAll_in (i := 285) (by decide +kernel) (by decide +kernel)
theorem wse_X2_throwFrom : Cond.selects RX2 yX2_throwFrom yX2_throwFrom ∈ wAll := wAll_in (i := 20) (by decide +kernel) (by decide +kernel)
theorem wc_X3_beatsInAir : Cond.code yX3_beatsInAir cX3_beatsInAir 2 (some .int) ∈ wAll := wAll_in (i := 302) (by decide +kernel) (by decide +kernel)
theorem wi_X3_beatsInAir : Cond.instanceMethod yX3_beatsInAir ∈ wAll := wAll_in (i := 301) (by decide +kernel) (by decide +kernel)
theorem wse_X3_beatsInAir : Cond.selects RX3 yX3_beatsInAir yX3_beatsInAir ∈ wAll := wAll_in (i := 23) (by decide +kernel) (by decide +kernel)
theorem wc_X3_comesDownIn : Cond.code yX3_comesDownIn cX3_comesDownIn 2 (some .boolean) ∈ wAll := wAll_in (i := 264) (by decide +kernel) (by decide +kernel)
theorem wi_X3_comesDownIn : Cond.instanceMethod yX3_comesDownIn ∈ wAll := wAll_in (i := 262) (by decide +kernel) (by decide +kernel)
theorem wse_X3_comesDownIn : Cond.selects RX3 yX3_comesDownIn yX3_comesDownIn ∈ wAll := wAll_in (i := 15) (by decide +kernel) (by decide +kernel)
theorem wc_X3_copyFrom : Cond.code yX3_copyFrom cX3_copyFrom 2 none ∈ wAll := wAll_in (i := 342) (by decide +kernel) (by decide +kernel)
theorem wi_X3_copyFrom : Cond.instanceMethod yX3_copyFrom ∈ wAll := wAll_in (i := 341) (by decide +kernel) (by decide +kernel)
theorem wse_X3_copyFrom : Cond.selects RX3 yX3_copyFrom yX3_copyFrom ∈ wAll := wAll_in (i := 31) (by decide +kernel) (by decide +kernel)
theorem wc_X3_fall : Cond.code yX3_fall cX3_fall 1 none ∈ wAll := wAll_in (i := 282) (by decide +kernel) (by decide +kernel)
theorem wi_X3_fall : Cond.instanceMethod yX3_fall ∈ wAll := wAll_in (i := 281) (by decide +kernel) (by decide +kernel)
theorem wse_X3_fall : Cond.selects RX3 yX3_fall yX3_fall ∈ wAll := wAll_in (i := 19) (by decide +kernel) (by decide +kernel)
theorem wc_X3_fly : Cond.code yX3_fly cX3_fly 4 none ∈ wAll := wAll_in (i := 298) (by decide +kernel) (by decide +kernel)
theorem wi_X3_fly : Cond.instanceMethod yX3_fly ∈ wAll := wAll_in (i := 297) (by decide +kernel) (by decide +kernel)
theorem wse_X3_fly : Cond.selects RX3 yX3_fly yX3_fly ∈ wAll := wAll_in (i := 22) (by decide +kernel) (by decide +kernel)
theorem wc_X3_init : Cond.code yX3_init cX3_init 1 none ∈ wAll := wAll_in (i := 456) (by decide +kernel) (by decide +kernel)
theorem wi_X3_init : Cond.instanceMethod yX3_init ∈ wAll := wAll_in (i := 455) (by decide +kernel) (by decide +kernel)
theorem wc_X4_advise : Cond.code yX4_advise cX4_advise 9 (some .int) ∈ wAll := wAll_in (i := 356) (by decide +kernel) (by decide +kernel)
theorem wi_X4_advise : Cond.instanceMethod yX4_advise ∈ wAll := wAll_in (i := 354) (by decide +kernel) (by decide +kernel)
theorem wse_X4_advise : Cond.selects RX4 yX4_advise yX4_advise ∈ wAll := wAll_in (i := 355) (by decide +kernel) (by decide +kernel)
theorem wc_X4_come : Cond.code yX4_come cX4_come 2 (some .int) ∈ wAll := wAll_in (i := 52) (by decide +kernel) (by decide +kernel)
theorem wi_X4_come : Cond.instanceMethod yX4_come ∈ wAll := wAll_in (i := 50) (by decide +kernel) (by decide +kernel)
theorem wse_X4_come : Cond.selects RX4 yX4_come yX4_come ∈ wAll := wAll_in (i := 51) (by decide +kernel) (by decide +kernel)
theorem wc_X4_count : Cond.code yX4_count cX4_count 2 (some .int) ∈ wAll := wAll_in (i := 306) (by decide +kernel) (by decide +kernel)
theorem wi_X4_count : Cond.instanceMethod yX4_count ∈ wAll := wAll_in (i := 304) (by decide +kernel) (by decide +kernel)
theorem wse_X4_count : Cond.selects RX4 yX4_count yX4_count ∈ wAll := wAll_in (i := 305) (by decide +kernel) (by decide +kernel)
theorem wc_X4_digest : Cond.code yX4_digest cX4_digest 5 (some .long) ∈ wAll := wAll_in (i := 369) (by decide +kernel) (by decide +kernel)
theorem wi_X4_digest : Cond.instanceMethod yX4_digest ∈ wAll := wAll_in (i := 367) (by decide +kernel) (by decide +kernel)
theorem wse_X4_digest : Cond.selects RX4 yX4_digest yX4_digest ∈ wAll := wAll_in (i := 368) (by decide +kernel) (by decide +kernel)
theorem wc_X4_fallenWith : Cond.code yX4_fallenWith cX4_fallenWith 5 (some .int) ∈ wAll := wAll_in (i := 360) (by decide +kernel) (by decide +kernel)
theorem wi_X4_fallenWith : Cond.instanceMethod yX4_fallenWith ∈ wAll := wAll_in (i := 359) (by decide +kernel) (by decide +kernel)
theorem wse_X4_fallenWith : Cond.selects RX4 yX4_fallenWith yX4_fallenWith ∈ wAll := wAll_in (i := 33) (by decide +kernel) (by decide +kernel)
theorem wc_X4_falls : Cond.code yX4_falls cX4_falls 2 (some .int) ∈ wAll := wAll_in (i := 326) (by decide +kernel) (by decide +kernel)
theorem wi_X4_falls : Cond.instanceMethod yX4_falls ∈ wAll := wAll_in (i := 324) (by decide +kernel) (by decide +kernel)
theorem wse_X4_falls : Cond.selects RX4 yX4_falls yX4_falls ∈ wAll := wAll_in (i := 325) (by decide +kernel) (by decide +kernel)
theorem wc_X4_foresee : Cond.code yX4_foresee cX4_foresee 4 (some .int) ∈ wAll := wAll_in (i := 347) (by decide +kernel) (by decide +kernel)
theorem wi_X4_foresee : Cond.instanceMethod yX4_foresee ∈ wAll := wAll_in (i := 345) (by decide +kernel) (by decide +kernel)
theorem wse_X4_foresee : Cond.selects RX4 yX4_foresee yX4_foresee ∈ wAll := wAll_in (i := 346) (by decide +kernel) (by decide +kernel)
theorem wc_X4_give : Cond.code yX4_give cX4_give 4 (some .int) ∈ wAll := wAll_in (i := 528) (by decide +kernel) (by decide +kernel)
theorem wi_X4_give : Cond.instanceMethod yX4_give ∈ wAll := wAll_in (i := 526) (by decide +kernel) (by decide +kernel)
theorem wse_X4_give : Cond.selects RX4 yX4_give yX4_give ∈ wAll := wAll_in (i := 527) (by decide +kernel) (by decide +kernel)
theorem wc_X4_go : Cond.code yX4_go cX4_go 2 (some .int) ∈ wAll := wAll_in (i := 243) (by decide +kernel) (by decide +kernel)
theorem wi_X4_go : Cond.instanceMethod yX4_go ∈ wAll := wAll_in (i := 241) (by decide +kernel) (by decide +kernel)
theorem wse_X4_go : Cond.selects RX4 yX4_go yX4_go ∈ wAll := wAll_in (i := 242) (by decide +kernel) (by decide +kernel)
theorem wc_X4_init : Cond.code yX4_init cX4_init 1 none ∈ wAll := wAll_in (i := 394) (by decide +kernel) (by decide +kernel)
theorem wi_X4_init : Cond.instanceMethod yX4_init ∈ wAll := wAll_in (i := 393) (by decide +kernel) (by decide +kernel)
theorem wc_X4_juggler : Cond.code yX4_juggler cX4_juggler 3 (some .int) ∈ wAll := wAll_in (i := 231) (by decide +kernel) (by decide +kernel)
theorem wi_X4_juggler : Cond.instanceMethod yX4_juggler ∈ wAll := wAll_in (i := 229) (by decide +kernel) (by decide +kernel)
theorem wse_X4_juggler : Cond.selects RX4 yX4_juggler yX4_juggler ∈ wAll := wAll_in (i := 230) (by decide +kernel) (by decide +kernel)
theorem wc_X4_make : Cond.code yX4_make cX4_make 2 (some .int) ∈ wAll := wAll_in (i := 204) (by decide +kernel) (by decide +kernel)
theorem wi_X4_make : Cond.instanceMethod yX4_make ∈ wAll := wAll_in (i := 202) (by decide +kernel) (by decide +kernel)
theorem wse_X4_make : Cond.selects RX4 yX4_make yX4_make ∈ wAll := wAll_in (i := 203) (by decide +kernel) (by decide +kernel)
theorem wc_X4_mean : Cond.code yX4_mean cX4_mean 1 (some .double) ∈ wAll := wAll_in (i := 364) (by decide +kernel) (by decide +kernel)
theorem wi_X4_mean : Cond.instanceMethod yX4_mean ∈ wAll := wAll_in (i := 362) (by decide +kernel) (by decide +kernel)
theorem wse_X4_mean : Cond.selects RX4 yX4_mean yX4_mean ∈ wAll := wAll_in (i := 363) (by decide +kernel) (by decide +kernel)
theorem wc_X4_pass : Cond.code yX4_pass cX4_pass 6 (some .int) ∈ wAll := wAll_in (i := 187) (by decide +kernel) (by decide +kernel)
theorem wi_X4_pass : Cond.instanceMethod yX4_pass ∈ wAll := wAll_in (i := 185) (by decide +kernel) (by decide +kernel)
theorem wse_X4_pass : Cond.selects RX4 yX4_pass yX4_pass ∈ wAll := wAll_in (i := 186) (by decide +kernel) (by decide +kernel)
theorem wc_X4_powerOfTen : Cond.code yX4_powerOfTen cX4_powerOfTen 3 (some .int) ∈ wAll := wAll_in (i := 181) (by decide +kernel) (by decide +kernel)
theorem wst_X4_powerOfTen : Cond.static yX4_powerOfTen ∈ wAll := wAll_in (i := 180) (by decide +kernel) (by decide +kernel)
theorem wc_X4_setPattern : Cond.code yX4_setPattern cX4_setPattern 6 (some .int) ∈ wAll := wAll_in (i := 152) (by decide +kernel) (by decide +kernel)
theorem wi_X4_setPattern : Cond.instanceMethod yX4_setPattern ∈ wAll := wAll_in (i := 150) (by decide +kernel) (by decide +kernel)
theorem wse_X4_setPattern : Cond.selects RX4 yX4_setPattern yX4_setPattern ∈ wAll := wAll_in (i := 151) (by decide +kernel) (by decide +kernel)
theorem wc_X4_testBeats : Cond.code yX4_testBeats cX4_testBeats 2 none ∈ wAll := wAll_in (i := 246) (by decide +kernel) (by decide +kernel)
theorem wst_X4_testBeats : Cond.static yX4_testBeats ∈ wAll := wAll_in (i := 245) (by decide +kernel) (by decide +kernel)
theorem wc_X4_testJuggler : Cond.code yX4_testJuggler cX4_testJuggler 2 none ∈ wAll := wAll_in (i := 157) (by decide +kernel) (by decide +kernel)
theorem wi_X4_testJuggler : Cond.instanceMethod yX4_testJuggler ∈ wAll := wAll_in (i := 155) (by decide +kernel) (by decide +kernel)
theorem wse_X4_testJuggler : Cond.selects RX4 yX4_testJuggler yX4_testJuggler ∈ wAll := wAll_in (i := 3) (by decide +kernel) (by decide +kernel)
theorem wc_X4_testPlace : Cond.code yX4_testPlace cX4_testPlace 3 none ∈ wAll := wAll_in (i := 191) (by decide +kernel) (by decide +kernel)
theorem wi_X4_testPlace : Cond.instanceMethod yX4_testPlace ∈ wAll := wAll_in (i := 190) (by decide +kernel) (by decide +kernel)
theorem wse_X4_testPlace : Cond.selects RX4 yX4_testPlace yX4_testPlace ∈ wAll := wAll_in (i := 5) (by decide +kernel) (by decide +kernel)
theorem wc_X4_testThing : Cond.code yX4_testThing cX4_testThing 2 none ∈ wAll := wAll_in (i := 218) (by decide +kernel) (by decide +kernel)
theorem wi_X4_testThing : Cond.instanceMethod yX4_testThing ∈ wAll := wAll_in (i := 217) (by decide +kernel) (by decide +kernel)
theorem wse_X4_testThing : Cond.selects RX4 yX4_testThing yX4_testThing ∈ wAll := wAll_in (i := 7) (by decide +kernel) (by decide +kernel)
theorem wc_X4_testWhat : Cond.code yX4_testWhat cX4_testWhat 2 none ∈ wAll := wAll_in (i := 199) (by decide +kernel) (by decide +kernel)
theorem wst_X4_testWhat : Cond.static yX4_testWhat ∈ wAll := wAll_in (i := 198) (by decide +kernel) (by decide +kernel)
theorem wc_X4_thing : Cond.code yX4_thing cX4_thing 3 (some .int) ∈ wAll := wAll_in (i := 214) (by decide +kernel) (by decide +kernel)
theorem wi_X4_thing : Cond.instanceMethod yX4_thing ∈ wAll := wAll_in (i := 212) (by decide +kernel) (by decide +kernel)
theorem wse_X4_thing : Cond.selects RX4 yX4_thing yX4_thing ∈ wAll := wAll_in (i := 213) (by decide +kernel) (by decide +kernel)
theorem wc_X4_written : Cond.code yX4_written cX4_written 5 (some .int) ∈ wAll := wAll_in (i := 196) (by decide +kernel) (by decide +kernel)
theorem wi_X4_written : Cond.instanceMethod yX4_written ∈ wAll := wAll_in (i := 194) (by decide +kernel) (by decide +kernel)
theorem wse_X4_written : Cond.selects RX4 yX4_written yX4_written ∈ wAll := wAll_in (i := 195) (by decide +kernel) (by decide +kernel)
theorem wcl_X4_7 : Cond.classLink RX4 7 RX2 ∈ wAll := wAll_in (i := 396) (by decide +kernel) (by decide +kernel)
theorem wml_X4_9 : Cond.methodLinkNest RX4 9 yX2_init "HammerEggs" ∈ nestW := nest_in (i := 361) (by decide +kernel) rfl
theorem wf_X4_10 : Cond.fieldLink RX4 10 RX4 "now" "LHammerEggs$Ring;" ∈ wAll := wAll_in (i := 514) (by decide +kernel) (by decide +kernel)
theorem wf_X4_16 : Cond.fieldLink RX4 16 RX4 "trial" "LHammerEggs$Ring;" ∈ wAll := wAll_in (i := 515) (by decide +kernel) (by decide +kernel)
theorem wcl_X4_19 : Cond.classLink RX4 19 "java/lang/IllegalArgumentException" ∈ wAll := wAll_in (i := 53) (by decide +kernel) (by decide +kernel)
theorem wf_X4_26 : Cond.fieldLinkNest RX4 26 RX2 "jugglerCount" "I" "HammerEggs" ∈ nestW := nest_in (i := 462) (by decide +kernel) rfl
theorem wcl_X4_30 : Cond.classLink RX4 30 "java/lang/IllegalStateException" ∈ wAll := wAll_in (i := 123) (by decide +kernel) (by decide +kernel)
theorem wml_X4_35 : Cond.methodLinkNest RX4 35 yX2_addJuggler "HammerEggs" ∈ nestW := nest_in (i := 103) (by decide +kernel) rfl
theorem wm_X4_35 : Wn RX4 35 RX2 yX2_addJuggler cX2_addJuggler 3 (some .int) 1 := ⟨by decide +kernel, ⟨_, wml_X4_35⟩, wi_X2_addJuggler, wse_X2_addJuggler, wini_X2, wc_X2_addJuggler⟩
theorem wml_X4_39 : Cond.methodLink RX4 39 yX4_testJuggler ∈ wAll := wAll_in (i := 153) (by decide +kernel) (by decide +kernel)
theorem wm_X4_39 : Wv RX4 39 RX4 yX4_testJuggler cX4_testJuggler 2 none 1 := ⟨by decide +kernel, wml_X4_39, wi_X4_testJuggler, wse_X4_testJuggler, wini_X4, wc_X4_testJuggler⟩
theorem wml_X4_45 : Cond.methodLink RX4 45 yX4_powerOfTen ∈ wAll := wAll_in (i := 179) (by decide +kernel) (by decide +kernel)
theorem wm_X4_45 : Ws RX4 45 yX4_powerOfTen cX4_powerOfTen 3 (some .int) 1 := ⟨by decide +kernel, wml_X4_45, wst_X4_powerOfTen, wini_X4, wc_X4_powerOfTen⟩
theorem wf_X4_50 : Cond.fieldLinkNest RX4 50 RX2 "jugglers" "[LHammerEggs$Juggler;" "HammerEggs" ∈ nestW := nest_in (i := 458) (by decide +kernel) rfl
theorem wf_X4_54 : Cond.fieldLinkNest RX4 54 RX0 "pattern" "LHammerEggs$Pattern;" "HammerEggs" ∈ nestW := nest_in (i := 394) (by decide +kernel) rfl
theorem wf_X4_60 : Cond.fieldLinkNest RX4 60 RX1 "length" "I" "HammerEggs" ∈ nestW := nest_in (i := 383) (by decide +kernel) rfl
theorem wml_X4_65 : Cond.methodLinkNest RX4 65 yX1_write "HammerEggs" ∈ nestW := nest_in (i := 147) (by decide +kernel) rfl
theorem wm_X4_65 : Wn RX4 65 RX1 yX1_write cX1_write 6 none 3 := ⟨by decide +kernel, ⟨_, wml_X4_65⟩, wi_X1_write, wse_X1_write, wini_X1, wc_X1_write⟩
theorem wml_X4_69 : Cond.methodLink RX4 69 yX4_testPlace ∈ wAll := wAll_in (i := 188) (by decide +kernel) (by decide +kernel)
theorem wm_X4_69 : Wv RX4 69 RX4 yX4_testPlace cX4_testPlace 3 none 2 := ⟨by decide +kernel, wml_X4_69, wi_X4_testPlace, wse_X4_testPlace, wini_X4, wc_X4_testPlace⟩
theorem wf_X4_73 : Cond.fieldLinkNest RX4 73 RX1 "receivers" "[I" "HammerEggs" ∈ nestW := nest_in (i := 380) (by decide +kernel) rfl
theorem wml_X4_77 : Cond.methodLink RX4 77 yX4_testWhat ∈ wAll := wAll_in (i := 197) (by decide +kernel) (by decide +kernel)
theorem wm_X4_77 : Ws RX4 77 yX4_testWhat cX4_testWhat 2 none 2 := ⟨by decide +kernel, wml_X4_77, wst_X4_testWhat, wini_X4, wc_X4_testWhat⟩
theorem wf_X4_80 : Cond.fieldLinkNest RX4 80 RX1 "heights" "[I" "HammerEggs" ∈ nestW := nest_in (i := 377) (by decide +kernel) rfl
theorem wf_X4_85 : Cond.fieldLinkNest RX4 85 RX2 "thingCount" "I" "HammerEggs" ∈ nestW := nest_in (i := 464) (by decide +kernel) rfl
theorem wml_X4_90 : Cond.methodLinkNest RX4 90 yX2_addThing "HammerEggs" ∈ nestW := nest_in (i := 171) (by decide +kernel) rfl
theorem wm_X4_90 : Wn RX4 90 RX2 yX2_addThing cX2_addThing 3 (some .int) 1 := ⟨by decide +kernel, ⟨_, wml_X4_90⟩, wi_X2_addThing, wse_X2_addThing, wini_X2, wc_X2_addThing⟩
theorem wml_X4_93 : Cond.methodLink RX4 93 yX4_testThing ∈ wAll := wAll_in (i := 215) (by decide +kernel) (by decide +kernel)
theorem wm_X4_93 : Wv RX4 93 RX4 yX4_testThing cX4_testThing 2 none 1 := ⟨by decide +kernel, wml_X4_93, wi_X4_testThing, wse_X4_testThing, wini_X4, wc_X4_testThing⟩
theorem wcl_X4_96 : Cond.classLink RX4 96 "java/lang/IndexOutOfBoundsException" ∈ wAll := wAll_in (i := 162) (by decide +kernel) (by decide +kernel)
theorem wf_X4_101 : Cond.fieldLinkNest RX4 101 RX2 "things" "[LHammerEggs$Thing;" "HammerEggs" ∈ nestW := nest_in (i := 460) (by decide +kernel) rfl
theorem wf_X4_105 : Cond.fieldLinkNest RX4 105 RX3 "state" "I" "HammerEggs" ∈ nestW := nest_in (i := 427) (by decide +kernel) rfl
theorem wf_X4_112 : Cond.fieldLinkNest RX4 112 RX0 "hands" "[I" "HammerEggs" ∈ nestW := nest_in (i := 398) (by decide +kernel) rfl
theorem wml_X4_117 : Cond.methodLinkNest RX4 117 yX2_putIntoHand "HammerEggs" ∈ nestW := nest_in (i := 496) (by decide +kernel) rfl
theorem wm_X4_117 : Wn RX4 117 RX2 yX2_putIntoHand cX2_putIntoHand 5 none 3 := ⟨by decide +kernel, ⟨_, wml_X4_117⟩, wi_X2_putIntoHand, wse_X2_putIntoHand, wini_X2, wc_X2_putIntoHand⟩
theorem wml_X4_120 : Cond.methodLinkNest RX4 120 yX0_thingsHeld "HammerEggs" ∈ nestW := nest_in (i := 497) (by decide +kernel) rfl
theorem wm_X4_120 : Wn RX4 120 RX0 yX0_thingsHeld cX0_thingsHeld 3 (some .int) 0 := ⟨by decide +kernel, ⟨_, wml_X4_120⟩, wi_X0_thingsHeld, wse_X0_thingsHeld, wini_X0, wc_X0_thingsHeld⟩
theorem wml_X4_124 : Cond.methodLinkNest RX4 124 yX2_tellThing "HammerEggs" ∈ nestW := nest_in (i := 188) (by decide +kernel) rfl
theorem wm_X4_124 : Wn RX4 124 RX2 yX2_tellThing cX2_tellThing 4 (some .int) 2 := ⟨by decide +kernel, ⟨_, wml_X4_124⟩, wi_X2_tellThing, wse_X2_tellThing, wini_X2, wc_X2_tellThing⟩
theorem wml_X4_128 : Cond.methodLinkNest RX4 128 yX2_tellJuggler "HammerEggs" ∈ nestW := nest_in (i := 196) (by decide +kernel) rfl
theorem wm_X4_128 : Wn RX4 128 RX2 yX2_tellJuggler cX2_tellJuggler 4 (some .int) 2 := ⟨by decide +kernel, ⟨_, wml_X4_128⟩, wi_X2_tellJuggler, wse_X2_tellJuggler, wini_X2, wc_X2_tellJuggler⟩
theorem wml_X4_141 : Cond.methodLink RX4 141 yX4_testBeats ∈ wAll := wAll_in (i := 244) (by decide +kernel) (by decide +kernel)
theorem wm_X4_141 : Ws RX4 141 yX4_testBeats cX4_testBeats 2 none 2 := ⟨by decide +kernel, wml_X4_141, wst_X4_testBeats, wini_X4, wc_X4_testBeats⟩
theorem wml_X4_144 : Cond.methodLinkNest RX4 144 yX2_play "HammerEggs" ∈ nestW := nest_in (i := 212) (by decide +kernel) rfl
theorem wm_X4_144 : Wn RX4 144 RX2 yX2_play cX2_play 4 (some .int) 1 := ⟨by decide +kernel, ⟨_, wml_X4_144⟩, wi_X2_play, wse_X2_play, wini_X2, wc_X2_play⟩
theorem wml_X4_147 : Cond.methodLinkNest RX4 147 yX2_tellCount "HammerEggs" ∈ nestW := nest_in (i := 271) (by decide +kernel) rfl
theorem wm_X4_147 : Wn RX4 147 RX2 yX2_tellCount cX2_tellCount 2 (some .int) 1 := ⟨by decide +kernel, ⟨_, wml_X4_147⟩, wi_X2_tellCount, wse_X2_tellCount, wini_X2, wc_X2_tellCount⟩
theorem wml_X4_150 : Cond.methodLinkNest RX4 150 yX2_copyFrom "HammerEggs" ∈ nestW := nest_in (i := 291) (by decide +kernel) rfl
theorem wm_X4_150 : Wn RX4 150 RX2 yX2_copyFrom cX2_copyFrom 3 none 1 := ⟨by decide +kernel, ⟨_, wml_X4_150⟩, wi_X2_copyFrom, wse_X2_copyFrom, wini_X2, wc_X2_copyFrom⟩
theorem wml_X4_154 : Cond.methodLinkNest RX4 154 yX2_playBeat "HammerEggs" ∈ nestW := nest_in (i := 307) (by decide +kernel) rfl
theorem wm_X4_154 : Wn RX4 154 RX2 yX2_playBeat cX2_playBeat 4 (some .int) 0 := ⟨by decide +kernel, ⟨_, wml_X4_154⟩, wi_X2_playBeat, wse_X2_playBeat, wini_X2, wc_X2_playBeat⟩
theorem wml_X4_157 : Cond.methodLinkNest RX4 157 yX2_thingsIn "HammerEggs" ∈ nestW := nest_in (i := 312) (by decide +kernel) rfl
theorem wm_X4_157 : Wn RX4 157 RX2 yX2_thingsIn cX2_thingsIn 4 (some .int) 1 := ⟨by decide +kernel, ⟨_, wml_X4_157⟩, wi_X2_thingsIn, wse_X2_thingsIn, wini_X2, wc_X2_thingsIn⟩
theorem wml_X4_160 : Cond.methodLinkNest RX4 160 yX2_allBruises "HammerEggs" ∈ nestW := nest_in (i := 313) (by decide +kernel) rfl
theorem wm_X4_160 : Wn RX4 160 RX2 yX2_allBruises cX2_allBruises 3 (some .int) 0 := ⟨by decide +kernel, ⟨_, wml_X4_160⟩, wi_X2_allBruises, wse_X2_allBruises, wini_X2, wc_X2_allBruises⟩
theorem wml_X4_163 : Cond.methodLink RX4 163 yX4_fallenWith ∈ wAll := wAll_in (i := 357) (by decide +kernel) (by decide +kernel)
theorem wm_X4_163 : Wv RX4 163 RX4 yX4_fallenWith cX4_fallenWith 5 (some .int) 4 := ⟨by decide +kernel, wml_X4_163, wi_X4_fallenWith, wse_X4_fallenWith, wini_X4, wc_X4_fallenWith⟩
theorem wf_X4_167 : Cond.fieldLinkNest RX4 167 RX2 "beat" "I" "HammerEggs" ∈ nestW := nest_in (i := 466) (by decide +kernel) rfl
theorem wml_X4_170 : Cond.methodLinkNest RX4 170 yX2_allThrown "HammerEggs" ∈ nestW := nest_in (i := 329) (by decide +kernel) rfl
theorem wm_X4_170 : Wn RX4 170 RX2 yX2_allThrown cX2_allThrown 3 (some .int) 0 := ⟨by decide +kernel, ⟨_, wml_X4_170⟩, wi_X2_allThrown, wse_X2_allThrown, wini_X2, wc_X2_allThrown⟩
theorem wk_X4_173 : Cond.constantLong RX4 173 953 ∈ wAll := wAll_in (i := 370) (by decide +kernel) (by decide +kernel)
theorem wk_X4_175 : Cond.constantLong RX4 175 31 ∈ wAll := wAll_in (i := 371) (by decide +kernel) (by decide +kernel)
theorem wml_X4_177 : Cond.methodLinkNest RX4 177 yX1_addTo "HammerEggs" ∈ nestW := nest_in (i := 336) (by decide +kernel) rfl
theorem wm_X4_177 : Wn RX4 177 RX1 yX1_addTo cX1_addTo 6 (some .long) 1 := ⟨by decide +kernel, ⟨_, wml_X4_177⟩, wi_X1_addTo, wse_X1_addTo, wini_X1, wc_X1_addTo⟩
theorem wml_X4_181 : Cond.methodLinkNest RX4 181 yX2_hasJuggler "HammerEggs" ∈ nestW := nest_in (i := 122) (by decide +kernel) rfl
theorem wm_X4_181 : Wn RX4 181 RX2 yX2_hasJuggler cX2_hasJuggler 2 (some .boolean) 1 := ⟨by decide +kernel, ⟨_, wml_X4_181⟩, wi_X2_hasJuggler, wse_X2_hasJuggler, wini_X2, wc_X2_hasJuggler⟩
theorem wml_X4_189 : Cond.methodLinkNest RX4 189 yX2_hasThing "HammerEggs" ∈ nestW := nest_in (i := 183) (by decide +kernel) rfl
theorem wm_X4_189 : Wn RX4 189 RX2 yX2_hasThing cX2_hasThing 2 (some .boolean) 1 := ⟨by decide +kernel, ⟨_, wml_X4_189⟩, wi_X2_hasThing, wse_X2_hasThing, wini_X2, wc_X2_hasThing⟩
theorem wcl_X0_9 : Cond.classLink RX0 9 RX1 ∈ wAll := wAll_in (i := 407) (by decide +kernel) (by decide +kernel)
theorem wml_X0_11 : Cond.methodLinkNest RX0 11 yX1_init "HammerEggs" ∈ nestW := nest_in (i := 372) (by decide +kernel) rfl
theorem wf_X0_12 : Cond.fieldLink RX0 12 RX0 "pattern" "LHammerEggs$Pattern;" ∈ wAll := wAll_in (i := 429) (by decide +kernel) (by decide +kernel)
theorem wf_X0_18 : Cond.fieldLink RX0 18 RX0 "hands" "[I" ∈ wAll := wAll_in (i := 432) (by decide +kernel) (by decide +kernel)
theorem wml_X0_22 : Cond.methodLinkNest RX0 22 yX1_copyFrom "HammerEggs" ∈ nestW := nest_in (i := 299) (by decide +kernel) rfl
theorem wm_X0_22 : Wn RX0 22 RX1 yX1_copyFrom cX1_copyFrom 3 none 1 := ⟨by decide +kernel, ⟨_, wml_X0_22⟩, wi_X1_copyFrom, wse_X1_copyFrom, wini_X1, wc_X1_copyFrom⟩
theorem wf_X0_26 : Cond.fieldLink RX0 26 RX0 "skill" "I" ∈ wAll := wAll_in (i := 435) (by decide +kernel) (by decide +kernel)
theorem wf_X0_30 : Cond.fieldLink RX0 30 RX0 "bruises" "I" ∈ wAll := wAll_in (i := 437) (by decide +kernel) (by decide +kernel)
theorem wf_X0_33 : Cond.fieldLink RX0 33 RX0 "caught" "I" ∈ wAll := wAll_in (i := 439) (by decide +kernel) (by decide +kernel)
theorem wf_X0_36 : Cond.fieldLinkNest RX0 36 RX3 "kind" "I" "HammerEggs" ∈ nestW := nest_in (i := 423) (by decide +kernel) rfl
theorem wml_X0_41 : Cond.methodLinkNest RX0 41 yX3_fall "HammerEggs" ∈ nestW := nest_in (i := 243) (by decide +kernel) rfl
theorem wm_X0_41 : Wn RX0 41 RX3 yX3_fall cX3_fall 1 none 0 := ⟨by decide +kernel, ⟨_, wml_X0_41⟩, wi_X3_fall, wse_X3_fall, wini_X3, wc_X3_fall⟩
theorem wf_X1_9 : Cond.fieldLink RX1 9 RX1 "heights" "[I" ∈ wAll := wAll_in (i := 412) (by decide +kernel) (by decide +kernel)
theorem wf_X1_15 : Cond.fieldLink RX1 15 RX1 "receivers" "[I" ∈ wAll := wAll_in (i := 415) (by decide +kernel) (by decide +kernel)
theorem wf_X1_18 : Cond.fieldLink RX1 18 RX1 "length" "I" ∈ wAll := wAll_in (i := 418) (by decide +kernel) (by decide +kernel)
theorem wml_X1_22 : Cond.methodLink RX1 22 yJ9_floorMod_7cf53 ∈ wAll := wAll_in (i := 291) (by decide +kernel) (by decide +kernel)
theorem wm_X1_22 : Ws RX1 22 yJ9_floorMod_7cf53 cJ9_floorMod_7cf53 3 (some .int) 2 := ⟨by decide +kernel, wml_X1_22, wst_J9_floorMod_7cf53, wini_Math, wc_J9_floorMod_7cf53⟩
theorem wk_X1_32 : Cond.constantLong RX1 32 31 ∈ wAll := wAll_in (i := 376) (by decide +kernel) (by decide +kernel)
theorem wcl_X2_9 : Cond.classLink RX2 9 RX0 ∈ wAll := wAll_in (i := 401) (by decide +kernel) (by decide +kernel)
theorem wf_X2_11 : Cond.fieldLink RX2 11 RX2 "jugglers" "[LHammerEggs$Juggler;" ∈ wAll := wAll_in (i := 493) (by decide +kernel) (by decide +kernel)
theorem wml_X2_17 : Cond.methodLinkNest RX2 17 yX0_init "HammerEggs" ∈ nestW := nest_in (i := 367) (by decide +kernel) rfl
theorem wcl_X2_18 : Cond.classLink RX2 18 RX3 ∈ wAll := wAll_in (i := 452) (by decide +kernel) (by decide +kernel)
theorem wf_X2_20 : Cond.fieldLink RX2 20 RX2 "things" "[LHammerEggs$Thing;" ∈ wAll := wAll_in (i := 495) (by decide +kernel) (by decide +kernel)
theorem wml_X2_24 : Cond.methodLinkNest RX2 24 yX3_init "HammerEggs" ∈ nestW := nest_in (i := 418) (by decide +kernel) rfl
theorem wf_X2_25 : Cond.fieldLink RX2 25 RX2 "jugglerCount" "I" ∈ wAll := wAll_in (i := 497) (by decide +kernel) (by decide +kernel)
theorem wf_X2_29 : Cond.fieldLink RX2 29 RX2 "thingCount" "I" ∈ wAll := wAll_in (i := 499) (by decide +kernel) (by decide +kernel)
theorem wf_X2_32 : Cond.fieldLink RX2 32 RX2 "beat" "I" ∈ wAll := wAll_in (i := 501) (by decide +kernel) (by decide +kernel)
theorem wml_X2_35 : Cond.methodLinkNest RX2 35 yX0_copyFrom "HammerEggs" ∈ nestW := nest_in (i := 295) (by decide +kernel) rfl
theorem wm_X2_35 : Wn RX2 35 RX0 yX0_copyFrom cX0_copyFrom 3 none 1 := ⟨by decide +kernel, ⟨_, wml_X2_35⟩, wi_X0_copyFrom, wse_X0_copyFrom, wini_X0, wc_X0_copyFrom⟩
theorem wml_X2_39 : Cond.methodLinkNest RX2 39 yX3_copyFrom "HammerEggs" ∈ nestW := nest_in (i := 303) (by decide +kernel) rfl
theorem wm_X2_39 : Wn RX2 39 RX3 yX3_copyFrom cX3_copyFrom 2 none 1 := ⟨by decide +kernel, ⟨_, wml_X2_39⟩, wi_X3_copyFrom, wse_X3_copyFrom, wini_X3, wc_X3_copyFrom⟩
theorem wf_X2_42 : Cond.fieldLinkNest RX2 42 RX0 "skill" "I" "HammerEggs" ∈ nestW := nest_in (i := 400) (by decide +kernel) rfl
theorem wf_X2_45 : Cond.fieldLinkNest RX2 45 RX0 "pattern" "LHammerEggs$Pattern;" "HammerEggs" ∈ nestW := nest_in (i := 395) (by decide +kernel) rfl
theorem wml_X2_49 : Cond.methodLinkNest RX2 49 yX1_write "HammerEggs" ∈ nestW := nest_in (i := 108) (by decide +kernel) rfl
theorem wm_X2_49 : Wn RX2 49 RX1 yX1_write cX1_write 6 none 3 := ⟨by decide +kernel, ⟨_, wml_X2_49⟩, wi_X1_write, wse_X1_write, wini_X1, wc_X1_write⟩
theorem wf_X2_55 : Cond.fieldLinkNest RX2 55 RX3 "kind" "I" "HammerEggs" ∈ nestW := nest_in (i := 424) (by decide +kernel) rfl
theorem wf_X2_58 : Cond.fieldLinkNest RX2 58 RX0 "hands" "[I" "HammerEggs" ∈ nestW := nest_in (i := 397) (by decide +kernel) rfl
theorem wf_X2_62 : Cond.fieldLinkNest RX2 62 RX3 "state" "I" "HammerEggs" ∈ nestW := nest_in (i := 426) (by decide +kernel) rfl
theorem wf_X2_65 : Cond.fieldLinkNest RX2 65 RX3 "juggler" "I" "HammerEggs" ∈ nestW := nest_in (i := 429) (by decide +kernel) rfl
theorem wf_X2_68 : Cond.fieldLinkNest RX2 68 RX3 "hand" "I" "HammerEggs" ∈ nestW := nest_in (i := 431) (by decide +kernel) rfl
theorem wml_X2_71 : Cond.methodLink RX2 71 yX2_playBeat ∈ wAll := wAll_in (i := 252) (by decide +kernel) (by decide +kernel)
theorem wm_X2_71 : Wv RX2 71 RX2 yX2_playBeat cX2_playBeat 4 (some .int) 0 := ⟨by decide +kernel, wml_X2_71, wi_X2_playBeat, wse_X2_playBeat, wini_X2, wc_X2_playBeat⟩
theorem wml_X2_75 : Cond.methodLink RX2 75 yX2_comeDown ∈ wAll := wAll_in (i := 256) (by decide +kernel) (by decide +kernel)
theorem wm_X2_75 : Wv RX2 75 RX2 yX2_comeDown cX2_comeDown 6 (some .int) 1 := ⟨by decide +kernel, wml_X2_75, wi_X2_comeDown, wse_X2_comeDown, wini_X2, wc_X2_comeDown⟩
theorem wml_X2_79 : Cond.methodLink RX2 79 yX2_throwFrom ∈ wAll := wAll_in (i := 283) (by decide +kernel) (by decide +kernel)
theorem wm_X2_79 : Wv RX2 79 RX2 yX2_throwFrom cX2_throwFrom 6 none 2 := ⟨by decide +kernel, wml_X2_79, wi_X2_throwFrom, wse_X2_throwFrom, wini_X2, wc_X2_throwFrom⟩
theorem wml_X2_83 : Cond.methodLinkNest RX2 83 yX3_comesDownIn "HammerEggs" ∈ nestW := nest_in (i := 224) (by decide +kernel) rfl
theorem wm_X2_83 : Wn RX2 83 RX3 yX3_comesDownIn cX3_comesDownIn 2 (some .boolean) 1 := ⟨by decide +kernel, ⟨_, wml_X2_83⟩, wi_X3_comesDownIn, wse_X3_comesDownIn, wini_X3, wc_X3_comesDownIn⟩
theorem wml_X2_87 : Cond.methodLink RX2 87 yX2_hasJuggler ∈ wAll := wAll_in (i := 265) (by decide +kernel) (by decide +kernel)
theorem wm_X2_87 : Wv RX2 87 RX2 yX2_hasJuggler cX2_hasJuggler 2 (some .boolean) 1 := ⟨by decide +kernel, wml_X2_87, wi_X2_hasJuggler, wse_X2_hasJuggler, wini_X2, wc_X2_hasJuggler⟩
theorem wf_X2_90 : Cond.fieldLinkNest RX2 90 RX3 "height" "I" "HammerEggs" ∈ nestW := nest_in (i := 435) (by decide +kernel) rfl
theorem wml_X2_93 : Cond.methodLinkNest RX2 93 yX0_canCatch "HammerEggs" ∈ nestW := nest_in (i := 230) (by decide +kernel) rfl
theorem wm_X2_93 : Wn RX2 93 RX0 yX0_canCatch cX0_canCatch 3 (some .boolean) 2 := ⟨by decide +kernel, ⟨_, wml_X2_93⟩, wi_X0_canCatch, wse_X0_canCatch, wini_X0, wc_X0_canCatch⟩
theorem wml_X2_97 : Cond.methodLink RX2 97 yX2_putIntoHand ∈ wAll := wAll_in (i := 271) (by decide +kernel) (by decide +kernel)
theorem wm_X2_97 : Wv RX2 97 RX2 yX2_putIntoHand cX2_putIntoHand 5 none 3 := ⟨by decide +kernel, wml_X2_97, wi_X2_putIntoHand, wse_X2_putIntoHand, wini_X2, wc_X2_putIntoHand⟩
theorem wf_X2_100 : Cond.fieldLinkNest RX2 100 RX0 "caught" "I" "HammerEggs" ∈ nestW := nest_in (i := 404) (by decide +kernel) rfl
theorem wml_X2_103 : Cond.methodLinkNest RX2 103 yX0_miss "HammerEggs" ∈ nestW := nest_in (i := 239) (by decide +kernel) rfl
theorem wm_X2_103 : Wn RX2 103 RX0 yX0_miss cX0_miss 2 none 1 := ⟨by decide +kernel, ⟨_, wml_X2_103⟩, wi_X0_miss, wse_X0_miss, wini_X0, wc_X0_miss⟩
theorem wml_X2_106 : Cond.methodLinkNest RX2 106 yX1_placeIn "HammerEggs" ∈ nestW := nest_in (i := 251) (by decide +kernel) rfl
theorem wm_X2_106 : Wn RX2 106 RX1 yX1_placeIn cX1_placeIn 2 (some .int) 1 := ⟨by decide +kernel, ⟨_, wml_X2_106⟩, wi_X1_placeIn, wse_X1_placeIn, wini_X1, wc_X1_placeIn⟩
theorem wf_X2_109 : Cond.fieldLinkNest RX2 109 RX1 "heights" "[I" "HammerEggs" ∈ nestW := nest_in (i := 378) (by decide +kernel) rfl
theorem wml_X2_112 : Cond.methodLink RX2 112 yX2_hasThing ∈ wAll := wAll_in (i := 294) (by decide +kernel) (by decide +kernel)
theorem wm_X2_112 : Wv RX2 112 RX2 yX2_hasThing cX2_hasThing 2 (some .boolean) 1 := ⟨by decide +kernel, wml_X2_112, wi_X2_hasThing, wse_X2_hasThing, wini_X2, wc_X2_hasThing⟩
theorem wf_X2_115 : Cond.fieldLinkNest RX2 115 RX1 "receivers" "[I" "HammerEggs" ∈ nestW := nest_in (i := 381) (by decide +kernel) rfl
theorem wml_X2_118 : Cond.methodLinkNest RX2 118 yX3_fly "HammerEggs" ∈ nestW := nest_in (i := 259) (by decide +kernel) rfl
theorem wm_X2_118 : Wn RX2 118 RX3 yX3_fly cX3_fly 4 none 3 := ⟨by decide +kernel, ⟨_, wml_X2_118⟩, wi_X3_fly, wse_X3_fly, wini_X3, wc_X3_fly⟩
theorem wf_X2_121 : Cond.fieldLinkNest RX2 121 RX3 "thrown" "I" "HammerEggs" ∈ nestW := nest_in (i := 437) (by decide +kernel) rfl
theorem wf_X2_124 : Cond.fieldLinkNest RX2 124 RX3 "fell" "I" "HammerEggs" ∈ nestW := nest_in (i := 439) (by decide +kernel) rfl
theorem wf_X2_127 : Cond.fieldLinkNest RX2 127 RX0 "bruises" "I" "HammerEggs" ∈ nestW := nest_in (i := 402) (by decide +kernel) rfl
theorem wf_X2_130 : Cond.fieldLinkNest RX2 130 RX3 "due" "I" "HammerEggs" ∈ nestW := nest_in (i := 433) (by decide +kernel) rfl
theorem wf_X2_133 : Cond.fieldLinkNest RX2 133 RX1 "length" "I" "HammerEggs" ∈ nestW := nest_in (i := 384) (by decide +kernel) rfl
theorem wml_X2_136 : Cond.methodLink RX2 136 yX2_thingsFlyingTo ∈ wAll := wAll_in (i := 236) (by decide +kernel) (by decide +kernel)
theorem wm_X2_136 : Wv RX2 136 RX2 yX2_thingsFlyingTo cX2_thingsFlyingTo 4 (some .int) 1 := ⟨by decide +kernel, wml_X2_136, wi_X2_thingsFlyingTo, wse_X2_thingsFlyingTo, wini_X2, wc_X2_thingsFlyingTo⟩
theorem wml_X2_139 : Cond.methodLink RX2 139 yX2_thingsIn ∈ wAll := wAll_in (i := 311) (by decide +kernel) (by decide +kernel)
theorem wm_X2_139 : Wv RX2 139 RX2 yX2_thingsIn cX2_thingsIn 4 (some .int) 1 := ⟨by decide +kernel, wml_X2_139, wi_X2_thingsIn, wse_X2_thingsIn, wini_X2, wc_X2_thingsIn⟩
theorem wml_X2_142 : Cond.methodLink RX2 142 yX2_allFell ∈ wAll := wAll_in (i := 315) (by decide +kernel) (by decide +kernel)
theorem wm_X2_142 : Wv RX2 142 RX2 yX2_allFell cX2_allFell 3 (some .int) 0 := ⟨by decide +kernel, wml_X2_142, wi_X2_allFell, wse_X2_allFell, wini_X2, wc_X2_allFell⟩
theorem wml_X2_145 : Cond.methodLink RX2 145 yX2_allThrown ∈ wAll := wAll_in (i := 319) (by decide +kernel) (by decide +kernel)
theorem wm_X2_145 : Wv RX2 145 RX2 yX2_allThrown cX2_allThrown 3 (some .int) 0 := ⟨by decide +kernel, wml_X2_145, wi_X2_allThrown, wse_X2_allThrown, wini_X2, wc_X2_allThrown⟩
theorem wf_X3_9 : Cond.fieldLink RX3 9 RX3 "state" "I" ∈ wAll := wAll_in (i := 461) (by decide +kernel) (by decide +kernel)
theorem wf_X3_15 : Cond.fieldLink RX3 15 RX3 "juggler" "I" ∈ wAll := wAll_in (i := 464) (by decide +kernel) (by decide +kernel)
theorem wf_X3_18 : Cond.fieldLink RX3 18 RX3 "hand" "I" ∈ wAll := wAll_in (i := 466) (by decide +kernel) (by decide +kernel)
theorem wf_X3_21 : Cond.fieldLink RX3 21 RX3 "kind" "I" ∈ wAll := wAll_in (i := 458) (by decide +kernel) (by decide +kernel)
theorem wf_X3_24 : Cond.fieldLink RX3 24 RX3 "due" "I" ∈ wAll := wAll_in (i := 468) (by decide +kernel) (by decide +kernel)
theorem wf_X3_27 : Cond.fieldLink RX3 27 RX3 "height" "I" ∈ wAll := wAll_in (i := 470) (by decide +kernel) (by decide +kernel)
theorem wf_X3_30 : Cond.fieldLink RX3 30 RX3 "thrown" "I" ∈ wAll := wAll_in (i := 472) (by decide +kernel) (by decide +kernel)
theorem wf_X3_33 : Cond.fieldLink RX3 33 RX3 "fell" "I" ∈ wAll := wAll_in (i := 474) (by decide +kernel) (by decide +kernel)
theorem wml_X3_36 : Cond.methodLink RX3 36 yX3_beatsInAir ∈ wAll := wAll_in (i := 299) (by decide +kernel) (by decide +kernel)
theorem wm_X3_36 : Wv RX3 36 RX3 yX3_beatsInAir cX3_beatsInAir 2 (some .int) 1 := ⟨by decide +kernel, wml_X3_36, wi_X3_beatsInAir, wse_X3_beatsInAir, wini_X3, wc_X3_beatsInAir⟩
theorem wml_L_9 : Cond.methodLink RL 9 yL_below ∈ wAll := wAll_in (i := 377) (by decide +kernel) (by decide +kernel)
theorem wm_L_9 : Ws RL 9 yL_below cL_below 2 (some .int) 2 := ⟨by decide +kernel, wml_L_9, wst_L_below, wini_L, wc_L_below⟩
theorem wcl_L_15 : Cond.classLink RL 15 RX4 ∈ wAll := wAll_in (i := 391) (by decide +kernel) (by decide +kernel)
theorem wml_L_17 : Cond.methodLink RL 17 yX4_init ∈ wAll := wAll_in (i := 392) (by decide +kernel) (by decide +kernel)
theorem wml_L_18 : Cond.methodLink RL 18 yL_cell ∈ wAll := wAll_in (i := 381) (by decide +kernel) (by decide +kernel)
theorem wm_L_18 : Ws RL 18 yL_cell cL_cell 2 (some .int) 2 := ⟨by decide +kernel, wml_L_18, wst_L_cell, wini_L, wc_L_cell⟩
theorem wml_L_22 : Cond.methodLink RL 22 yX4_come ∈ wAll := wAll_in (i := 49) (by decide +kernel) (by decide +kernel)
theorem wm_L_22 : Wv RL 22 RX4 yX4_come cX4_come 2 (some .int) 1 := ⟨by decide +kernel, wml_L_22, wi_X4_come, wse_X4_come, wini_X4, wc_X4_come⟩
theorem wml_L_26 : Cond.methodLink RL 26 yL_heights ∈ wAll := wAll_in (i := 385) (by decide +kernel) (by decide +kernel)
theorem wm_L_26 : Ws RL 26 yL_heights cL_heights 4 (some .int) 2 := ⟨by decide +kernel, wml_L_26, wst_L_heights, wini_L, wc_L_heights⟩
theorem wml_L_29 : Cond.methodLink RL 29 yX4_setPattern ∈ wAll := wAll_in (i := 149) (by decide +kernel) (by decide +kernel)
theorem wm_L_29 : Wv RL 29 RX4 yX4_setPattern cX4_setPattern 6 (some .int) 3 := ⟨by decide +kernel, wml_L_29, wi_X4_setPattern, wse_X4_setPattern, wini_X4, wc_X4_setPattern⟩
theorem wml_L_33 : Cond.methodLink RL 33 yX4_pass ∈ wAll := wAll_in (i := 184) (by decide +kernel) (by decide +kernel)
theorem wm_L_33 : Wv RL 33 RX4 yX4_pass cX4_pass 6 (some .int) 3 := ⟨by decide +kernel, wml_L_33, wi_X4_pass, wse_X4_pass, wini_X4, wc_X4_pass⟩
theorem wml_L_36 : Cond.methodLink RL 36 yX4_make ∈ wAll := wAll_in (i := 201) (by decide +kernel) (by decide +kernel)
theorem wm_L_36 : Wv RL 36 RX4 yX4_make cX4_make 2 (some .int) 1 := ⟨by decide +kernel, wml_L_36, wi_X4_make, wse_X4_make, wini_X4, wc_X4_make⟩
theorem wml_L_39 : Cond.methodLink RL 39 yL_give ∈ wAll := wAll_in (i := 521) (by decide +kernel) (by decide +kernel)
theorem wml_L_43 : Cond.methodLink RL 43 yX4_go ∈ wAll := wAll_in (i := 240) (by decide +kernel) (by decide +kernel)
theorem wm_L_43 : Wv RL 43 RX4 yX4_go cX4_go 2 (some .int) 1 := ⟨by decide +kernel, wml_L_43, wi_X4_go, wse_X4_go, wini_X4, wc_X4_go⟩
theorem wml_L_46 : Cond.methodLink RL 46 yX4_give ∈ wAll := wAll_in (i := 525) (by decide +kernel) (by decide +kernel)
theorem wm_L_46 : Wv RL 46 RX4 yX4_give cX4_give 4 (some .int) 3 := ⟨by decide +kernel, wml_L_46, wi_X4_give, wse_X4_give, wini_X4, wc_X4_give⟩
theorem wml_L_50 : Cond.methodLink RL 50 yL_ring ∈ wAll := wAll_in (i := 388) (by decide +kernel) (by decide +kernel)
theorem wm_L_50 : Ws RL 50 yL_ring cL_ring 7 (some (.object "HammerEggs")) 1 := ⟨by decide +kernel, wml_L_50, wst_L_ring, wini_L, wc_L_ring⟩
theorem wml_L_54 : Cond.methodLink RL 54 yX4_count ∈ wAll := wAll_in (i := 303) (by decide +kernel) (by decide +kernel)
theorem wm_L_54 : Wv RL 54 RX4 yX4_count cX4_count 2 (some .int) 1 := ⟨by decide +kernel, wml_L_54, wi_X4_count, wse_X4_count, wini_X4, wc_X4_count⟩
theorem wml_L_57 : Cond.methodLink RL 57 yX4_juggler ∈ wAll := wAll_in (i := 228) (by decide +kernel) (by decide +kernel)
theorem wm_L_57 : Wv RL 57 RX4 yX4_juggler cX4_juggler 3 (some .int) 2 := ⟨by decide +kernel, wml_L_57, wi_X4_juggler, wse_X4_juggler, wini_X4, wc_X4_juggler⟩
theorem wml_L_60 : Cond.methodLink RL 60 yX4_written ∈ wAll := wAll_in (i := 193) (by decide +kernel) (by decide +kernel)
theorem wm_L_60 : Wv RL 60 RX4 yX4_written cX4_written 5 (some .int) 3 := ⟨by decide +kernel, wml_L_60, wi_X4_written, wse_X4_written, wini_X4, wc_X4_written⟩
theorem wml_L_63 : Cond.methodLink RL 63 yX4_digest ∈ wAll := wAll_in (i := 366) (by decide +kernel) (by decide +kernel)
theorem wm_L_63 : Wv RL 63 RX4 yX4_digest cX4_digest 5 (some .long) 0 := ⟨by decide +kernel, wml_L_63, wi_X4_digest, wse_X4_digest, wini_X4, wc_X4_digest⟩
theorem wml_L_67 : Cond.methodLink RL 67 yX4_foresee ∈ wAll := wAll_in (i := 344) (by decide +kernel) (by decide +kernel)
theorem wm_L_67 : Wv RL 67 RX4 yX4_foresee cX4_foresee 4 (some .int) 2 := ⟨by decide +kernel, wml_L_67, wi_X4_foresee, wse_X4_foresee, wini_X4, wc_X4_foresee⟩
theorem wml_L_70 : Cond.methodLink RL 70 yX4_falls ∈ wAll := wAll_in (i := 323) (by decide +kernel) (by decide +kernel)
theorem wm_L_70 : Wv RL 70 RX4 yX4_falls cX4_falls 2 (some .int) 0 := ⟨by decide +kernel, wml_L_70, wi_X4_falls, wse_X4_falls, wini_X4, wc_X4_falls⟩
theorem wml_L_74 : Cond.methodLink RL 74 yX4_advise ∈ wAll := wAll_in (i := 353) (by decide +kernel) (by decide +kernel)
theorem wm_L_74 : Wv RL 74 RX4 yX4_advise cX4_advise 9 (some .int) 2 := ⟨by decide +kernel, wml_L_74, wi_X4_advise, wse_X4_advise, wini_X4, wc_X4_advise⟩
theorem wcl_L_77 : Cond.classLink RL 77 "[[I" ∈ wAll := wAll_in (i := 537) (by decide +kernel) (by decide +kernel)
theorem wml_L_79 : Cond.methodLink RL 79 yX4_thing ∈ wAll := wAll_in (i := 211) (by decide +kernel) (by decide +kernel)
theorem wm_L_79 : Wv RL 79 RX4 yX4_thing cX4_thing 3 (some .int) 2 := ⟨by decide +kernel, wml_L_79, wi_X4_thing, wse_X4_thing, wini_X4, wc_X4_thing⟩
theorem wml_L_82 : Cond.methodLink RL 82 yX4_mean ∈ wAll := wAll_in (i := 361) (by decide +kernel) (by decide +kernel)
theorem wm_L_82 : Wv RL 82 RX4 yX4_mean cX4_mean 1 (some .double) 0 := ⟨by decide +kernel, wml_L_82, wi_X4_mean, wse_X4_mean, wini_X4, wc_X4_mean⟩
theorem wit_X4 : Cond.instantiable RX4 2 ∈ wAll := wAll_in (i := 156) (by decide +kernel) (by decide +kernel)
theorem wit_X2 : Cond.instantiable RX2 5 ∈ wAll := wAll_in (i := 142) (by decide +kernel) (by decide +kernel)
theorem wit_X0 : Cond.instantiable RX0 5 ∈ wAll := wAll_in (i := 269) (by decide +kernel) (by decide +kernel)
theorem wit_X1 : Cond.instantiable RX1 3 ∈ wAll := wAll_in (i := 147) (by decide +kernel) (by decide +kernel)
theorem wit_X3 : Cond.instantiable RX3 8 ∈ wAll := wAll_in (i := 263) (by decide +kernel) (by decide +kernel)
end
section
/-! ===== further rows: layered memories, temporary arrays, whole copies ===== -/
section VM
variable {p : Program} {l : Launch} {e : Env} {R : Room} {s : State} {m : MethodId} {args : Array Value} {below : List Frame} {meth : Method} {c : Code} {Q : State → Prop} {X : Cx} {nL : Nat} {ex : va_W} {M M' : Mem} {lf lf' : Lf} {cells slots pc : Nat} {lv : List (Nat × Value)} {st : List Value} {cc : ByteArray} {own : String}
theorem heR {r k i : Nat} {σ : Sg} (hr : r < 2) : celD X lf r k i ((uC M r σ) r k i) = celR (X.2.1 r) X.2.2.1 k i (σ k i) := by rw [uC_at]; exact celD_R hr
theorem heO {r t k i : Nat} {σ : Sg} (h : t ≠ r) : celD X lf t k i ((uC M r σ) t k i) = celD X lf t k i (M t k i) := by rw [uC_ne h]
theorem v_putC (F : Fx p l s m args meth c cc nL own X) {r k i ci : Nat} {σ : Sg} {fs : List Value} {C : String} {T : u_T} {N : Nat} (ty0 : Nat → FieldType) (hty : ∀ k, k < N → parseFieldDescriptor (T k).2.2.1 = some (ty0 k)) (hnm : ∀ a, a < N → ∀ b, b < N → a ≠ b → (T a).2.1 ≠ (T b).2.1) (hid : (r, k, i) ∈ ids) (he : celD X lf r k i (σ k i) = .inr (ci, fs)) (hc : vwCl[ci]? = some (C, T, N)) (hin : ∀ w, w ∈ u_ws C T N → w ∈ wAll) (j : Nat) (hj : j < N) (hT : (T j).1 = C) (hF : (T j).2.2.2 = false) (hd : parseFieldDescriptor (T j).2.2.1 = some .int) {v : Int32} (he2 : celD X lf r k i (upd (σ k i) j v) = .inr (ci, fs.set j (.int v))) (hl0 : j < fs.length) {index : Nat} (hlink : Cond.fieldLink own index C (T j).2.1 (T j).2.2.1 ∈ wAll) (hdg : decode cc pc = .ok (.putfield index, 3)) (K : V p l e R s m args below meth c Q X nL ex (uC M r (u3 σ k i j v)) lf cells slots (pc + 3) lv st) : V p l e R s m args below meth c Q X nL ex (uC M r σ) lf cells slots pc lv (.int v :: .ref (X.2.1 r k i) :: st) :=
  v_put F ty0 hty hnm hid (by rw [uC_at]; exact he) hc hin j hj hT hF hd (by rw [uC_at]; exact he2) hl0 hlink hdg (v_mem (by rw [uC_at, uC_uC]) K)
theorem v_putNC (F : Fx p l s m args meth c cc nL own X) {r k i ci : Nat} {σ : Sg} {fs : List Value} {C host : String} {T : u_T} {N : Nat} (ty0 : Nat → FieldType) (hty : ∀ k, k < N → parseFieldDescriptor (T k).2.2.1 = some (ty0 k)) (hnm : ∀ a, a < N → ∀ b, b < N → a ≠ b → (T a).2.1 ≠ (T b).2.1) (hid : (r, k, i) ∈ ids) (he : celD X lf r k i (σ k i) = .inr (ci, fs)) (hc : vwCl[ci]? = some (C, T, N)) (hin : ∀ w, w ∈ u_ws C T N → w ∈ wAll) (j : Nat) (hj : j < N) (hT : (T j).1 = C) (hF : (T j).2.2.2 = false) (hd : parseFieldDescriptor (T j).2.2.1 = some .int) {v : Int32} (he2 : celD X lf r k i (upd (σ k i) j v) = .inr (ci, fs.set j (.int v))) (hl0 : j < fs.length) {index : Nat} (hlink : Cond.fieldLinkNest own index C (T j).2.1 (T j).2.2.1 host ∈ nestW) (hdg : decode cc pc = .ok (.putfield index, 3)) (K : V p l e R s m args below meth c Q X nL ex (uC M r (u3 σ k i j v)) lf cells slots (pc + 3) lv st) : V p l e R s m args below meth c Q X nL ex (uC M r σ) lf cells slots pc lv (.int v :: .ref (X.2.1 r k i) :: st) :=
  v_putN F ty0 hty hnm hid (by rw [uC_at]; exact he) hc hin j hj hT hF hd (by rw [uC_at]; exact he2) hl0 hlink hdg (v_mem (by rw [uC_at, uC_uC]) K)
theorem v_iastC (F : Fx p l s m args meth c cc nL own X) {r k i n : Nat} {σ : Sg} {cA : ClassId} (hid : (r, k, i) ∈ ids) (he : celD X lf r k i (σ k i) = .inl (cA, n, .inl (σ k i))) (hcA : cA = X.2.2.1 0) {x v : Int32} (j : Nat) (hx : Ix x j n) (he2 : celD X lf r k i (upd (σ k i) j v) = .inl (cA, n, .inl (upd (σ k i) j v))) (hdg : decode cc pc = .ok (.iastore, 1)) (K : V p l e R s m args below meth c Q X nL ex (uC M r (u3 σ k i j v)) lf cells slots (pc + 1) lv st) : V p l e R s m args below meth c Q X nL ex (uC M r σ) lf cells slots pc lv (.int v :: .int x :: .ref (X.2.1 r k i) :: st) :=
  v_iast F hid (by rw [uC_at]; exact he) hcA j hx (by rw [uC_at]; exact he2) hdg (v_mem (by rw [uC_at, uC_uC]) K)
theorem iinc_nI (i : Nat) : nI i + Int32.ofInt 1 = nI (i + 1) := (nI_succ i).symm
theorem v_open (r : Nat) (σ : Sg) (h : M r = σ) (K : V p l e R s m args below meth c Q X nL ex (uC M r σ) lf cells slots pc lv st) : V p l e R s m args below meth c Q X nL ex M lf cells slots pc lv st := v_mem (by rw [← h]; exact uC_self M r) K
/-- a static call of a nest mate -/
def Wt (own : String) (index : Nat) (y : MethodName) (bytes : ByteArray) (maxL : Nat) (ret : Option FieldType) (n : Nat) : Prop := (y.cls ≠ "java/lang/invoke/MethodHandle" ∧ y.cls ≠ "java/lang/invoke/VarHandle" ∧ (parseMethodDescriptor y.desc).map (fun d => d.parameters.length) = some n) ∧ (∃ host, Cond.methodLinkNest own index y host ∈ nestW) ∧ Cond.static y ∈ wAll ∧ Cond.initialized y.cls ∈ wAll ∧ Cond.code y bytes maxL ret ∈ wAll
theorem v_callTi (F : Fx p l s m args meth c cc nL own X) {y : MethodName} {bytes : ByteArray} {maxL n index mc ms : Nat} {ret : Option FieldType} {rm : Room} {As rest : List Value} {r : Int32} (hst : st = As.reverse ++ rest) (hM : CI X l y (wsc y bytes maxL ret) rm As M lf r M' lf' mc ms) (w : Wt own index y bytes maxL ret n) (hn : As.length = n) (hr : Rr R rm maxL cells slots mc ms rest) (hdg : decode cc pc = .ok (.invokestatic index, 3)) (K : V p l e R s m args below meth c Q X nL ex M' lf' (cells + mc) (slots + ms) (pc + 3) lv (.int r :: rest)) : V p l e R s m args below meth c Q X nL ex M lf cells slots pc lv st := by
  intro H locs ls hP hE hS hl
  subst hst
  obtain ⟨host, hh⟩ := w.2.1
  refine va_calli (va_runSN (As := As) (rest := rest) F.1 (hM H.size) ⟨va_cnB n F.1.2.2.2.2 (good_c w.2.2.2.2) rfl hr.1 hr.2.1 (F.2.1.2.2.1 _ hh) (F.1.2.2.2.2 _ w.2.2.2.1) w.1 ⟨hr.2.2.1, hr.2.2.2.1⟩, F.1.2.2.2.2 _ w.2.2.1, trivial⟩ ⟨PreW_blind, fun U hU hW => v_pre F hP hS U hU hW⟩ rfl hn hl.1 rfl (lv_room hr.2.2.2.2.2.2) hdg ⟨hr.2.2.2.2.1, hr.2.2.2.2.2.1⟩) hS (fun q _ h => xA_mono hS.1 q h) (xA_mono hS.1) (fun x u t H1 locs1 ht hvm hx hB hz hk hS1 => ?_)
  subst hx
  exact K H1 locs1 ls (v_post hP hE ht hB hk) hE hS1 hl
/-- a temporary array of ints -/
abbrev exI (X : Cx) (a n : Nat) (f : Nat → Int32) : va_W := [(a, .inl (X.2.2.1 0, n, .inl f))]
theorem v_newt (F : Fx p l s m args meth c cc nL own X) {x : Int32} (n : Nat) (hw : Cond.arrayClass .int ∈ wAll) (h0 : ¬ x < 0) (hx : x.toNatClampNeg = n) (hb : n * componentBytes .int ≤ 536870912) (h1 : cells + 1 ≤ R.cells) (h2 : slots + n ≤ R.slots) (hdg : decode cc pc = .ok (.newarray .int, 2)) (K : ∀ a : Nat, V p l e R s m args below meth c Q X nL (exI X a n (fun _ => 0)) M lf (cells + 1) (slots + n) (pc + 2) lv (.ref a :: st)) : V p l e R s m args below meth c Q X nL [] M lf cells slots pc lv (.int x :: st) := by
  intro H locs ls hP hE hS hl
  refine va_newa (atype := .int) (ty := .int) (a0 := (n, .inl (fun _ => 0))) F.1.1 F.1.2.1 (F.1.2.2.2.2 _ hw) rfl F.2.1.2.1 hP (wl_DE F.2.2.1 M lf hE) hS (fun q h => xA_sz h) (fun cA => rfl) h0 hx hb h1 h2 hdg (fun a cA H1 hK1 hP1 hD1 hS1 => ?_)
  have hcA : cA = X.2.2.1 0 := by
    have e1 : s.vm.findClass ("[" ++ (FieldType.int).toString) = some cA := (hK1.2 4 (cA, .int) rfl).2
    have e2 : s.vm.findClass ("[" ++ (FieldType.int).toString) = some (X.2.2.1 0) := (F.2.1.2.1.2 0 _ rfl).2
    exact Option.some.inj (e1.symm.trans e2)
  subst hcA
  rw [List.append_nil] at hP1 hD1
  have hne : ∀ p, p ∈ ids → a ≠ xad X p := by
    intro p hp ha
    obtain ⟨j, hj⟩ := List.getElem?_of_mem hp
    have h3 : (wl X M lf)[j]? = some (xad X p, celD X lf p.1 p.2.1 p.2.2 (M p.1 p.2.1 p.2.2)) := by
      unfold wl
      rw [List.getElem?_map, hj]
      rfl
    have hjl : j < (wl X M lf).length := (List.getElem?_eq_some_iff.mp h3).1
    have h4 := hD1.1 j (wl X M lf).length _ (a, .inl (X.2.2.1 0, n, .inl (fun _ => 0))) (by rw [List.getElem?_append_left hjl]; exact h3) (by rw [List.getElem?_append_right (Nat.le_refl _), Nat.sub_self]; rfl) ha.symm
    omega
  have hsz : s.heap.size ≤ a := by
    have h3 := hD1.2 (wl X M lf).length (a, .inl (X.2.2.1 0, n, .inl (fun _ => 0))) (by rw [List.getElem?_append_right (Nat.le_refl _), Nat.sub_self]; rfl)
    rcases h3 with ⟨p, hp, h4⟩ | h3
    · exact absurd h4 (hne p hp)
    · exact h3
  refine K a H1 locs ls hP1 ⟨⟨fun i j x y hi hj _ => ?_, fun k q hk => ?_⟩, fun k q hk p hp => ?_⟩ hS1 hl
  · have h3 := (List.getElem?_eq_some_iff.mp hi).1
    have h4 := (List.getElem?_eq_some_iff.mp hj).1
    simp only [List.length_cons, List.length_nil] at h3 h4
    omega
  · rcases List.mem_singleton.mp (List.mem_of_getElem? hk) with rfl
    exact hsz
  · rcases List.mem_singleton.mp (List.mem_of_getElem? hk) with rfl
    exact hne p hp
theorem v_eald (F : Fx p l s m args meth c cc nL own X) {a n : Nat} {f : Nat → Int32} {x : Int32} (j : Nat) (hx : Ix x j n) (hdg : decode cc pc = .ok (.iaload, 1)) (K : V p l e R s m args below meth c Q X nL (exI X a n f) M lf cells slots (pc + 1) lv (.int (f j) :: st)) : V p l e R s m args below meth c Q X nL (exI X a n f) M lf cells slots pc lv (.int x :: .ref a :: st) := by
  intro H locs ls hP hE hS hl
  have hK := K H locs ls hP hE hS hl
  rw [← hx.2.1] at hK
  exact va_iald F.1.1 F.1.2.1 F.2.1.2.1 (va_P_spl hP).2 0 0 rfl rfl (Ix_in hx) hdg hK
theorem v_east (F : Fx p l s m args meth c cc nL own X) {a n : Nat} {f : Nat → Int32} {x v : Int32} (j : Nat) (hx : Ix x j n) (hdg : decode cc pc = .ok (.iastore, 1)) (K : V p l e R s m args below meth c Q X nL (exI X a n (upd f j v)) M lf cells slots (pc + 1) lv st) : V p l e R s m args below meth c Q X nL (exI X a n f) M lf cells slots pc lv (.int v :: .int x :: .ref a :: st) := by
  intro H locs ls hP hE hS hl
  have hq : (wl X M lf ++ exI X a n f)[(wl X M lf).length]? = some (a, .inl (X.2.2.1 0, n, .inl f)) := by
    rw [List.getElem?_append_right (Nat.le_refl _), Nat.sub_self]; rfl
  refine va_iast F.1.1 F.1.2.1 F.2.1.2.1 hP (wl_DE F.2.2.1 M lf hE) hS (wl X M lf).length 0 hq rfl (Ix_in hx) hdg (fun H1 locs1 hP1 hD1 hS1 => ?_)
  rw [hx.2.1, List.set_append_right _ _ (Nat.le_refl _), Nat.sub_self] at hP1
  refine K H1 locs1 ls hP1 ⟨⟨fun i j x y hi hj _ => ?_, fun k q hk => ?_⟩, fun k q hk p hp => ?_⟩ hS1 hl
  · have h3 := (List.getElem?_eq_some_iff.mp hi).1
    have h4 := (List.getElem?_eq_some_iff.mp hj).1
    simp only [List.length_cons, List.length_nil] at h3 h4
    omega
  · rcases List.mem_singleton.mp (List.mem_of_getElem? hk) with rfl
    exact hE.1.2 0 (a, .inl (X.2.2.1 0, n, .inl f)) rfl
  · rcases List.mem_singleton.mp (List.mem_of_getElem? hk) with rfl
    exact hE.2 0 (a, .inl (X.2.2.1 0, n, .inl f)) rfl p hp
end VM
end
section
/-! ===== numbers ===== -/
theorem iinc_m1 (x : Int32) : x + Int32.ofInt (-1) = x - 1 := by
  rw [Int32.sub_eq_add_neg]
  rfl
theorem iinc_1 (x : Int32) : x + Int32.ofInt 1 = x + 1 := rfl
theorem xorI (a b : Nat) : nI a ^^^ nI b = nI (a ^^^ b) := by
  apply Int32.toBitVec_inj.1
  show BitVec.ofNat 32 a ^^^ BitVec.ofNat 32 b = BitVec.ofNat 32 (a ^^^ b)
  apply BitVec.eq_of_getLsbD_eq
  intro i hi
  simp [hi]
theorem xor_pos {a b : Nat} (ha : a < 2 ^ 31) (hb : b < 2 ^ 31) : 0 ≤ nI a ^^^ nI b := by
  rw [xorI]
  exact nI_pos' (Nat.xor_lt_two_pow ha hb)
theorem cle {x : Int32} {a b : Nat} (hx : x = nI a) (h : a ≤ b) (hb : b < 2 ^ 31) : x ≤ nI b := by
  rw [hx]; exact nI_le h hb
theorem nI_lt0 {x : Int32} (h : ¬ x < 0) : x = nI x.toNatClampNeg := by
  obtain ⟨j, hj, rfl⟩ := nI_of h
  rw [nI_clamp hj]
theorem Ix_of {x : Int32} {n : Nat} (h0 : ¬ x < 0) (h1 : ¬ nI n ≤ x) (hn : n < 2 ^ 31) : Ix x x.toNatClampNeg n := by
  obtain ⟨j, hj, rfl⟩ := nI_of h0
  have : j < n := by
    rcases Nat.lt_or_ge j n with q | q
    · exact q
    · exact absurd (nI_le q hj) h1
  exact ⟨h0, rfl, by rw [nI_clamp hj]; exact this⟩
theorem Ix_mono {x : Int32} {j a b : Nat} (h : Ix x j a) (hab : a ≤ b) : Ix x j b := ⟨h.1, h.2.1, Nat.lt_of_lt_of_le h.2.2 hab⟩
/-- a method of a class of which other methods are run by entries of the machine's own -/
theorem Met_ofWF {l : Launch} {y : MethodName} {ws ws' : List Cond} {rm : Room} {Pc : Array Value → State → Prop} {Qc : Array Value → State → Outcome → State → Prop} {mc ms : Nat} {free : Addr → Prop} {cc : ByteArray} {maxL : Nat} {ret : Option FieldType}
    (hy : plainFor y = true) (hw : ws = Cond.code y cc maxL ret :: ws')
    (body : ∀ p e s m args below meth c s₁, BodyLoose p l y (headSpec ws rm) cc maxL ret e s m args below meth c s₁ → c.maxLocals = maxL → Pc args s →
      W p l e (headSpec ws rm).room s m args below meth c s.heap [] 0 0 (MQ below Qc args s mc ms free) (entryFrame m args maxL)) : Met l y ws rm Pc Qc mc ms free := by
  refine MetFree.of_bodySF (code := cc) (maxLocals := maxL) (ret := ret) hy ?_ ?_
  · intro args s m h hn
    obtain ⟨meth, c, h1, h2, h3, h4, h5, h6, -, -⟩ := Cond.code_spec hn (atoms_spec (ws := ws) h _ (by rw [hw]; exact List.mem_cons_self))
    exact ⟨meth, c, h1, h2, h3, h4, h5, h6⟩
  · intro p e s m args below meth c s₁ B hml hP _
    have hh0 : s₁.heap = s.heap := by rw [B.state]; rfl
    obtain ⟨t, a1, o, b1, b2, b3⟩ := body p e s m args below meth c s₁ B hml hP s₁ hh0 (Stand.of_body B)
    exact ⟨t, o, a1, b1, b2, ⟨b3.1, b3.2⟩⟩
theorem CI_ofF {X : Cx} {l : Launch} {y : MethodName} {cc : ByteArray} {nL : Nat} {rm : Room} {av : List Value} {M M' : Mem} {lf lf' : Lf} {mc ms : Nat} {lv : List (Nat × Value)} {ty : FieldType} {r : Int32} (G : Gx X l) (hy : plainFor y = true) (hn : (lg_sl av).length ≤ nL) (hlv : lv_args 0 av = lv)
    (body : ∀ p e s m args below meth c, Fx p l s m args meth c cc nL y.cls X → meth.sig.returnType = some ty → V p l e rm s m args below meth c (QI X below args s r M' lf' mc ms) X nL [] M lf 0 0 0 lv []) : CI X l y (wsc y cc nL (some ty)) rm av M lf r M' lf' mc ms := by
  intro sz
  refine Met_ofWF (cc := cc) (maxL := nL) (ret := some ty) hy rfl ?_
  intro p e s m args below meth c s₁ B hml hv
  obtain ⟨rfl, hsz, hK, hP⟩ := hv
  subst hsz
  have h := body p e s m _ below meth c (Fx_of G B hml hK) B.returns
  rw [lg_entry_eq]
  exact h s.heap [] _ (by rw [List.append_nil]; exact hP) exOk_nil va_S.rf (hlv ▸ lv_entry av hn)
section VJ
variable {p : Program} {l : Launch} {e : Env} {R : Room} {s : State} {m : MethodId} {args : Array Value} {below : List Frame} {meth : Method} {c : Code} {Q : State → Prop} {X : Cx} {nL : Nat} {ex : va_W} {M : Mem} {lf : Lf} {cells slots pc : Nat} {lv : List (Nat × Value)} {st : List Value} {cc : ByteArray} {own : String}
theorem v_aaldJ (F : Fx p l s m args meth c cc nL own X) {r : Nat} (hr : r < 2) {x : Int32} (j : Nat) (hx : Ix x j 4) (hdg : decode cc pc = .ok (.aaload, 1)) (K : V p l e R s m args below meth c Q X nL ex M lf cells slots (pc + 1) lv (.ref (X.2.1 r 2 j) :: st)) : V p l e R s m args below meth c Q X nL ex M lf cells slots pc lv (.int x :: .ref (X.2.1 r 1 0) :: st) :=
  v_aald F (t0 := 1) (n := 4) (f := fun j => some (X.2.1 r 2 j)) (id_R hr (by decide) (by decide)) (celD_R hr) rfl j hx rfl hdg K
theorem v_aaldT (F : Fx p l s m args meth c cc nL own X) {r : Nat} (hr : r < 2) {x : Int32} (j : Nat) (hx : Ix x j 12) (hdg : decode cc pc = .ok (.aaload, 1)) (K : V p l e R s m args below meth c Q X nL ex M lf cells slots (pc + 1) lv (.ref (X.2.1 r 8 j) :: st)) : V p l e R s m args below meth c Q X nL ex M lf cells slots pc lv (.int x :: .ref (X.2.1 r 7 0) :: st) :=
  v_aald F (t0 := 2) (n := 12) (f := fun j => some (X.2.1 r 8 j)) (id_R hr (by decide) (by decide)) (celD_R hr) rfl j hx rfl hdg K
theorem v_gen {r : Nat} {σ : Sg} (K : ∀ τ : Sg, τ = σ → V p l e R s m args below meth c Q X nL ex (uC M r τ) lf cells slots pc lv st) : V p l e R s m args below meth c Q X nL ex (uC M r σ) lf cells slots pc lv st := K σ rfl
end VJ
end
section
/-! ===== what the class's methods do, over a ring's numbers ===== -/
def sI (f : Nat → Int32) : Nat → Int32
  | 0 => 0
  | n + 1 => sI f n + f n
def cI (p : Nat → Bool) : Nat → Int32
  | 0 => 0
  | n + 1 => if p n = true then cI p n + 1 else cI p n
theorem cI_t {p : Nat → Bool} {n : Nat} (h : p n = true) : cI p (n + 1) = cI p n + 1 := if_pos h
theorem cI_f {p : Nat → Bool} {n : Nat} (h : ¬ p n = true) : cI p (n + 1) = cI p n := if_neg h
-- a pattern
def wrL (i : Nat) (ow : Int32) : Nat → Int32 → Sg → Sg
  | 0, _, σ => σ
  | n + 1, rest, σ => wrL i ow n (rest / 10) (u3 (u3 σ 4 i n (rest - rest / 10 * 10)) 5 i n ow)
def fWrite (σ : Sg) (i : Nat) (ow : Int32) (n : Nat) (dg : Int32) : Sg := wrL i ow n dg (u3 σ 3 i 2 (nI n))
def cpPL (i : Nat) (ρ : Sg) (σ : Sg) : Nat → Sg
  | 0 => σ
  | n + 1 => u3 (u3 (cpPL i ρ σ n) 4 i n (ρ 4 i n)) 5 i n (ρ 5 i n)
def fCopyP (σ ρ : Sg) (i n : Nat) : Sg := cpPL i ρ (u3 σ 3 i 2 (ρ 3 i 2)) n
theorem cpPL_k {i : Nat} {ρ σ : Sg} {k a b : Nat} (h4 : k ≠ 4) (h5 : k ≠ 5) : ∀ n, cpPL i ρ σ n k a b = σ k a b
  | 0 => rfl
  | n + 1 => by
    show u3 (u3 (cpPL i ρ σ n) 4 i n (ρ 4 i n)) 5 i n (ρ 5 i n) k a b = σ k a b
    rw [u3_ne (fun z => h5 z.1), u3_ne (fun z => h4 z.1)]
    exact cpPL_k h4 h5 n
def laL (σ : Sg) (i n : Nat) : Nat → Nat → Int32 → Int32
  | 0, _, _ => 1
  | k + 1, p, acc => if acc &&& (1 <<< ((nI p + σ 4 i p - (nI p + σ 4 i p) / nI n * nI n) &&& 31)) = 0 then laL σ i n k (p + 1) (acc ||| (1 <<< ((nI p + σ 4 i p - (nI p + σ 4 i p) / nI n * nI n) &&& 31))) else 0
def fLands (σ : Sg) (i n : Nat) : Int32 := laL σ i n n 0 0
def fAsks (σ : Sg) (i n : Nat) : Int32 := if sI (σ 4 i) n - sI (σ 4 i) n / nI n * nI n = 0 then sI (σ 4 i) n / nI n else -1
def reL (σ : Sg) (i d : Nat) : Nat → Nat → Int32
  | 0, _ => 1
  | k + 1, p => if σ 4 i p = σ 4 i (p - d) ∧ σ 5 i p = σ 5 i (p - d) then reL σ i d k (p + 1) else 0
def fRep (σ : Sg) (i n d : Nat) : Int32 := reL σ i d (n - d) d
def shL (σ : Sg) (i n : Nat) : Nat → Nat → Nat
  | 0, p => p
  | k + 1, p => if n % p = 0 ∧ fRep σ i n p = 1 then p else shL σ i n k (p + 1)
def fShort (σ : Sg) (i n : Nat) : Nat := shL σ i n (n - 1) 1
def adL (σ : Sg) (i : Nat) (d : Int64) : Nat → Int64
  | 0 => d
  | n + 1 => (adL σ i d n * 31 + (σ 4 i n).toInt64) * 31 + (σ 5 i n).toInt64
-- a thing
def fDown (σ : Sg) (k : Nat) (b : Int32) : Int32 := if σ 8 k 1 = 2 ∧ σ 8 k 4 = b then 1 else 0
def fAir (kd h : Int32) : Int32 := if kd = 1 ∧ ¬ h < 3 then h - 1 else if kd = 2 ∧ ¬ h < 5 then h + 1 else h
def fFly (σ : Sg) (k : Nat) (to h b : Int32) : Sg := u3 (u3 (u3 (u3 (u3 (u3 σ 8 k 1 2) 8 k 2 to) 8 k 3 (-1)) 8 k 5 h) 8 k 4 (b + fAir (σ 8 k 0) h)) 8 k 6 (σ 8 k 6 + 1)
def fFall (σ : Sg) (k : Nat) : Sg := u3 (u3 (u3 σ 8 k 1 (if σ 8 k 0 = 2 then 3 else 0)) 8 k 2 (-1)) 8 k 7 (σ 8 k 7 + 1)
def fCopyT (σ ρ : Sg) (k : Nat) : Sg := u3 (u3 (u3 (u3 (u3 (u3 (u3 (u3 σ 8 k 0 (ρ 8 k 0)) 8 k 1 (ρ 8 k 1)) 8 k 2 (ρ 8 k 2)) 8 k 3 (ρ 8 k 3)) 8 k 4 (ρ 8 k 4)) 8 k 5 (ρ 8 k 5)) 8 k 6 (ρ 8 k 6)) 8 k 7 (ρ 8 k 7)
-- a juggler
def fCopyJ (σ ρ : Sg) (i n : Nat) : Sg := u3 (u3 (u3 (u3 (u3 (fCopyP σ ρ i n) 6 i 0 (ρ 6 i 0)) 6 i 1 (ρ 6 i 1)) 2 i 2 (ρ 2 i 2)) 2 i 3 (ρ 2 i 3)) 2 i 4 (ρ 2 i 4)
def fCan (σ : Sg) (i : Nat) (h : Int32) (hd : Nat) : Int32 := if σ 6 i hd = -1 ∧ ¬ σ 2 i 2 + 2 < h then 1 else 0
def fMiss (σ : Sg) (i k : Nat) : Sg := fFall (if σ 8 k 0 = 1 then u3 σ 2 i 3 (σ 2 i 3 + 1) else σ) k
def fHeld (σ : Sg) (i : Nat) : Int32 := cI (fun h => !decide (σ 6 i h = -1)) 2
-- a ring
def cpJL (ρ : Sg) (ln : Nat → Nat) (σ : Sg) : Nat → Sg
  | 0 => σ
  | n + 1 => fCopyJ (cpJL ρ ln σ n) ρ n (ln n)
def cpTL (ρ : Sg) (σ : Sg) : Nat → Sg
  | 0 => σ
  | n + 1 => fCopyT (cpTL ρ σ n) ρ n
def fCopyR (σ ρ : Sg) (jc tc : Nat) (ln : Nat → Nat) : Sg := cpTL ρ (cpJL ρ ln (u3 (u3 (u3 σ 0 0 2 (ρ 0 0 2)) 0 0 3 (ρ 0 0 3)) 0 0 4 (ρ 0 0 4)) jc) tc
def fHasJ (σ : Sg) (x : Int32) : Int32 := if ¬ x < 0 ∧ ¬ σ 0 0 2 ≤ x then 1 else 0
def fHasT (σ : Sg) (x : Int32) : Int32 := if ¬ x < 0 ∧ ¬ σ 0 0 3 ≤ x then 1 else 0
def fAddJ (σ : Sg) (j : Nat) (sk : Int32) : Sg := u3 (fWrite (u3 σ 2 j 2 sk) j (nI j) 1 0) 0 0 2 (nI j + 1)
def fAddT (σ : Sg) (k : Nat) (kd : Int32) : Sg := u3 (u3 σ 8 k 0 kd) 0 0 3 (nI k + 1)
def fPut (σ : Sg) (k : Nat) (to : Int32) (j hd : Nat) : Sg := u3 (u3 (u3 (u3 σ 6 j hd (nI k)) 8 k 1 1) 8 k 2 to) 8 k 3 (nI hd)
/-- one thing that may come down -/
def fDown1 (σ : Sg) (k hd : Nat) : Sg := if fDown σ k (σ 0 0 4) = 0 then σ else if fHasJ σ (σ 8 k 2) = 0 then σ else if fCan σ (σ 8 k 2).toNatClampNeg (σ 8 k 5) hd = 0 then fMiss σ (σ 8 k 2).toNatClampNeg k else u3 (fPut σ k (σ 8 k 2) (σ 8 k 2).toNatClampNeg hd) 2 (σ 8 k 2).toNatClampNeg 4 (fPut σ k (σ 8 k 2) (σ 8 k 2).toNatClampNeg hd 2 (σ 8 k 2).toNatClampNeg 4 + 1)
def fDown1r (σ : Sg) (k hd : Nat) : Int32 := if fDown σ k (σ 0 0 4) = 0 then 0 else if fHasJ σ (σ 8 k 2) = 0 then 0 else if fCan σ (σ 8 k 2).toNatClampNeg (σ 8 k 5) hd = 0 then 1 else 0
def dnL (hd : Nat) (σ : Sg) : Nat → Sg
  | 0 => σ
  | n + 1 => fDown1 (dnL hd σ n) n hd
def dnR (hd : Nat) (σ : Sg) : Nat → Int32
  | 0 => 0
  | n + 1 => dnR hd σ n + fDown1r (dnL hd σ n) n hd
/-- a juggler's throw, with the pattern's place q -/
def fThrow (σ : Sg) (j q hd : Nat) : Sg := if fHasT σ (σ 6 j hd) = 0 then σ else if σ 4 j q ≤ 0 then σ else u3 (fFly σ (σ 6 j hd).toNatClampNeg (σ 5 j q) (σ 4 j q) (σ 0 0 4)) 6 j hd (-1)
def thL (b : Nat) (ln : Nat → Nat) (σ : Sg) : Nat → Sg
  | 0 => σ
  | n + 1 => fThrow (thL b ln σ n) n (b % ln n) (b % 2)
def fBeat (σ : Sg) (b jc tc : Nat) (ln : Nat → Nat) : Sg := u3 (thL b ln (dnL (b % 2) σ tc) jc) 0 0 4 (nI (b + 1))
def fBeatR (σ : Sg) (b tc : Nat) : Int32 := dnR (b % 2) σ tc
def plL (b jc tc : Nat) (ln : Nat → Nat) (σ : Sg) : Nat → Sg
  | 0 => σ
  | n + 1 => fBeat (plL b jc tc ln σ n) (b + n) jc tc ln
def plR (b jc tc : Nat) (ln : Nat → Nat) (σ : Sg) : Nat → Int32
  | 0 => 0
  | n + 1 => plR b jc tc ln σ n + fBeatR (plL b jc tc ln σ n) (b + n) tc
/-- what a ring keeps to -/
def Shp (σ : Sg) (jc tc : Nat) (ln : Nat → Nat) : Prop := jc ≤ 4 ∧ tc ≤ 12 ∧ σ 0 0 2 = nI jc ∧ σ 0 0 3 = nI tc ∧ ∀ i, i < jc → 1 ≤ ln i ∧ ln i ≤ 8 ∧ σ 3 i 2 = nI (ln i)
theorem Shp_of {σ τ : Sg} {jc tc : Nat} {ln : Nat → Nat} (h : Shp σ jc tc ln) (hk : ∀ a b c, a = 3 ∨ (a = 0 ∧ c ≠ 4) → τ a b c = σ a b c) : Shp τ jc tc ln := ⟨h.1, h.2.1, (hk _ _ _ (Or.inr ⟨rfl, by decide⟩)).trans h.2.2.1, (hk _ _ _ (Or.inr ⟨rfl, by decide⟩)).trans h.2.2.2.1, fun i hi => ⟨(h.2.2.2.2 i hi).1, (h.2.2.2.2 i hi).2.1, (hk _ _ _ (Or.inl rfl)).trans (h.2.2.2.2 i hi).2.2⟩⟩
theorem fFall_k {σ : Sg} {k a b c : Nat} (h : a ≠ 8) : fFall σ k a b c = σ a b c := by
  unfold fFall
  rw [u3_ne (fun z => h z.1), u3_ne (fun z => h z.1), u3_ne (fun z => h z.1)]
theorem fFly_k {σ : Sg} {k a b c : Nat} {to h0 bt : Int32} (h : a ≠ 8) : fFly σ k to h0 bt a b c = σ a b c := by
  unfold fFly
  rw [u3_ne (fun z => h z.1), u3_ne (fun z => h z.1), u3_ne (fun z => h z.1), u3_ne (fun z => h z.1), u3_ne (fun z => h z.1), u3_ne (fun z => h z.1)]
theorem fMiss_k {σ : Sg} {i k a b c : Nat} (h2 : a ≠ 2) (h8 : a ≠ 8) : fMiss σ i k a b c = σ a b c := by
  unfold fMiss
  rw [fFall_k h8]
  split
  · exact u3_ne (fun z => h2 z.1)
  · rfl
theorem fPut_k {σ : Sg} {k j hd a b c : Nat} {to : Int32} (h6 : a ≠ 6) (h8 : a ≠ 8) : fPut σ k to j hd a b c = σ a b c := by
  unfold fPut
  rw [u3_ne (fun z => h8 z.1), u3_ne (fun z => h8 z.1), u3_ne (fun z => h8 z.1), u3_ne (fun z => h6 z.1)]
theorem fDown1_k {σ : Sg} {k hd a b c : Nat} (h2 : a ≠ 2) (h6 : a ≠ 6) (h8 : a ≠ 8) : fDown1 σ k hd a b c = σ a b c := by
  unfold fDown1
  split
  · rfl
  · split
    · rfl
    · split
      · exact fMiss_k h2 h8
      · rw [u3_ne (fun z => h2 z.1)]; exact fPut_k h6 h8
theorem dnL_k {σ : Sg} {hd a b c : Nat} (h2 : a ≠ 2) (h6 : a ≠ 6) (h8 : a ≠ 8) : ∀ n, dnL hd σ n a b c = σ a b c
  | 0 => rfl
  | n + 1 => (fDown1_k h2 h6 h8).trans (dnL_k h2 h6 h8 n)
theorem fThrow_k {σ : Sg} {j q hd a b c : Nat} (h6 : a ≠ 6) (h8 : a ≠ 8) : fThrow σ j q hd a b c = σ a b c := by
  unfold fThrow
  split
  · rfl
  · split
    · rfl
    · rw [u3_ne (fun z => h6 z.1)]; exact fFly_k h8
theorem thL_k {σ : Sg} {bt : Nat} {ln : Nat → Nat} {a b c : Nat} (h6 : a ≠ 6) (h8 : a ≠ 8) : ∀ n, thL bt ln σ n a b c = σ a b c
  | 0 => rfl
  | n + 1 => (fThrow_k h6 h8).trans (thL_k h6 h8 n)
theorem fBeat_k {σ : Sg} {bt jc tc : Nat} {ln : Nat → Nat} {a b c : Nat} (h2 : a ≠ 2) (h6 : a ≠ 6) (h8 : a ≠ 8) (h0 : ¬ (a = 0 ∧ c = 4)) : fBeat σ bt jc tc ln a b c = σ a b c := by
  unfold fBeat
  rw [u3_ne (fun z => h0 ⟨z.1, z.2.2⟩), thL_k h6 h8, dnL_k h2 h6 h8]
theorem fBeat_b {σ : Sg} {bt jc tc : Nat} {ln : Nat → Nat} : fBeat σ bt jc tc ln 0 0 4 = nI (bt + 1) := u3_at _ _ _ _ _
theorem plL_k {σ : Sg} {bt jc tc : Nat} {ln : Nat → Nat} {a b c : Nat} (h2 : a ≠ 2) (h6 : a ≠ 6) (h8 : a ≠ 8) (h0 : ¬ (a = 0 ∧ c = 4)) : ∀ n, plL bt jc tc ln σ n a b c = σ a b c
  | 0 => rfl
  | n + 1 => (fBeat_k h2 h6 h8 h0).trans (plL_k h2 h6 h8 h0 n)
theorem plL_b {σ : Sg} {bt jc tc : Nat} {ln : Nat → Nat} (h : σ 0 0 4 = nI bt) : ∀ n, plL bt jc tc ln σ n 0 0 4 = nI (bt + n)
  | 0 => h
  | n + 1 => fBeat_b
theorem Shp_dn {σ : Sg} {jc tc hd : Nat} {ln : Nat → Nat} (h : Shp σ jc tc ln) (n : Nat) : Shp (dnL hd σ n) jc tc ln := Shp_of h (fun a b c z => dnL_k (by omega) (by omega) (by omega) n)
theorem Shp_th {σ : Sg} {jc tc b : Nat} {ln ln' : Nat → Nat} (h : Shp σ jc tc ln) (n : Nat) : Shp (thL b ln' σ n) jc tc ln := Shp_of h (fun a b c z => thL_k (by omega) (by omega) n)
theorem Shp_pl {σ : Sg} {jc tc b : Nat} {ln : Nat → Nat} (h : Shp σ jc tc ln) (n : Nat) : Shp (plL b jc tc ln σ n) jc tc ln := Shp_of h (fun a b c z => plL_k (by omega) (by omega) (by omega) (by omega) n)
def fTellT (σ : Sg) (k : Nat) : Nat → Int32
  | 0 => σ 8 k 0
  | 1 => σ 8 k 1
  | 2 => σ 8 k 2
  | 3 => σ 8 k 3
  | 4 => if σ 8 k 1 = 2 then σ 8 k 4 - σ 0 0 4 else -1
  | 5 => σ 8 k 6
  | _ => σ 8 k 7
def fFlies (σ : Sg) (tc : Nat) (j : Int32) : Int32 := cI (fun k => decide (σ 8 k 1 = 2) && decide (σ 8 k 2 = j)) tc
def fIn (σ : Sg) (tc : Nat) (x : Int32) : Int32 := cI (fun k => decide (σ 8 k 1 = x)) tc
def fTellJ (σ : Sg) (tc i : Nat) : Nat → Int32
  | 0 => σ 2 i 2
  | 1 => σ 2 i 3
  | 2 => σ 6 i 0
  | 3 => σ 6 i 1
  | 4 => σ 3 i 2
  | 5 => fFlies σ tc (nI i)
  | _ => σ 2 i 4
def fTellC (σ : Sg) (tc : Nat) : Nat → Int32
  | 0 => σ 0 0 4
  | 1 => σ 0 0 2
  | 2 => σ 0 0 3
  | 3 => fIn σ tc 1
  | 4 => fIn σ tc 2
  | 5 => fIn σ tc 0
  | 6 => fIn σ tc 3
  | 7 => sI (fun k => σ 8 k 7) tc
  | _ => sI (fun k => σ 8 k 6) tc
theorem cpTL_k {ρ σ : Sg} {a b c : Nat} (h8 : a ≠ 8) : ∀ n, cpTL ρ σ n a b c = σ a b c
  | 0 => rfl
  | n + 1 => by
    show fCopyT (cpTL ρ σ n) ρ n a b c = σ a b c
    unfold fCopyT
    rw [u3_ne (fun z => h8 z.1), u3_ne (fun z => h8 z.1), u3_ne (fun z => h8 z.1), u3_ne (fun z => h8 z.1), u3_ne (fun z => h8 z.1), u3_ne (fun z => h8 z.1), u3_ne (fun z => h8 z.1), u3_ne (fun z => h8 z.1)]
    exact cpTL_k h8 n
theorem fCopyJ_k {σ ρ : Sg} {i n a b c : Nat} (h : a = 0 ∨ a = 8) : fCopyJ σ ρ i n a b c = σ a b c := by
  unfold fCopyJ fCopyP
  rw [u3_ne (by omega), u3_ne (by omega), u3_ne (by omega), u3_ne (by omega), u3_ne (by omega), cpPL_k (by omega) (by omega), u3_ne (by omega)]
theorem cpJL_k {ρ σ : Sg} {ln : Nat → Nat} {a b c : Nat} (h : a = 0 ∨ a = 8) : ∀ n, cpJL ρ ln σ n a b c = σ a b c
  | 0 => rfl
  | n + 1 => (fCopyJ_k h).trans (cpJL_k h n)
theorem fHasJ_ix {σ : Sg} {x : Int32} {jc : Nat} (hJ : σ 0 0 2 = nI jc) (h4 : jc ≤ 4) (h : ¬ fHasJ σ x = 0) : Ix x x.toNatClampNeg jc := by
  unfold fHasJ at h
  split at h
  · rename_i z
    rw [hJ] at z
    exact Ix_of z.1 z.2 (by omega)
  · exact absurd rfl h
theorem fHasT_ix {σ : Sg} {x : Int32} {tc : Nat} (hT : σ 0 0 3 = nI tc) (h12 : tc ≤ 12) (h : ¬ fHasT σ x = 0) : Ix x x.toNatClampNeg tc := by
  unfold fHasT at h
  split at h
  · rename_i z
    rw [hT] at z
    exact Ix_of z.1 z.2 (by omega)
  · exact absurd rfl h
theorem wrL_k {i a b c : Nat} {ow : Int32} (h4 : a ≠ 4) (h5 : a ≠ 5) : ∀ (n : Nat) (dg : Int32) (σ : Sg), wrL i ow n dg σ a b c = σ a b c
  | 0, _, _ => rfl
  | n + 1, dg, σ => by
    show wrL i ow n (dg / 10) (u3 (u3 σ 4 i n (dg - dg / 10 * 10)) 5 i n ow) a b c = σ a b c
    rw [wrL_k h4 h5 n, u3_ne (fun z => h5 z.1), u3_ne (fun z => h4 z.1)]
theorem fWrite_k {σ : Sg} {i n a b c : Nat} {ow dg : Int32} (h3 : a ≠ 3) (h4 : a ≠ 4) (h5 : a ≠ 5) : fWrite σ i ow n dg a b c = σ a b c := by
  unfold fWrite
  rw [wrL_k h4 h5, u3_ne (fun z => h3 z.1)]
end
section
/-! ===== contracts of a pattern, a thing, a juggler ===== -/
abbrev rm_X3_comesDownIn : Room := { frames := 0, cells := 0, slots := 0, locals := 0 }
abbrev rm_X3_beatsInAir : Room := { frames := 0, cells := 0, slots := 0, locals := 0 }
abbrev rm_X3_fly : Room := { frames := 1, cells := 0, slots := 0, locals := 21 }
abbrev rm_X3_fall : Room := { frames := 0, cells := 0, slots := 0, locals := 0 }
abbrev rm_X3_copyFrom : Room := { frames := 0, cells := 0, slots := 0, locals := 0 }
set_option maxHeartbeats 4000000 in
set_option maxRecDepth 100000 in
theorem c_X3_comesDownIn {X : Cx} {l : Launch} (G : Gx X l) {M : Mem} {lf : Lf} {r : Nat} (hr0 : r < 2) {σ : Sg} {k : Nat} (hk : k < 12) (b : Int32) : CI X l yX3_comesDownIn (wsc yX3_comesDownIn cX3_comesDownIn 2 (some .boolean)) rm_X3_comesDownIn [.ref (X.2.1 r 8 k), .int b] (uC M r σ) lf (fDown σ k b) (uC M r σ) lf 0 0 := by
  refine CI_of (lv := [(0, .ref _), (1, .int _)]) G (by decide) (Nat.le_of_ble_eq_true rfl) rfl (fun p e s m args below meth c F hr => ?_)
  have F : Fx p l s m args meth c cX3_comesDownIn 2 RX3 X := F
  refine v_aload_n F dX3_comesDownIn_0 rfl 0 rfl ?_
  refine v_get F (id_R hr0 (by decide) hk) (heR hr0) rfl uw_X3 1 (by decide) rfl rfl wf_X3_9 dX3_comesDownIn_1 ?_
  refine v_iconst F (v := 2) dX3_comesDownIn_4 (by decide) ?_
  refine v_icmp_ne F (tgt := 20) dX3_comesDownIn_5 (by decide) (fun c5 => ?_) (fun c5 => ?_)
  · have := c5
    refine v_iconst F (v := 0) dX3_comesDownIn_20 (by decide) ?_
    refine v_zret F hr dX3_comesDownIn_21 rfl ?_ rfl rfl
    simp_all [fDown]
  · have := c5
    refine v_aload_n F dX3_comesDownIn_8 rfl 0 rfl ?_
    refine v_get F (id_R hr0 (by decide) hk) (heR hr0) rfl uw_X3 4 (by decide) rfl rfl wf_X3_24 dX3_comesDownIn_9 ?_
    refine v_iload_n F dX3_comesDownIn_12 rfl 1 rfl ?_
    refine v_icmp_ne F (tgt := 20) dX3_comesDownIn_13 (by decide) (fun c13 => ?_) (fun c13 => ?_)
    · have := c13
      refine v_iconst F (v := 0) dX3_comesDownIn_20 (by decide) ?_
      refine v_zret F hr dX3_comesDownIn_21 rfl ?_ rfl rfl
      simp_all [fDown]
    · have := c13
      refine v_iconst F (v := 1) dX3_comesDownIn_16 (by decide) ?_
      refine v_goto F (tgt := 21) dX3_comesDownIn_17 (by decide) ?_
      refine v_zret F hr dX3_comesDownIn_21 rfl ?_ rfl rfl
      simp_all [fDown]
set_option maxHeartbeats 4000000 in
set_option maxRecDepth 100000 in
theorem c_X3_beatsInAir {X : Cx} {l : Launch} (G : Gx X l) {M : Mem} {lf : Lf} {r : Nat} (hr0 : r < 2) {σ : Sg} {k : Nat} (hk : k < 12) (h : Int32) : CI X l yX3_beatsInAir (wsc yX3_beatsInAir cX3_beatsInAir 2 (some .int)) rm_X3_beatsInAir [.ref (X.2.1 r 8 k), .int h] (uC M r σ) lf (fAir (σ 8 k 0) h) (uC M r σ) lf 0 0 := by
  refine CI_of (lv := [(0, .ref _), (1, .int _)]) G (by decide) (Nat.le_of_ble_eq_true rfl) rfl (fun p e s m args below meth c F hr => ?_)
  have F : Fx p l s m args meth c cX3_beatsInAir 2 RX3 X := F
  refine v_aload_n F dX3_beatsInAir_0 rfl 0 rfl ?_
  refine v_get F (id_R hr0 (by decide) hk) (heR hr0) rfl uw_X3 0 (by decide) rfl rfl wf_X3_21 dX3_beatsInAir_1 ?_
  refine v_iconst F (v := 1) dX3_beatsInAir_4 (by decide) ?_
  refine v_icmp_ne F (tgt := 17) dX3_beatsInAir_5 (by decide) (fun c5 => ?_) (fun c5 => ?_)
  · have := c5
    refine v_aload_n F dX3_beatsInAir_17 rfl 0 rfl ?_
    refine v_get F (id_R hr0 (by decide) hk) (heR hr0) rfl uw_X3 0 (by decide) rfl rfl wf_X3_21 dX3_beatsInAir_18 ?_
    refine v_iconst F (v := 2) dX3_beatsInAir_21 (by decide) ?_
    refine v_icmp_ne F (tgt := 34) dX3_beatsInAir_22 (by decide) (fun c22 => ?_) (fun c22 => ?_)
    · have := c22
      refine v_iload_n F dX3_beatsInAir_34 rfl 1 rfl ?_
      refine v_iret F hr dX3_beatsInAir_35 ?_ rfl rfl
      simp_all [fAir]
    · have := c22
      refine v_iload_n F dX3_beatsInAir_25 rfl 1 rfl ?_
      refine v_iconst F (v := 5) dX3_beatsInAir_26 (by decide) ?_
      refine v_icmp_lt F (tgt := 34) dX3_beatsInAir_27 (by decide) (fun c27 => ?_) (fun c27 => ?_)
      · have := c27
        refine v_iload_n F dX3_beatsInAir_34 rfl 1 rfl ?_
        refine v_iret F hr dX3_beatsInAir_35 ?_ rfl rfl
        simp_all [fAir]
      · have := c27
        refine v_iload_n F dX3_beatsInAir_30 rfl 1 rfl ?_
        refine v_iconst F (v := 1) dX3_beatsInAir_31 (by decide) ?_
        refine v_iadd F dX3_beatsInAir_32 ?_
        refine v_iret F hr dX3_beatsInAir_33 ?_ rfl rfl
        simp_all [fAir]
  · have := c5
    refine v_iload_n F dX3_beatsInAir_8 rfl 1 rfl ?_
    refine v_iconst F (v := 3) dX3_beatsInAir_9 (by decide) ?_
    refine v_icmp_lt F (tgt := 17) dX3_beatsInAir_10 (by decide) (fun c10 => ?_) (fun c10 => ?_)
    · have := c10
      refine v_aload_n F dX3_beatsInAir_17 rfl 0 rfl ?_
      refine v_get F (id_R hr0 (by decide) hk) (heR hr0) rfl uw_X3 0 (by decide) rfl rfl wf_X3_21 dX3_beatsInAir_18 ?_
      refine v_iconst F (v := 2) dX3_beatsInAir_21 (by decide) ?_
      refine v_icmp_ne F (tgt := 34) dX3_beatsInAir_22 (by decide) (fun c22 => ?_) (fun c22 => ?_)
      · have := c22
        refine v_iload_n F dX3_beatsInAir_34 rfl 1 rfl ?_
        refine v_iret F hr dX3_beatsInAir_35 ?_ rfl rfl
        simp_all [fAir]
      · have := c22
        refine v_iload_n F dX3_beatsInAir_25 rfl 1 rfl ?_
        refine v_iconst F (v := 5) dX3_beatsInAir_26 (by decide) ?_
        refine v_icmp_lt F (tgt := 34) dX3_beatsInAir_27 (by decide) (fun c27 => ?_) (fun c27 => ?_)
        · have := c27
          refine v_iload_n F dX3_beatsInAir_34 rfl 1 rfl ?_
          refine v_iret F hr dX3_beatsInAir_35 ?_ rfl rfl
          simp_all [fAir]
        · have := c27
          refine v_iload_n F dX3_beatsInAir_30 rfl 1 rfl ?_
          refine v_iconst F (v := 1) dX3_beatsInAir_31 (by decide) ?_
          refine v_iadd F dX3_beatsInAir_32 ?_
          refine v_iret F hr dX3_beatsInAir_33 ?_ rfl rfl
          simp_all [fAir]
    · have := c10
      refine v_iload_n F dX3_beatsInAir_13 rfl 1 rfl ?_
      refine v_iconst F (v := 1) dX3_beatsInAir_14 (by decide) ?_
      refine v_isub F dX3_beatsInAir_15 ?_
      refine v_iret F hr dX3_beatsInAir_16 ?_ rfl rfl
      simp_all [fAir]
set_option maxHeartbeats 4000000 in
set_option maxRecDepth 100000 in
theorem c_X3_fly {X : Cx} {l : Launch} (G : Gx X l) {M : Mem} {lf : Lf} {r : Nat} (hr0 : r < 2) {σ : Sg} {k : Nat} (hk : k < 12) (to h b : Int32) : CV X l yX3_fly (wsc yX3_fly cX3_fly 4 none) rm_X3_fly [.ref (X.2.1 r 8 k), .int to, .int h, .int b] (uC M r σ) lf (uC M r (fFly σ k to h b)) lf 0 0 := by
  refine CV_of (lv := [(0, .ref _), (1, .int _), (2, .int _), (3, .int _)]) G (by decide) (Nat.le_of_ble_eq_true rfl) rfl (fun p e s m args below meth c F hr => ?_)
  have F : Fx p l s m args meth c cX3_fly 4 RX3 X := F
  refine v_aload_n F dX3_fly_0 rfl 0 rfl ?_
  refine v_iconst F (v := 2) dX3_fly_1 (by decide) ?_
  refine v_putC F tyX3 tyX3_ok nmX3 (id_R hr0 (by decide) hk) (celD_R hr0) rfl uw_X3 1 (by decide) rfl rfl (by decide +kernel) (celD_R hr0) (Nat.le_of_ble_eq_true rfl) wf_X3_9 dX3_fly_2 ?_
  refine v_aload_n F dX3_fly_5 rfl 0 rfl ?_
  refine v_iload_n F dX3_fly_6 rfl 1 rfl ?_
  refine v_putC F tyX3 tyX3_ok nmX3 (id_R hr0 (by decide) hk) (celD_R hr0) rfl uw_X3 2 (by decide) rfl rfl (by decide +kernel) (celD_R hr0) (Nat.le_of_ble_eq_true rfl) wf_X3_15 dX3_fly_7 ?_
  refine v_aload_n F dX3_fly_10 rfl 0 rfl ?_
  refine v_iconst F (v := (-1)) dX3_fly_11 (by decide) ?_
  refine v_putC F tyX3 tyX3_ok nmX3 (id_R hr0 (by decide) hk) (celD_R hr0) rfl uw_X3 3 (by decide) rfl rfl (by decide +kernel) (celD_R hr0) (Nat.le_of_ble_eq_true rfl) wf_X3_18 dX3_fly_12 ?_
  refine v_aload_n F dX3_fly_15 rfl 0 rfl ?_
  refine v_iload_n F dX3_fly_16 rfl 2 rfl ?_
  refine v_putC F tyX3 tyX3_ok nmX3 (id_R hr0 (by decide) hk) (celD_R hr0) rfl uw_X3 5 (by decide) rfl rfl (by decide +kernel) (celD_R hr0) (Nat.le_of_ble_eq_true rfl) wf_X3_27 dX3_fly_17 ?_
  refine v_aload_n F dX3_fly_20 rfl 0 rfl ?_
  refine v_iload_n F dX3_fly_21 rfl 3 rfl ?_
  refine v_aload_n F dX3_fly_22 rfl 0 rfl ?_
  refine v_iload_n F dX3_fly_23 rfl 2 rfl ?_
  refine v_callVi F (As := [_]) (rest := [.int _, .ref _]) rfl (c_X3_beatsInAir G hr0 hk _) (Rv_T hr0 hk) wm_X3_36 rfl ⟨rfl, rfl, Nat.le_of_ble_eq_true rfl, Nat.le_of_ble_eq_true rfl, Nat.le_of_ble_eq_true rfl, Nat.le_of_ble_eq_true rfl, Nat.le_of_ble_eq_true rfl⟩ dX3_fly_24 ?_
  refine v_iadd F dX3_fly_27 ?_
  refine v_putC F tyX3 tyX3_ok nmX3 (id_R hr0 (by decide) hk) (celD_R hr0) rfl uw_X3 4 (by decide) rfl rfl (by decide +kernel) (celD_R hr0) (Nat.le_of_ble_eq_true rfl) wf_X3_24 dX3_fly_28 ?_
  refine v_aload_n F dX3_fly_31 rfl 0 rfl ?_
  refine v_dup F dX3_fly_32 rfl ?_
  refine v_get F (id_R hr0 (by decide) hk) (heR hr0) rfl uw_X3 6 (by decide) rfl rfl wf_X3_30 dX3_fly_33 ?_
  refine v_iconst F (v := 1) dX3_fly_36 (by decide) ?_
  refine v_iadd F dX3_fly_37 ?_
  refine v_putC F tyX3 tyX3_ok nmX3 (id_R hr0 (by decide) hk) (celD_R hr0) rfl uw_X3 6 (by decide) rfl rfl (by decide +kernel) (celD_R hr0) (Nat.le_of_ble_eq_true rfl) wf_X3_30 dX3_fly_38 ?_
  refine v_vret F hr dX3_fly_41 ?_ rfl
  simp [fFly, u3_eq]
set_option maxHeartbeats 4000000 in
set_option maxRecDepth 100000 in
theorem c_X3_fall {X : Cx} {l : Launch} (G : Gx X l) {M : Mem} {lf : Lf} {r : Nat} (hr0 : r < 2) {σ : Sg} {k : Nat} (hk : k < 12) : CV X l yX3_fall (wsc yX3_fall cX3_fall 1 none) rm_X3_fall [.ref (X.2.1 r 8 k)] (uC M r σ) lf (uC M r (fFall σ k)) lf 0 0 := by
  refine CV_of (lv := [(0, .ref _)]) G (by decide) (Nat.le_of_ble_eq_true rfl) rfl (fun p e s m args below meth c F hr => ?_)
  have F : Fx p l s m args meth c cX3_fall 1 RX3 X := F
  refine v_aload_n F dX3_fall_0 rfl 0 rfl ?_
  refine v_aload_n F dX3_fall_1 rfl 0 rfl ?_
  refine v_get F (id_R hr0 (by decide) hk) (heR hr0) rfl uw_X3 0 (by decide) rfl rfl wf_X3_21 dX3_fall_2 ?_
  refine v_iconst F (v := 2) dX3_fall_5 (by decide) ?_
  refine v_icmp_ne F (tgt := 13) dX3_fall_6 (by decide) (fun c6 => ?_) (fun c6 => ?_)
  · have := c6
    refine v_iconst F (v := 0) dX3_fall_13 (by decide) ?_
    refine v_putC F tyX3 tyX3_ok nmX3 (id_R hr0 (by decide) hk) (celD_R hr0) rfl uw_X3 1 (by decide) rfl rfl (by decide +kernel) (celD_R hr0) (Nat.le_of_ble_eq_true rfl) wf_X3_9 dX3_fall_14 ?_
    refine v_aload_n F dX3_fall_17 rfl 0 rfl ?_
    refine v_iconst F (v := (-1)) dX3_fall_18 (by decide) ?_
    refine v_putC F tyX3 tyX3_ok nmX3 (id_R hr0 (by decide) hk) (celD_R hr0) rfl uw_X3 2 (by decide) rfl rfl (by decide +kernel) (celD_R hr0) (Nat.le_of_ble_eq_true rfl) wf_X3_15 dX3_fall_19 ?_
    refine v_aload_n F dX3_fall_22 rfl 0 rfl ?_
    refine v_dup F dX3_fall_23 rfl ?_
    refine v_get F (id_R hr0 (by decide) hk) (heR hr0) rfl uw_X3 7 (by decide) rfl rfl wf_X3_33 dX3_fall_24 ?_
    refine v_iconst F (v := 1) dX3_fall_27 (by decide) ?_
    refine v_iadd F dX3_fall_28 ?_
    refine v_putC F tyX3 tyX3_ok nmX3 (id_R hr0 (by decide) hk) (celD_R hr0) rfl uw_X3 7 (by decide) rfl rfl (by decide +kernel) (celD_R hr0) (Nat.le_of_ble_eq_true rfl) wf_X3_33 dX3_fall_29 ?_
    refine v_vret F hr dX3_fall_32 ?_ rfl
    simp_all [fFall, u3_eq]
  · have := c6
    refine v_iconst F (v := 3) dX3_fall_9 (by decide) ?_
    refine v_goto F (tgt := 14) dX3_fall_10 (by decide) ?_
    refine v_putC F tyX3 tyX3_ok nmX3 (id_R hr0 (by decide) hk) (celD_R hr0) rfl uw_X3 1 (by decide) rfl rfl (by decide +kernel) (celD_R hr0) (Nat.le_of_ble_eq_true rfl) wf_X3_9 dX3_fall_14 ?_
    refine v_aload_n F dX3_fall_17 rfl 0 rfl ?_
    refine v_iconst F (v := (-1)) dX3_fall_18 (by decide) ?_
    refine v_putC F tyX3 tyX3_ok nmX3 (id_R hr0 (by decide) hk) (celD_R hr0) rfl uw_X3 2 (by decide) rfl rfl (by decide +kernel) (celD_R hr0) (Nat.le_of_ble_eq_true rfl) wf_X3_15 dX3_fall_19 ?_
    refine v_aload_n F dX3_fall_22 rfl 0 rfl ?_
    refine v_dup F dX3_fall_23 rfl ?_
    refine v_get F (id_R hr0 (by decide) hk) (heR hr0) rfl uw_X3 7 (by decide) rfl rfl wf_X3_33 dX3_fall_24 ?_
    refine v_iconst F (v := 1) dX3_fall_27 (by decide) ?_
    refine v_iadd F dX3_fall_28 ?_
    refine v_putC F tyX3 tyX3_ok nmX3 (id_R hr0 (by decide) hk) (celD_R hr0) rfl uw_X3 7 (by decide) rfl rfl (by decide +kernel) (celD_R hr0) (Nat.le_of_ble_eq_true rfl) wf_X3_33 dX3_fall_29 ?_
    refine v_vret F hr dX3_fall_32 ?_ rfl
    simp_all [fFall, u3_eq]
set_option maxHeartbeats 4000000 in
set_option maxRecDepth 100000 in
theorem c_X3_copyFrom {X : Cx} {l : Launch} (G : Gx X l) {M : Mem} {lf : Lf} {r t : Nat} (hr0 : r < 2) (ht0 : t < 2) (htr : t ≠ r) {σ : Sg} {k : Nat} (hk : k < 12) : CV X l yX3_copyFrom (wsc yX3_copyFrom cX3_copyFrom 2 none) rm_X3_copyFrom [.ref (X.2.1 r 8 k), .ref (X.2.1 t 8 k)] (uC M r σ) lf (uC M r (fCopyT σ (M t) k)) lf 0 0 := by
  refine CV_of (lv := [(0, .ref _), (1, .ref _)]) G (by decide) (Nat.le_of_ble_eq_true rfl) rfl (fun p e s m args below meth c F hr => ?_)
  have F : Fx p l s m args meth c cX3_copyFrom 2 RX3 X := F
  refine v_aload_n F dX3_copyFrom_0 rfl 0 rfl ?_
  refine v_aload_n F dX3_copyFrom_1 rfl 1 rfl ?_
  refine v_get F (id_R ht0 (by decide) hk) ((heO htr).trans ((celD_R ht0))) rfl uw_X3 0 (by decide) rfl rfl wf_X3_21 dX3_copyFrom_2 ?_
  refine v_putC F tyX3 tyX3_ok nmX3 (id_R hr0 (by decide) hk) (celD_R hr0) rfl uw_X3 0 (by decide) rfl rfl (by decide +kernel) (celD_R hr0) (Nat.le_of_ble_eq_true rfl) wf_X3_21 dX3_copyFrom_5 ?_
  refine v_aload_n F dX3_copyFrom_8 rfl 0 rfl ?_
  refine v_aload_n F dX3_copyFrom_9 rfl 1 rfl ?_
  refine v_get F (id_R ht0 (by decide) hk) ((heO htr).trans ((celD_R ht0))) rfl uw_X3 1 (by decide) rfl rfl wf_X3_9 dX3_copyFrom_10 ?_
  refine v_putC F tyX3 tyX3_ok nmX3 (id_R hr0 (by decide) hk) (celD_R hr0) rfl uw_X3 1 (by decide) rfl rfl (by decide +kernel) (celD_R hr0) (Nat.le_of_ble_eq_true rfl) wf_X3_9 dX3_copyFrom_13 ?_
  refine v_aload_n F dX3_copyFrom_16 rfl 0 rfl ?_
  refine v_aload_n F dX3_copyFrom_17 rfl 1 rfl ?_
  refine v_get F (id_R ht0 (by decide) hk) ((heO htr).trans ((celD_R ht0))) rfl uw_X3 2 (by decide) rfl rfl wf_X3_15 dX3_copyFrom_18 ?_
  refine v_putC F tyX3 tyX3_ok nmX3 (id_R hr0 (by decide) hk) (celD_R hr0) rfl uw_X3 2 (by decide) rfl rfl (by decide +kernel) (celD_R hr0) (Nat.le_of_ble_eq_true rfl) wf_X3_15 dX3_copyFrom_21 ?_
  refine v_aload_n F dX3_copyFrom_24 rfl 0 rfl ?_
  refine v_aload_n F dX3_copyFrom_25 rfl 1 rfl ?_
  refine v_get F (id_R ht0 (by decide) hk) ((heO htr).trans ((celD_R ht0))) rfl uw_X3 3 (by decide) rfl rfl wf_X3_18 dX3_copyFrom_26 ?_
  refine v_putC F tyX3 tyX3_ok nmX3 (id_R hr0 (by decide) hk) (celD_R hr0) rfl uw_X3 3 (by decide) rfl rfl (by decide +kernel) (celD_R hr0) (Nat.le_of_ble_eq_true rfl) wf_X3_18 dX3_copyFrom_29 ?_
  refine v_aload_n F dX3_copyFrom_32 rfl 0 rfl ?_
  refine v_aload_n F dX3_copyFrom_33 rfl 1 rfl ?_
  refine v_get F (id_R ht0 (by decide) hk) ((heO htr).trans ((celD_R ht0))) rfl uw_X3 4 (by decide) rfl rfl wf_X3_24 dX3_copyFrom_34 ?_
  refine v_putC F tyX3 tyX3_ok nmX3 (id_R hr0 (by decide) hk) (celD_R hr0) rfl uw_X3 4 (by decide) rfl rfl (by decide +kernel) (celD_R hr0) (Nat.le_of_ble_eq_true rfl) wf_X3_24 dX3_copyFrom_37 ?_
  refine v_aload_n F dX3_copyFrom_40 rfl 0 rfl ?_
  refine v_aload_n F dX3_copyFrom_41 rfl 1 rfl ?_
  refine v_get F (id_R ht0 (by decide) hk) ((heO htr).trans ((celD_R ht0))) rfl uw_X3 5 (by decide) rfl rfl wf_X3_27 dX3_copyFrom_42 ?_
  refine v_putC F tyX3 tyX3_ok nmX3 (id_R hr0 (by decide) hk) (celD_R hr0) rfl uw_X3 5 (by decide) rfl rfl (by decide +kernel) (celD_R hr0) (Nat.le_of_ble_eq_true rfl) wf_X3_27 dX3_copyFrom_45 ?_
  refine v_aload_n F dX3_copyFrom_48 rfl 0 rfl ?_
  refine v_aload_n F dX3_copyFrom_49 rfl 1 rfl ?_
  refine v_get F (id_R ht0 (by decide) hk) ((heO htr).trans ((celD_R ht0))) rfl uw_X3 6 (by decide) rfl rfl wf_X3_30 dX3_copyFrom_50 ?_
  refine v_putC F tyX3 tyX3_ok nmX3 (id_R hr0 (by decide) hk) (celD_R hr0) rfl uw_X3 6 (by decide) rfl rfl (by decide +kernel) (celD_R hr0) (Nat.le_of_ble_eq_true rfl) wf_X3_30 dX3_copyFrom_53 ?_
  refine v_aload_n F dX3_copyFrom_56 rfl 0 rfl ?_
  refine v_aload_n F dX3_copyFrom_57 rfl 1 rfl ?_
  refine v_get F (id_R ht0 (by decide) hk) ((heO htr).trans ((celD_R ht0))) rfl uw_X3 7 (by decide) rfl rfl wf_X3_33 dX3_copyFrom_58 ?_
  refine v_putC F tyX3 tyX3_ok nmX3 (id_R hr0 (by decide) hk) (celD_R hr0) rfl uw_X3 7 (by decide) rfl rfl (by decide +kernel) (celD_R hr0) (Nat.le_of_ble_eq_true rfl) wf_X3_33 dX3_copyFrom_61 ?_
  exact v_vret F hr dX3_copyFrom_64 rfl rfl
abbrev rm_X1_write : Room := { frames := 0, cells := 0, slots := 0, locals := 0 }
abbrev rm_X1_copyFrom : Room := { frames := 0, cells := 0, slots := 0, locals := 0 }
abbrev rm_X1_addTo : Room := { frames := 0, cells := 0, slots := 0, locals := 0 }
abbrev rm_J9_floorMod_7cf53 : Room := { frames := 0, cells := 0, slots := 0, locals := 0 }
abbrev rm_X1_placeIn : Room := { frames := 1, cells := 0, slots := 0, locals := 22 }
section RP
variable {p : Program} {l : Launch} {e : Env} {R : Room} {s : State} {m : MethodId} {args : Array Value} {below : List Frame} {meth : Method} {c : Code} {Q : State → Prop} {X : Cx} {nL : Nat} {ex : va_W} {M : Mem} {lf : Lf} {cells slots : Nat}
set_option maxHeartbeats 4000000 in
set_option maxRecDepth 100000 in
theorem L_X1_write (F : Fx p l s m args meth c cX1_write 6 RX1 X) {r : Nat} (hr0 : r < 2) {i : Nat} (hi : i < 4) {ow dg : Int32} {n0 : Nat} {τ : Sg} (K : ∀ (rest : Int32) (pl : Int32), V p l e R s m args below meth c Q X 6 ex (uC M r τ) lf cells slots 54 [(5, .int pl), (4, .int rest), (0, .ref (X.2.1 r 3 i)), (1, .int ow), (2, .int (nI n0)), (3, .int dg)] []) : ∀ (n : Nat), n ≤ 8 → ∀ (σ : Sg) (rest : Int32), wrL i ow n rest σ = τ → V p l e R s m args below meth c Q X 6 ex (uC M r σ) lf cells slots 16 [(5, .int (nI n - 1)), (4, .int rest), (0, .ref (X.2.1 r 3 i)), (1, .int ow), (2, .int (nI n0)), (3, .int dg)] [] := by
  intro n
  induction n with
  | zero =>
    intro hn8 σ rest hτ
    subst hτ
    refine v_iload F dX1_write_16 0 rfl ?_
    refine v_if_lt F (tgt := 54) dX1_write_18 (by decide) (fun c18 => ?_) (fun h => absurd ((by decide : (nI 0 - 1 : Int32) < 0)) h)
    exact K _ _
  | succ n ih =>
    intro hn8 σ rest hτ
    have e1 : nI (n + 1) - 1 = nI n := nI_pred n
    rw [e1]
    refine v_iload F dX1_write_16 0 rfl ?_
    refine v_if_lt F (tgt := 54) dX1_write_18 (by decide) (fun h => absurd h (nI_pos (by omega))) (fun c18 => ?_)
    refine v_aload_n F dX1_write_21 rfl 2 rfl ?_
    refine v_get F (id_R hr0 (by decide) hi) (heR hr0) rfl uw_X1 0 (by decide) rfl rfl wf_X1_9 dX1_write_22 ?_
    refine v_iload F dX1_write_25 0 rfl ?_
    refine v_iload F dX1_write_27 1 rfl ?_
    refine v_bipush F (v := 10) dX1_write_29 (by decide) ?_
    refine v_irem F dX1_write_31 (by decide) ?_
    refine v_iastC F (id_R hr0 (by decide) hi) (celD_R hr0) rfl (n) (Ix_nI (by omega)) (celD_R hr0) dX1_write_32 ?_
    refine v_aload_n F dX1_write_33 rfl 2 rfl ?_
    refine v_get F (id_R hr0 (by decide) hi) (heR hr0) rfl uw_X1 1 (by decide) rfl rfl wf_X1_15 dX1_write_34 ?_
    refine v_iload F dX1_write_37 0 rfl ?_
    refine v_iload_n F dX1_write_39 rfl 3 rfl ?_
    refine v_iastC F (id_R hr0 (by decide) hi) (celD_R hr0) rfl (n) (Ix_nI (by omega)) (celD_R hr0) dX1_write_40 ?_
    refine v_iload F dX1_write_41 1 rfl ?_
    refine v_bipush F (v := 10) dX1_write_43 (by decide) ?_
    refine v_idiv F dX1_write_45 (by decide) ?_
    refine v_istore F dX1_write_46 (by decide) (lv' := [(4, .int _), (5, .int _), (0, .ref _), (1, .int _), (2, .int _), (3, .int _)]) rfl ?_
    refine v_iinc F (k := 1) (nI n - 1) dX1_write_48 rfl (iinc_m1 _) (by decide) (lv' := [(5, .int _), (4, .int _), (0, .ref _), (1, .int _), (2, .int _), (3, .int _)]) rfl ?_
    refine v_goto F (tgt := 16) dX1_write_51 (by decide) ?_
    exact v_locs [0, 1, 2, 3, 4, 5] rfl (ih (by omega) _ _ hτ)
set_option maxHeartbeats 4000000 in
set_option maxRecDepth 100000 in
theorem c_X1_write {X : Cx} {l : Launch} (G : Gx X l) {M : Mem} {lf : Lf} {r : Nat} (hr0 : r < 2) {σ : Sg} {i : Nat} (hi : i < 4) (ow dg : Int32) {n : Nat} (h1 : 1 ≤ n) (h8 : n ≤ 8) : CV X l yX1_write (wsc yX1_write cX1_write 6 none) rm_X1_write [.ref (X.2.1 r 3 i), .int ow, .int (nI n), .int dg] (uC M r σ) lf (uC M r (fWrite σ i ow n dg)) lf 0 0 := by
  refine CV_of (lv := [(0, .ref _), (1, .int _), (2, .int _), (3, .int _)]) G (by decide) (Nat.le_of_ble_eq_true rfl) rfl (fun p e s m args below meth c F hr => ?_)
  have F : Fx p l s m args meth c cX1_write 6 RX1 X := F
  refine v_aload_n F dX1_write_0 rfl 0 rfl ?_
  refine v_iload_n F dX1_write_1 rfl 2 rfl ?_
  refine v_putC F tyX1 tyX1_ok nmX1 (id_R hr0 (by decide) hi) (celD_R hr0) rfl uw_X1 2 (by decide) rfl rfl (by decide +kernel) (celD_R hr0) (Nat.le_of_ble_eq_true rfl) wf_X1_18 dX1_write_2 ?_
  refine v_iload_n F dX1_write_5 rfl 3 rfl ?_
  refine v_istore F dX1_write_6 (by decide) (lv' := [(4, .int _), (0, .ref _), (1, .int _), (2, .int _), (3, .int _)]) rfl ?_
  refine v_aload_n F dX1_write_8 rfl 1 rfl ?_
  refine v_get F (id_R hr0 (by decide) hi) (heR hr0) rfl uw_X1 2 (by decide) rfl rfl wf_X1_18 dX1_write_9 ?_
  refine v_topr (nI n) (u3_at _ _ _ _ _) ?_
  refine v_iconst F (v := 1) dX1_write_12 (by decide) ?_
  refine v_isub F dX1_write_13 ?_
  refine v_istore F dX1_write_14 (by decide) (lv' := [(5, .int _), (4, .int _), (0, .ref _), (1, .int _), (2, .int _), (3, .int _)]) rfl ?_
  refine v_locs [0, 1, 2, 3, 4, 5] rfl ?_
  exact L_X1_write F hr0 hi (fun rest pl => v_vret F hr dX1_write_54 rfl rfl) n h8 _ dg rfl
set_option maxHeartbeats 4000000 in
set_option maxRecDepth 100000 in
theorem L_X1_copyFrom (F : Fx p l s m args meth c cX1_copyFrom 3 RX1 X) {r t : Nat} (hr0 : r < 2) (ht0 : t < 2) (htr : t ≠ r) {i : Nat} (hi : i < 4) {n : Nat} (h8 : n ≤ 8) {σ : Sg} (hσ : σ 3 i 2 = nI n) (K : V p l e R s m args below meth c Q X 3 ex (uC M r (cpPL i (M t) σ n)) lf cells slots 48 [(2, .int (nI n)), (0, .ref (X.2.1 r 3 i)), (1, .ref (X.2.1 t 3 i))] []) : ∀ (k q : Nat), k + q = n → V p l e R s m args below meth c Q X 3 ex (uC M r (cpPL i (M t) σ q)) lf cells slots 10 [(2, .int (nI q)), (0, .ref (X.2.1 r 3 i)), (1, .ref (X.2.1 t 3 i))] [] := by
  intro k
  induction k with
  | zero =>
    intro q hq
    obtain rfl : q = n := by omega
    have e0 : cpPL i (M t) σ q 3 i 2 = nI q := (cpPL_k (by decide) (by decide) q).trans hσ
    refine v_iload_n F dX1_copyFrom_10 rfl 0 rfl ?_
    refine v_aload_n F dX1_copyFrom_11 rfl 1 rfl ?_
    refine v_get F (id_R hr0 (by decide) hi) (heR hr0) rfl uw_X1 2 (by decide) rfl rfl wf_X1_18 dX1_copyFrom_12 ?_
    refine v_topr (nI q) e0 ?_
    refine v_icmp_ge F (tgt := 48) dX1_copyFrom_15 (by decide) (fun c15 => ?_) (fun h => absurd (nI_le (Nat.le_refl _) (by omega)) h)
    exact K
  | succ k ih =>
    intro q hq
    have e0 : cpPL i (M t) σ q 3 i 2 = nI n := (cpPL_k (by decide) (by decide) q).trans hσ
    refine v_iload_n F dX1_copyFrom_10 rfl 0 rfl ?_
    refine v_aload_n F dX1_copyFrom_11 rfl 1 rfl ?_
    refine v_get F (id_R hr0 (by decide) hi) (heR hr0) rfl uw_X1 2 (by decide) rfl rfl wf_X1_18 dX1_copyFrom_12 ?_
    refine v_topr (nI n) e0 ?_
    refine v_icmp_ge F (tgt := 48) dX1_copyFrom_15 (by decide) (fun h => absurd h (nI_ge (by omega) (by omega))) (fun c15 => ?_)
    refine v_aload_n F dX1_copyFrom_18 rfl 1 rfl ?_
    refine v_get F (id_R hr0 (by decide) hi) (heR hr0) rfl uw_X1 0 (by decide) rfl rfl wf_X1_9 dX1_copyFrom_19 ?_
    refine v_iload_n F dX1_copyFrom_22 rfl 0 rfl ?_
    refine v_aload_n F dX1_copyFrom_23 rfl 2 rfl ?_
    refine v_get F (id_R ht0 (by decide) hi) ((heO htr).trans ((celD_R ht0))) rfl uw_X1 0 (by decide) rfl rfl wf_X1_9 dX1_copyFrom_24 ?_
    refine v_iload_n F dX1_copyFrom_27 rfl 0 rfl ?_
    refine v_iald F (id_R ht0 (by decide) hi) ((heO htr).trans ((celD_R ht0))) rfl (q) (Ix_nI (by omega)) dX1_copyFrom_28 ?_
    refine v_iastC F (id_R hr0 (by decide) hi) (celD_R hr0) rfl (q) (Ix_nI (by omega)) (celD_R hr0) dX1_copyFrom_29 ?_
    refine v_aload_n F dX1_copyFrom_30 rfl 1 rfl ?_
    refine v_get F (id_R hr0 (by decide) hi) (heR hr0) rfl uw_X1 1 (by decide) rfl rfl wf_X1_15 dX1_copyFrom_31 ?_
    refine v_iload_n F dX1_copyFrom_34 rfl 0 rfl ?_
    refine v_aload_n F dX1_copyFrom_35 rfl 2 rfl ?_
    refine v_get F (id_R ht0 (by decide) hi) ((heO htr).trans ((celD_R ht0))) rfl uw_X1 1 (by decide) rfl rfl wf_X1_15 dX1_copyFrom_36 ?_
    refine v_iload_n F dX1_copyFrom_39 rfl 0 rfl ?_
    refine v_iald F (id_R ht0 (by decide) hi) ((heO htr).trans ((celD_R ht0))) rfl (q) (Ix_nI (by omega)) dX1_copyFrom_40 ?_
    refine v_iastC F (id_R hr0 (by decide) hi) (celD_R hr0) rfl (q) (Ix_nI (by omega)) (celD_R hr0) dX1_copyFrom_41 ?_
    refine v_iinc F (k := 0) (nI (q + 1)) dX1_copyFrom_42 rfl (iinc_nI q) (by decide) (lv' := [(2, .int _), (0, .ref _), (1, .ref _)]) rfl ?_
    refine v_goto F (tgt := 10) dX1_copyFrom_45 (by decide) ?_
    exact ih (q + 1) (by omega)
set_option maxHeartbeats 4000000 in
set_option maxRecDepth 100000 in
theorem c_X1_copyFrom {X : Cx} {l : Launch} (G : Gx X l) {M : Mem} {lf : Lf} {r t : Nat} (hr0 : r < 2) (ht0 : t < 2) (htr : t ≠ r) {σ : Sg} {i : Nat} (hi : i < 4) {n : Nat} (h8 : n ≤ 8) (hn : M t 3 i 2 = nI n) : CV X l yX1_copyFrom (wsc yX1_copyFrom cX1_copyFrom 3 none) rm_X1_copyFrom [.ref (X.2.1 r 3 i), .ref (X.2.1 t 3 i)] (uC M r σ) lf (uC M r (fCopyP σ (M t) i n)) lf 0 0 := by
  refine CV_of (lv := [(0, .ref _), (1, .ref _)]) G (by decide) (Nat.le_of_ble_eq_true rfl) rfl (fun p e s m args below meth c F hr => ?_)
  have F : Fx p l s m args meth c cX1_copyFrom 3 RX1 X := F
  refine v_aload_n F dX1_copyFrom_0 rfl 0 rfl ?_
  refine v_aload_n F dX1_copyFrom_1 rfl 1 rfl ?_
  refine v_get F (id_R ht0 (by decide) hi) ((heO htr).trans ((celD_R ht0))) rfl uw_X1 2 (by decide) rfl rfl wf_X1_18 dX1_copyFrom_2 ?_
  refine v_putC F tyX1 tyX1_ok nmX1 (id_R hr0 (by decide) hi) (celD_R hr0) rfl uw_X1 2 (by decide) rfl rfl (by decide +kernel) (celD_R hr0) (Nat.le_of_ble_eq_true rfl) wf_X1_18 dX1_copyFrom_5 ?_
  refine v_iconst F (v := nI 0) dX1_copyFrom_8 (by decide) ?_
  refine v_istore_n F dX1_copyFrom_9 rfl (by decide) (lv' := [(2, .int _), (0, .ref _), (1, .ref _)]) rfl ?_
  exact L_X1_copyFrom F hr0 ht0 htr hi h8 (by rw [u3_at]; exact hn) (v_vret F hr dX1_copyFrom_48 rfl rfl) n 0 rfl
end RP
theorem reL_01 (σ : Sg) (i d : Nat) : ∀ k p : Nat, reL σ i d k p = 0 ∨ reL σ i d k p = 1
  | 0, p => Or.inr rfl
  | k + 1, p => by
    unfold reL
    split
    · exact reL_01 σ i d k (p + 1)
    · exact Or.inl rfl
theorem fRep_01 (σ : Sg) (i n d : Nat) : fRep σ i n d = 0 ∨ fRep σ i n d = 1 := reL_01 σ i d (n - d) d
section RQ
variable {p : Program} {l : Launch} {e : Env} {R : Room} {s : State} {m : MethodId} {args : Array Value} {below : List Frame} {meth : Method} {c : Code} {Q : State → Prop} {X : Cx} {nL : Nat} {ex : va_W} {M : Mem} {lf : Lf} {cells slots : Nat}
set_option maxHeartbeats 4000000 in
set_option maxRecDepth 100000 in
theorem c_floorMod {X : Cx} {l : Launch} (G : Gx X l) {M : Mem} {lf : Lf} {b n : Nat} (hb : b < 2 ^ 31) (h1 : 1 ≤ n) (hn : n < 2 ^ 31) : CI X l yJ9_floorMod_7cf53 (wsc yJ9_floorMod_7cf53 cJ9_floorMod_7cf53 3 (some .int)) rm_J9_floorMod_7cf53 [.int (nI b), .int (nI n)] (M) lf (nI (b % n)) (M) lf 0 0 := by
  refine CI_ofF (lv := [(0, .int _), (1, .int _)]) G (by decide +kernel) (Nat.le_of_ble_eq_true rfl) rfl (fun p e s m args below meth c F hr => ?_)
  have F : Fx p l s m args meth c cJ9_floorMod_7cf53 3 RJ9 X := F
  refine v_iload_n F dJ9_floorMod_7cf53_0 rfl 0 rfl ?_
  refine v_iload_n F dJ9_floorMod_7cf53_1 rfl 1 rfl ?_
  refine v_irem F dJ9_floorMod_7cf53_2 (nI_ne0 h1 hn) ?_
  refine v_topr (nI (b % n)) (pk_rem hb h1 hn) ?_
  refine v_istore_n F dJ9_floorMod_7cf53_3 rfl (by decide) (lv' := [(2, .int _), (0, .int _), (1, .int _)]) rfl ?_
  refine v_iload_n F dJ9_floorMod_7cf53_4 rfl 1 rfl ?_
  refine v_iload_n F dJ9_floorMod_7cf53_5 rfl 2 rfl ?_
  refine v_ixor F dJ9_floorMod_7cf53_6 ?_
  refine v_if_ge F (tgt := 18) dJ9_floorMod_7cf53_7 (by decide) (fun c7 => ?_) (fun h => absurd (xor_pos hb hn) h)
  refine v_iload_n F dJ9_floorMod_7cf53_18 rfl 0 rfl ?_
  exact v_iret F hr dJ9_floorMod_7cf53_19 rfl rfl rfl
set_option maxHeartbeats 4000000 in
set_option maxRecDepth 100000 in
theorem c_X1_placeIn {X : Cx} {l : Launch} (G : Gx X l) {M : Mem} {lf : Lf} {r : Nat} (hr0 : r < 2) {σ : Sg} {i : Nat} (hi : i < 4) {b n : Nat} (hb : b < 2 ^ 31) (h1 : 1 ≤ n) (h8 : n ≤ 8) (hn : σ 3 i 2 = nI n) : CI X l yX1_placeIn (wsc yX1_placeIn cX1_placeIn 2 (some .int)) rm_X1_placeIn [.ref (X.2.1 r 3 i), .int (nI b)] (uC M r σ) lf (nI (b % n)) (uC M r σ) lf 0 0 := by
  refine CI_of (lv := [(0, .ref _), (1, .int _)]) G (by decide) (Nat.le_of_ble_eq_true rfl) rfl (fun p e s m args below meth c F hr => ?_)
  have F : Fx p l s m args meth c cX1_placeIn 2 RX1 X := F
  refine v_iload_n F dX1_placeIn_0 rfl 1 rfl ?_
  refine v_aload_n F dX1_placeIn_1 rfl 0 rfl ?_
  refine v_get F (id_R hr0 (by decide) hi) (heR hr0) rfl uw_X1 2 (by decide) rfl rfl wf_X1_18 dX1_placeIn_2 ?_
  refine v_topr (nI n) hn ?_
  refine v_callSi F (As := [_, _]) (rest := []) rfl (c_floorMod G hb h1 (by omega)) wm_X1_22 rfl ⟨rfl, rfl, Nat.le_of_ble_eq_true rfl, Nat.le_of_ble_eq_true rfl, Nat.le_of_ble_eq_true rfl, Nat.le_of_ble_eq_true rfl, Nat.le_of_ble_eq_true rfl⟩ dX1_placeIn_5 ?_
  exact v_iret F hr dX1_placeIn_8 rfl rfl rfl
set_option maxHeartbeats 4000000 in
set_option maxRecDepth 100000 in
theorem L_X1_addTo (F : Fx p l s m args meth c cX1_addTo 6 RX1 X) {r : Nat} (hr0 : r < 2) {i : Nat} (hi : i < 4) {n : Nat} (h8 : n ≤ 8) {σ : Sg} (hσ : σ 3 i 2 = nI n) {dg : Int64} (K : V p l e R s m args below meth c Q X 6 ex (uC M r σ) lf cells slots 50 [(5, .int (nI n)), (3, .long (adL σ i dg n)), (0, .ref (X.2.1 r 3 i)), (1, .long dg)] []) : ∀ (k q : Nat), k + q = n → V p l e R s m args below meth c Q X 6 ex (uC M r σ) lf cells slots 5 [(5, .int (nI q)), (3, .long (adL σ i dg q)), (0, .ref (X.2.1 r 3 i)), (1, .long dg)] [] := by
  intro k
  induction k with
  | zero =>
    intro q hq
    obtain rfl : q = n := by omega
    refine v_iload F dX1_addTo_5 0 rfl ?_
    refine v_aload_n F dX1_addTo_7 rfl 2 rfl ?_
    refine v_get F (id_R hr0 (by decide) hi) (heR hr0) rfl uw_X1 2 (by decide) rfl rfl wf_X1_18 dX1_addTo_8 ?_
    refine v_topr (nI q) hσ ?_
    refine v_icmp_ge F (tgt := 50) dX1_addTo_11 (by decide) (fun c11 => ?_) (fun h => absurd (nI_le (Nat.le_refl _) (by omega)) h)
    exact K
  | succ k ih =>
    intro q hq
    refine v_iload F dX1_addTo_5 0 rfl ?_
    refine v_aload_n F dX1_addTo_7 rfl 2 rfl ?_
    refine v_get F (id_R hr0 (by decide) hi) (heR hr0) rfl uw_X1 2 (by decide) rfl rfl wf_X1_18 dX1_addTo_8 ?_
    refine v_topr (nI n) hσ ?_
    refine v_icmp_ge F (tgt := 50) dX1_addTo_11 (by decide) (fun h => absurd h (nI_ge (by omega) (by omega))) (fun c11 => ?_)
    refine v_lload_n F dX1_addTo_14 rfl 1 rfl ?_
    refine v_ldc2 F wk_X1_32 dX1_addTo_15 ?_
    refine v_lmul F dX1_addTo_18 ?_
    refine v_aload_n F dX1_addTo_19 rfl 2 rfl ?_
    refine v_get F (id_R hr0 (by decide) hi) (heR hr0) rfl uw_X1 0 (by decide) rfl rfl wf_X1_9 dX1_addTo_20 ?_
    refine v_iload F dX1_addTo_23 0 rfl ?_
    refine v_iald F (id_R hr0 (by decide) hi) (heR hr0) rfl (q) (Ix_nI (by omega)) dX1_addTo_25 ?_
    refine v_i2l F dX1_addTo_26 ?_
    refine v_ladd F dX1_addTo_27 ?_
    refine v_lstore_n F dX1_addTo_28 rfl (by decide) (lv' := [(3, .long _), (5, .int _), (0, .ref _), (1, .long _)]) rfl ?_
    refine v_lload_n F dX1_addTo_29 rfl 0 rfl ?_
    refine v_ldc2 F wk_X1_32 dX1_addTo_30 ?_
    refine v_lmul F dX1_addTo_33 ?_
    refine v_aload_n F dX1_addTo_34 rfl 2 rfl ?_
    refine v_get F (id_R hr0 (by decide) hi) (heR hr0) rfl uw_X1 1 (by decide) rfl rfl wf_X1_15 dX1_addTo_35 ?_
    refine v_iload F dX1_addTo_38 1 rfl ?_
    refine v_iald F (id_R hr0 (by decide) hi) (heR hr0) rfl (q) (Ix_nI (by omega)) dX1_addTo_40 ?_
    refine v_i2l F dX1_addTo_41 ?_
    refine v_ladd F dX1_addTo_42 ?_
    refine v_lstore_n F dX1_addTo_43 rfl (by decide) (lv' := [(3, .long _), (5, .int _), (0, .ref _), (1, .long _)]) rfl ?_
    refine v_iinc F (k := 1) (nI (q + 1)) dX1_addTo_44 rfl (iinc_nI q) (by decide) (lv' := [(5, .int _), (3, .long _), (0, .ref _), (1, .long _)]) rfl ?_
    refine v_goto F (tgt := 5) dX1_addTo_47 (by decide) ?_
    exact ih (q + 1) (by omega)
set_option maxHeartbeats 4000000 in
set_option maxRecDepth 100000 in
theorem c_X1_addTo {X : Cx} {l : Launch} (G : Gx X l) {M : Mem} {lf : Lf} {r : Nat} (hr0 : r < 2) {σ : Sg} {i : Nat} (hi : i < 4) {n : Nat} (h8 : n ≤ 8) (hn : σ 3 i 2 = nI n) (dg : Int64) : CL X l yX1_addTo (wsc yX1_addTo cX1_addTo 6 (some .long)) rm_X1_addTo [.ref (X.2.1 r 3 i), .long dg] (uC M r σ) lf (adL σ i dg n) (uC M r σ) lf 0 0 := by
  refine CL_of (lv := [(0, .ref _), (1, .long _)]) G (by decide) (Nat.le_of_ble_eq_true rfl) rfl (fun p e s m args below meth c F hr => ?_)
  have F : Fx p l s m args meth c cX1_addTo 6 RX1 X := F
  refine v_lload_n F dX1_addTo_0 rfl 1 rfl ?_
  refine v_lstore_n F dX1_addTo_1 rfl (by decide) (lv' := [(3, .long _), (0, .ref _), (1, .long _)]) rfl ?_
  refine v_iconst F (v := nI 0) dX1_addTo_2 (by decide) ?_
  refine v_istore F dX1_addTo_3 (by decide) (lv' := [(5, .int _), (3, .long _), (0, .ref _), (1, .long _)]) rfl ?_
  refine L_X1_addTo F hr0 hi h8 hn ?_ n 0 (Nat.add_zero n)
  · skip
    refine v_lload_n F dX1_addTo_50 rfl 1 rfl ?_
    exact v_lret F hr dX1_addTo_51 rfl rfl rfl
end RQ
abbrev rm_X0_copyFrom : Room := { frames := 1, cells := 0, slots := 0, locals := 22 }
abbrev rm_X0_canCatch : Room := { frames := 0, cells := 0, slots := 0, locals := 0 }
abbrev rm_X0_miss : Room := { frames := 1, cells := 0, slots := 0, locals := 20 }
abbrev rm_X0_thingsHeld : Room := { frames := 0, cells := 0, slots := 0, locals := 0 }
set_option maxHeartbeats 4000000 in
set_option maxRecDepth 100000 in
theorem c_X0_canCatch {X : Cx} {l : Launch} (G : Gx X l) {M : Mem} {lf : Lf} {r : Nat} (hr0 : r < 2) {σ : Sg} {i : Nat} (hi : i < 4) (h : Int32) {hd : Nat} (hh : hd < 2) : CI X l yX0_canCatch (wsc yX0_canCatch cX0_canCatch 3 (some .boolean)) rm_X0_canCatch [.ref (X.2.1 r 2 i), .int h, .int (nI hd)] (uC M r σ) lf (fCan σ i h hd) (uC M r σ) lf 0 0 := by
  refine CI_of (lv := [(0, .ref _), (1, .int _), (2, .int _)]) G (by decide) (Nat.le_of_ble_eq_true rfl) rfl (fun p e s m args below meth c F hr => ?_)
  have F : Fx p l s m args meth c cX0_canCatch 3 RX0 X := F
  refine v_aload_n F dX0_canCatch_0 rfl 0 rfl ?_
  refine v_get F (id_R hr0 (by decide) hi) (heR hr0) rfl uw_X0 1 (by decide) rfl rfl wf_X0_18 dX0_canCatch_1 ?_
  refine v_iload_n F dX0_canCatch_4 rfl 2 rfl ?_
  refine v_iald F (id_R hr0 (by decide) hi) (heR hr0) rfl (hd) (Ix_nI (by omega)) dX0_canCatch_5 ?_
  refine v_iconst F (v := (-1)) dX0_canCatch_6 (by decide) ?_
  refine v_icmp_ne F (tgt := 24) dX0_canCatch_7 (by decide) (fun c7 => ?_) (fun c7 => ?_)
  · have := c7
    refine v_iconst F (v := 0) dX0_canCatch_24 (by decide) ?_
    refine v_zret F hr dX0_canCatch_25 rfl ?_ rfl rfl
    simp_all [fCan]
  · have := c7
    refine v_iload_n F dX0_canCatch_10 rfl 1 rfl ?_
    refine v_aload_n F dX0_canCatch_11 rfl 0 rfl ?_
    refine v_get F (id_R hr0 (by decide) hi) (heR hr0) rfl uw_X0 2 (by decide) rfl rfl wf_X0_26 dX0_canCatch_12 ?_
    refine v_iconst F (v := 2) dX0_canCatch_15 (by decide) ?_
    refine v_iadd F dX0_canCatch_16 ?_
    refine v_icmp_gt F (tgt := 24) dX0_canCatch_17 (by decide) (fun c17 => ?_) (fun c17 => ?_)
    · have := c17
      refine v_iconst F (v := 0) dX0_canCatch_24 (by decide) ?_
      refine v_zret F hr dX0_canCatch_25 rfl ?_ rfl rfl
      simp_all [fCan]
    · have := c17
      refine v_iconst F (v := 1) dX0_canCatch_20 (by decide) ?_
      refine v_goto F (tgt := 25) dX0_canCatch_21 (by decide) ?_
      refine v_zret F hr dX0_canCatch_25 rfl ?_ rfl rfl
      simp_all [fCan]
set_option maxHeartbeats 4000000 in
set_option maxRecDepth 100000 in
theorem c_X0_miss {X : Cx} {l : Launch} (G : Gx X l) {M : Mem} {lf : Lf} {r : Nat} (hr0 : r < 2) {σ : Sg} {i : Nat} (hi : i < 4) {k : Nat} (hk : k < 12) : CV X l yX0_miss (wsc yX0_miss cX0_miss 2 none) rm_X0_miss [.ref (X.2.1 r 2 i), .ref (X.2.1 r 8 k)] (uC M r σ) lf (uC M r (fMiss σ i k)) lf 0 0 := by
  refine CV_of (lv := [(0, .ref _), (1, .ref _)]) G (by decide) (Nat.le_of_ble_eq_true rfl) rfl (fun p e s m args below meth c F hr => ?_)
  have F : Fx p l s m args meth c cX0_miss 2 RX0 X := F
  refine v_aload_n F dX0_miss_0 rfl 1 rfl ?_
  refine v_getN F (id_R hr0 (by decide) hk) (heR hr0) rfl uw_X3 0 (by decide) rfl rfl wf_X0_36 dX0_miss_1 ?_
  refine v_iconst F (v := 1) dX0_miss_4 (by decide) ?_
  refine v_icmp_ne F (tgt := 18) dX0_miss_5 (by decide) (fun c5 => ?_) (fun c5 => ?_)
  · have := c5
    refine v_aload_n F dX0_miss_18 rfl 1 rfl ?_
    refine v_callNv F (As := []) (rest := []) rfl (c_X3_fall G hr0 hk) (Rv_T hr0 hk) wm_X0_41 rfl ⟨rfl, rfl, Nat.le_of_ble_eq_true rfl, Nat.le_of_ble_eq_true rfl, Nat.le_of_ble_eq_true rfl, Nat.le_of_ble_eq_true rfl, Nat.le_of_ble_eq_true rfl⟩ dX0_miss_19 ?_
    refine v_vret F hr dX0_miss_22 ?_ rfl
    unfold fMiss
    first | (rw [if_pos c5]) | (rw [if_neg c5])
  · have := c5
    refine v_aload_n F dX0_miss_8 rfl 0 rfl ?_
    refine v_dup F dX0_miss_9 rfl ?_
    refine v_get F (id_R hr0 (by decide) hi) (heR hr0) rfl uw_X0 3 (by decide) rfl rfl wf_X0_30 dX0_miss_10 ?_
    refine v_iconst F (v := 1) dX0_miss_13 (by decide) ?_
    refine v_iadd F dX0_miss_14 ?_
    refine v_putC F tyX0 tyX0_ok nmX0 (id_R hr0 (by decide) hi) (celD_R hr0) rfl uw_X0 3 (by decide) rfl rfl (by decide +kernel) (celD_R hr0) (Nat.le_of_ble_eq_true rfl) wf_X0_30 dX0_miss_15 ?_
    refine v_aload_n F dX0_miss_18 rfl 1 rfl ?_
    refine v_callNv F (As := []) (rest := []) rfl (c_X3_fall G hr0 hk) (Rv_T hr0 hk) wm_X0_41 rfl ⟨rfl, rfl, Nat.le_of_ble_eq_true rfl, Nat.le_of_ble_eq_true rfl, Nat.le_of_ble_eq_true rfl, Nat.le_of_ble_eq_true rfl, Nat.le_of_ble_eq_true rfl⟩ dX0_miss_19 ?_
    refine v_vret F hr dX0_miss_22 ?_ rfl
    unfold fMiss
    first | (rw [if_pos c5]) | (rw [if_neg c5])
set_option maxHeartbeats 4000000 in
set_option maxRecDepth 100000 in
theorem c_X0_thingsHeld {X : Cx} {l : Launch} (G : Gx X l) {M : Mem} {lf : Lf} {r : Nat} (hr0 : r < 2) {σ : Sg} {i : Nat} (hi : i < 4) : CI X l yX0_thingsHeld (wsc yX0_thingsHeld cX0_thingsHeld 3 (some .int)) rm_X0_thingsHeld [.ref (X.2.1 r 2 i)] (uC M r σ) lf (fHeld σ i) (uC M r σ) lf 0 0 := by
  refine CI_of (lv := [(0, .ref _)]) G (by decide) (Nat.le_of_ble_eq_true rfl) rfl (fun p e s m args below meth c F hr => ?_)
  have F : Fx p l s m args meth c cX0_thingsHeld 3 RX0 X := F
  refine v_iconst F (v := 0) dX0_thingsHeld_0 (by decide) ?_
  refine v_istore_n F dX0_thingsHeld_1 rfl (by decide) (lv' := [(1, .int _), (0, .ref _)]) rfl ?_
  refine v_iconst F (v := nI 0) dX0_thingsHeld_2 (by decide) ?_
  refine v_istore_n F dX0_thingsHeld_3 rfl (by decide) (lv' := [(2, .int _), (1, .int _), (0, .ref _)]) rfl ?_
  refine v_iload_n F dX0_thingsHeld_4 rfl 0 rfl ?_
  refine v_iconst F (v := 2) dX0_thingsHeld_5 (by decide) ?_
  refine v_icmp_ge F (tgt := 28) dX0_thingsHeld_6 (by decide) (fun h => absurd h ((by decide))) (fun c6 => ?_)
  refine v_aload_n F dX0_thingsHeld_9 rfl 2 rfl ?_
  refine v_get F (id_R hr0 (by decide) hi) (heR hr0) rfl uw_X0 1 (by decide) rfl rfl wf_X0_18 dX0_thingsHeld_10 ?_
  refine v_iload_n F dX0_thingsHeld_13 rfl 0 rfl ?_
  refine v_iald F (id_R hr0 (by decide) hi) (heR hr0) rfl (0) (Ix_nI (by omega)) dX0_thingsHeld_14 ?_
  refine v_iconst F (v := (-1)) dX0_thingsHeld_15 (by decide) ?_
  refine v_icmp_eq F (tgt := 22) dX0_thingsHeld_16 (by decide) (fun c16 => ?_) (fun c16 => ?_)
  · have := c16
    refine v_iinc F (k := 0) (nI 1) dX0_thingsHeld_22 rfl (by decide) (by decide) (lv' := [(2, .int _), (1, .int _), (0, .ref _)]) rfl ?_
    refine v_goto F (tgt := 4) dX0_thingsHeld_25 (by decide) ?_
    refine v_iload_n F dX0_thingsHeld_4 rfl 0 rfl ?_
    refine v_iconst F (v := 2) dX0_thingsHeld_5 (by decide) ?_
    refine v_icmp_ge F (tgt := 28) dX0_thingsHeld_6 (by decide) (fun h => absurd h ((by decide))) (fun c6 => ?_)
    refine v_aload_n F dX0_thingsHeld_9 rfl 2 rfl ?_
    refine v_get F (id_R hr0 (by decide) hi) (heR hr0) rfl uw_X0 1 (by decide) rfl rfl wf_X0_18 dX0_thingsHeld_10 ?_
    refine v_iload_n F dX0_thingsHeld_13 rfl 0 rfl ?_
    refine v_iald F (id_R hr0 (by decide) hi) (heR hr0) rfl (1) (Ix_nI (by omega)) dX0_thingsHeld_14 ?_
    refine v_iconst F (v := (-1)) dX0_thingsHeld_15 (by decide) ?_
    refine v_icmp_eq F (tgt := 22) dX0_thingsHeld_16 (by decide) (fun c16b => ?_) (fun c16b => ?_)
    · have := c16b
      refine v_iinc F (k := 0) (nI 2) dX0_thingsHeld_22 rfl (by decide) (by decide) (lv' := [(2, .int _), (1, .int _), (0, .ref _)]) rfl ?_
      refine v_goto F (tgt := 4) dX0_thingsHeld_25 (by decide) ?_
      refine v_iload_n F dX0_thingsHeld_4 rfl 0 rfl ?_
      refine v_iconst F (v := 2) dX0_thingsHeld_5 (by decide) ?_
      refine v_icmp_ge F (tgt := 28) dX0_thingsHeld_6 (by decide) (fun c6 => ?_) (fun h => absurd ((by decide)) h)
      refine v_iload_n F dX0_thingsHeld_28 rfl 1 rfl ?_
      refine v_iret F hr dX0_thingsHeld_29 ?_ rfl rfl
      simp_all [fHeld, cI]
    · have := c16b
      refine v_iinc F (k := 1) (_) dX0_thingsHeld_19 rfl rfl (by decide) (lv' := [(1, .int _), (2, .int _), (0, .ref _)]) rfl ?_
      refine v_iinc F (k := 1) (nI 2) dX0_thingsHeld_22 rfl (by decide) (by decide) (lv' := [(2, .int _), (1, .int _), (0, .ref _)]) rfl ?_
      refine v_goto F (tgt := 4) dX0_thingsHeld_25 (by decide) ?_
      refine v_iload_n F dX0_thingsHeld_4 rfl 0 rfl ?_
      refine v_iconst F (v := 2) dX0_thingsHeld_5 (by decide) ?_
      refine v_icmp_ge F (tgt := 28) dX0_thingsHeld_6 (by decide) (fun c6 => ?_) (fun h => absurd ((by decide)) h)
      refine v_iload_n F dX0_thingsHeld_28 rfl 1 rfl ?_
      refine v_iret F hr dX0_thingsHeld_29 ?_ rfl rfl
      simp_all [fHeld, cI]
  · have := c16
    refine v_iinc F (k := 1) (_) dX0_thingsHeld_19 rfl rfl (by decide) (lv' := [(1, .int _), (2, .int _), (0, .ref _)]) rfl ?_
    refine v_iinc F (k := 1) (nI 1) dX0_thingsHeld_22 rfl (by decide) (by decide) (lv' := [(2, .int _), (1, .int _), (0, .ref _)]) rfl ?_
    refine v_goto F (tgt := 4) dX0_thingsHeld_25 (by decide) ?_
    refine v_iload_n F dX0_thingsHeld_4 rfl 0 rfl ?_
    refine v_iconst F (v := 2) dX0_thingsHeld_5 (by decide) ?_
    refine v_icmp_ge F (tgt := 28) dX0_thingsHeld_6 (by decide) (fun h => absurd h ((by decide))) (fun c6 => ?_)
    refine v_aload_n F dX0_thingsHeld_9 rfl 2 rfl ?_
    refine v_get F (id_R hr0 (by decide) hi) (heR hr0) rfl uw_X0 1 (by decide) rfl rfl wf_X0_18 dX0_thingsHeld_10 ?_
    refine v_iload_n F dX0_thingsHeld_13 rfl 0 rfl ?_
    refine v_iald F (id_R hr0 (by decide) hi) (heR hr0) rfl (1) (Ix_nI (by omega)) dX0_thingsHeld_14 ?_
    refine v_iconst F (v := (-1)) dX0_thingsHeld_15 (by decide) ?_
    refine v_icmp_eq F (tgt := 22) dX0_thingsHeld_16 (by decide) (fun c16b => ?_) (fun c16b => ?_)
    · have := c16b
      refine v_iinc F (k := 0) (nI 2) dX0_thingsHeld_22 rfl (by decide) (by decide) (lv' := [(2, .int _), (1, .int _), (0, .ref _)]) rfl ?_
      refine v_goto F (tgt := 4) dX0_thingsHeld_25 (by decide) ?_
      refine v_iload_n F dX0_thingsHeld_4 rfl 0 rfl ?_
      refine v_iconst F (v := 2) dX0_thingsHeld_5 (by decide) ?_
      refine v_icmp_ge F (tgt := 28) dX0_thingsHeld_6 (by decide) (fun c6 => ?_) (fun h => absurd ((by decide)) h)
      refine v_iload_n F dX0_thingsHeld_28 rfl 1 rfl ?_
      refine v_iret F hr dX0_thingsHeld_29 ?_ rfl rfl
      simp_all [fHeld, cI]
    · have := c16b
      refine v_iinc F (k := 1) (_) dX0_thingsHeld_19 rfl rfl (by decide) (lv' := [(1, .int _), (2, .int _), (0, .ref _)]) rfl ?_
      refine v_iinc F (k := 1) (nI 2) dX0_thingsHeld_22 rfl (by decide) (by decide) (lv' := [(2, .int _), (1, .int _), (0, .ref _)]) rfl ?_
      refine v_goto F (tgt := 4) dX0_thingsHeld_25 (by decide) ?_
      refine v_iload_n F dX0_thingsHeld_4 rfl 0 rfl ?_
      refine v_iconst F (v := 2) dX0_thingsHeld_5 (by decide) ?_
      refine v_icmp_ge F (tgt := 28) dX0_thingsHeld_6 (by decide) (fun c6 => ?_) (fun h => absurd ((by decide)) h)
      refine v_iload_n F dX0_thingsHeld_28 rfl 1 rfl ?_
      refine v_iret F hr dX0_thingsHeld_29 ?_ rfl rfl
      simp_all [fHeld, cI]
set_option maxHeartbeats 4000000 in
set_option maxRecDepth 100000 in
theorem c_X0_copyFrom {X : Cx} {l : Launch} (G : Gx X l) {M : Mem} {lf : Lf} {r t : Nat} (hr0 : r < 2) (ht0 : t < 2) (htr : t ≠ r) {σ : Sg} {i : Nat} (hi : i < 4) {n : Nat} (h8 : n ≤ 8) (hn : M t 3 i 2 = nI n) : CV X l yX0_copyFrom (wsc yX0_copyFrom cX0_copyFrom 3 none) rm_X0_copyFrom [.ref (X.2.1 r 2 i), .ref (X.2.1 t 2 i)] (uC M r σ) lf (uC M r (fCopyJ σ (M t) i n)) lf 0 0 := by
  refine CV_of (lv := [(0, .ref _), (1, .ref _)]) G (by decide) (Nat.le_of_ble_eq_true rfl) rfl (fun p e s m args below meth c F hr => ?_)
  have F : Fx p l s m args meth c cX0_copyFrom 3 RX0 X := F
  refine v_aload_n F dX0_copyFrom_0 rfl 0 rfl ?_
  refine v_get F (id_R hr0 (by decide) hi) (heR hr0) rfl uw_X0 0 (by decide) rfl rfl wf_X0_12 dX0_copyFrom_1 ?_
  refine v_aload_n F dX0_copyFrom_4 rfl 1 rfl ?_
  refine v_get F (id_R ht0 (by decide) hi) ((heO htr).trans ((celD_R ht0))) rfl uw_X0 0 (by decide) rfl rfl wf_X0_12 dX0_copyFrom_5 ?_
  refine v_callNv F (As := [_]) (rest := []) rfl (c_X1_copyFrom G hr0 ht0 htr hi h8 hn) (Rv_P hr0 hi) wm_X0_22 rfl ⟨rfl, rfl, Nat.le_of_ble_eq_true rfl, Nat.le_of_ble_eq_true rfl, Nat.le_of_ble_eq_true rfl, Nat.le_of_ble_eq_true rfl, Nat.le_of_ble_eq_true rfl⟩ dX0_copyFrom_8 ?_
  refine v_iconst F (v := nI 0) dX0_copyFrom_11 (by decide) ?_
  refine v_istore_n F dX0_copyFrom_12 rfl (by decide) (lv' := [(2, .int _), (0, .ref _), (1, .ref _)]) rfl ?_
  refine v_iload_n F dX0_copyFrom_13 rfl 0 rfl ?_
  refine v_iconst F (v := 2) dX0_copyFrom_14 (by decide) ?_
  refine v_icmp_ge F (tgt := 36) dX0_copyFrom_15 (by decide) (fun h => absurd h ((by decide))) (fun c15 => ?_)
  refine v_aload_n F dX0_copyFrom_18 rfl 1 rfl ?_
  refine v_get F (id_R hr0 (by decide) hi) (heR hr0) rfl uw_X0 1 (by decide) rfl rfl wf_X0_18 dX0_copyFrom_19 ?_
  refine v_iload_n F dX0_copyFrom_22 rfl 0 rfl ?_
  refine v_aload_n F dX0_copyFrom_23 rfl 2 rfl ?_
  refine v_get F (id_R ht0 (by decide) hi) ((heO htr).trans ((celD_R ht0))) rfl uw_X0 1 (by decide) rfl rfl wf_X0_18 dX0_copyFrom_24 ?_
  refine v_iload_n F dX0_copyFrom_27 rfl 0 rfl ?_
  refine v_iald F (id_R ht0 (by decide) hi) ((heO htr).trans ((celD_R ht0))) rfl (0) (Ix_nI (by omega)) dX0_copyFrom_28 ?_
  refine v_iastC F (id_R hr0 (by decide) hi) (celD_R hr0) rfl (0) (Ix_nI (by omega)) (celD_R hr0) dX0_copyFrom_29 ?_
  refine v_iinc F (k := 0) (nI 1) dX0_copyFrom_30 rfl (by decide) (by decide) (lv' := [(2, .int _), (0, .ref _), (1, .ref _)]) rfl ?_
  refine v_goto F (tgt := 13) dX0_copyFrom_33 (by decide) ?_
  refine v_iload_n F dX0_copyFrom_13 rfl 0 rfl ?_
  refine v_iconst F (v := 2) dX0_copyFrom_14 (by decide) ?_
  refine v_icmp_ge F (tgt := 36) dX0_copyFrom_15 (by decide) (fun h => absurd h ((by decide))) (fun c15 => ?_)
  refine v_aload_n F dX0_copyFrom_18 rfl 1 rfl ?_
  refine v_get F (id_R hr0 (by decide) hi) (heR hr0) rfl uw_X0 1 (by decide) rfl rfl wf_X0_18 dX0_copyFrom_19 ?_
  refine v_iload_n F dX0_copyFrom_22 rfl 0 rfl ?_
  refine v_aload_n F dX0_copyFrom_23 rfl 2 rfl ?_
  refine v_get F (id_R ht0 (by decide) hi) ((heO htr).trans ((celD_R ht0))) rfl uw_X0 1 (by decide) rfl rfl wf_X0_18 dX0_copyFrom_24 ?_
  refine v_iload_n F dX0_copyFrom_27 rfl 0 rfl ?_
  refine v_iald F (id_R ht0 (by decide) hi) ((heO htr).trans ((celD_R ht0))) rfl (1) (Ix_nI (by omega)) dX0_copyFrom_28 ?_
  refine v_iastC F (id_R hr0 (by decide) hi) (celD_R hr0) rfl (1) (Ix_nI (by omega)) (celD_R hr0) dX0_copyFrom_29 ?_
  refine v_iinc F (k := 0) (nI 2) dX0_copyFrom_30 rfl (by decide) (by decide) (lv' := [(2, .int _), (0, .ref _), (1, .ref _)]) rfl ?_
  refine v_goto F (tgt := 13) dX0_copyFrom_33 (by decide) ?_
  refine v_iload_n F dX0_copyFrom_13 rfl 0 rfl ?_
  refine v_iconst F (v := 2) dX0_copyFrom_14 (by decide) ?_
  refine v_icmp_ge F (tgt := 36) dX0_copyFrom_15 (by decide) (fun c15 => ?_) (fun h => absurd ((by decide)) h)
  refine v_aload_n F dX0_copyFrom_36 rfl 1 rfl ?_
  refine v_aload_n F dX0_copyFrom_37 rfl 2 rfl ?_
  refine v_get F (id_R ht0 (by decide) hi) ((heO htr).trans ((celD_R ht0))) rfl uw_X0 2 (by decide) rfl rfl wf_X0_26 dX0_copyFrom_38 ?_
  refine v_putC F tyX0 tyX0_ok nmX0 (id_R hr0 (by decide) hi) (celD_R hr0) rfl uw_X0 2 (by decide) rfl rfl (by decide +kernel) (celD_R hr0) (Nat.le_of_ble_eq_true rfl) wf_X0_26 dX0_copyFrom_41 ?_
  refine v_aload_n F dX0_copyFrom_44 rfl 1 rfl ?_
  refine v_aload_n F dX0_copyFrom_45 rfl 2 rfl ?_
  refine v_get F (id_R ht0 (by decide) hi) ((heO htr).trans ((celD_R ht0))) rfl uw_X0 3 (by decide) rfl rfl wf_X0_30 dX0_copyFrom_46 ?_
  refine v_putC F tyX0 tyX0_ok nmX0 (id_R hr0 (by decide) hi) (celD_R hr0) rfl uw_X0 3 (by decide) rfl rfl (by decide +kernel) (celD_R hr0) (Nat.le_of_ble_eq_true rfl) wf_X0_30 dX0_copyFrom_49 ?_
  refine v_aload_n F dX0_copyFrom_52 rfl 1 rfl ?_
  refine v_aload_n F dX0_copyFrom_53 rfl 2 rfl ?_
  refine v_get F (id_R ht0 (by decide) hi) ((heO htr).trans ((celD_R ht0))) rfl uw_X0 4 (by decide) rfl rfl wf_X0_33 dX0_copyFrom_54 ?_
  refine v_putC F tyX0 tyX0_ok nmX0 (id_R hr0 (by decide) hi) (celD_R hr0) rfl uw_X0 4 (by decide) rfl rfl (by decide +kernel) (celD_R hr0) (Nat.le_of_ble_eq_true rfl) wf_X0_33 dX0_copyFrom_57 ?_
  exact v_vret F hr dX0_copyFrom_60 rfl rfl
end
section
/-! ===== contracts of a ring ===== -/
abbrev rm_X2_hasJuggler : Room := { frames := 0, cells := 0, slots := 0, locals := 0 }
abbrev rm_X2_hasThing : Room := { frames := 0, cells := 0, slots := 0, locals := 0 }
abbrev rm_X2_putIntoHand : Room := { frames := 0, cells := 0, slots := 0, locals := 0 }
abbrev rm_X2_addThing : Room := { frames := 0, cells := 0, slots := 0, locals := 0 }
abbrev rm_X2_addJuggler : Room := { frames := 1, cells := 0, slots := 0, locals := 25 }
abbrev rm_X2_thingsIn : Room := { frames := 0, cells := 0, slots := 0, locals := 0 }
abbrev rm_X2_thingsFlyingTo : Room := { frames := 0, cells := 0, slots := 0, locals := 0 }
abbrev rm_X2_allThrown : Room := { frames := 0, cells := 0, slots := 0, locals := 0 }
abbrev rm_X2_allFell : Room := { frames := 0, cells := 0, slots := 0, locals := 0 }
abbrev rm_X2_allBruises : Room := { frames := 0, cells := 0, slots := 0, locals := 0 }
abbrev rm_X2_comeDown : Room := { frames := 2, cells := 0, slots := 0, locals := 41 }
abbrev rm_X2_throwFrom : Room := { frames := 2, cells := 0, slots := 0, locals := 44 }
abbrev rm_X2_playBeat : Room := { frames := 3, cells := 0, slots := 0, locals := 69 }
abbrev rm_X2_play : Room := { frames := 4, cells := 0, slots := 0, locals := 92 }
abbrev rm_X2_tellThing : Room := { frames := 0, cells := 0, slots := 0, locals := 0 }
abbrev rm_X2_tellJuggler : Room := { frames := 1, cells := 0, slots := 0, locals := 23 }
abbrev rm_X2_tellCount : Room := { frames := 1, cells := 0, slots := 0, locals := 23 }
abbrev rm_X2_copyFrom : Room := { frames := 2, cells := 0, slots := 0, locals := 44 }
set_option maxHeartbeats 4000000 in
set_option maxRecDepth 100000 in
theorem c_X2_hasJuggler {X : Cx} {l : Launch} (G : Gx X l) {M : Mem} {lf : Lf} {r : Nat} (hr0 : r < 2) {σ : Sg} (x : Int32) : CI X l yX2_hasJuggler (wsc yX2_hasJuggler cX2_hasJuggler 2 (some .boolean)) rm_X2_hasJuggler [.ref (X.2.1 r 0 0), .int x] (uC M r σ) lf (fHasJ σ x) (uC M r σ) lf 0 0 := by
  refine CI_of (lv := [(0, .ref _), (1, .int _)]) G (by decide) (Nat.le_of_ble_eq_true rfl) rfl (fun p e s m args below meth c F hr => ?_)
  have F : Fx p l s m args meth c cX2_hasJuggler 2 RX2 X := F
  refine v_iload_n F dX2_hasJuggler_0 rfl 1 rfl ?_
  refine v_if_lt F (tgt := 16) dX2_hasJuggler_1 (by decide) (fun c1 => ?_) (fun c1 => ?_)
  · have := c1
    refine v_iconst F (v := 0) dX2_hasJuggler_16 (by decide) ?_
    refine v_zret F hr dX2_hasJuggler_17 rfl ?_ rfl rfl
    simp_all [fHasJ]
  · have := c1
    refine v_iload_n F dX2_hasJuggler_4 rfl 1 rfl ?_
    refine v_aload_n F dX2_hasJuggler_5 rfl 0 rfl ?_
    refine v_get F (id_R hr0 (by decide) (by decide)) (heR hr0) rfl uw_X2 2 (by decide) rfl rfl wf_X2_25 dX2_hasJuggler_6 ?_
    refine v_icmp_ge F (tgt := 16) dX2_hasJuggler_9 (by decide) (fun c9 => ?_) (fun c9 => ?_)
    · have := c9
      refine v_iconst F (v := 0) dX2_hasJuggler_16 (by decide) ?_
      refine v_zret F hr dX2_hasJuggler_17 rfl ?_ rfl rfl
      simp_all [fHasJ]
    · have := c9
      refine v_iconst F (v := 1) dX2_hasJuggler_12 (by decide) ?_
      refine v_goto F (tgt := 17) dX2_hasJuggler_13 (by decide) ?_
      refine v_zret F hr dX2_hasJuggler_17 rfl ?_ rfl rfl
      simp_all [fHasJ]
set_option maxHeartbeats 4000000 in
set_option maxRecDepth 100000 in
theorem c_X2_hasThing {X : Cx} {l : Launch} (G : Gx X l) {M : Mem} {lf : Lf} {r : Nat} (hr0 : r < 2) {σ : Sg} (x : Int32) : CI X l yX2_hasThing (wsc yX2_hasThing cX2_hasThing 2 (some .boolean)) rm_X2_hasThing [.ref (X.2.1 r 0 0), .int x] (uC M r σ) lf (fHasT σ x) (uC M r σ) lf 0 0 := by
  refine CI_of (lv := [(0, .ref _), (1, .int _)]) G (by decide) (Nat.le_of_ble_eq_true rfl) rfl (fun p e s m args below meth c F hr => ?_)
  have F : Fx p l s m args meth c cX2_hasThing 2 RX2 X := F
  refine v_iload_n F dX2_hasThing_0 rfl 1 rfl ?_
  refine v_if_lt F (tgt := 16) dX2_hasThing_1 (by decide) (fun c1 => ?_) (fun c1 => ?_)
  · have := c1
    refine v_iconst F (v := 0) dX2_hasThing_16 (by decide) ?_
    refine v_zret F hr dX2_hasThing_17 rfl ?_ rfl rfl
    simp_all [fHasT]
  · have := c1
    refine v_iload_n F dX2_hasThing_4 rfl 1 rfl ?_
    refine v_aload_n F dX2_hasThing_5 rfl 0 rfl ?_
    refine v_get F (id_R hr0 (by decide) (by decide)) (heR hr0) rfl uw_X2 3 (by decide) rfl rfl wf_X2_29 dX2_hasThing_6 ?_
    refine v_icmp_ge F (tgt := 16) dX2_hasThing_9 (by decide) (fun c9 => ?_) (fun c9 => ?_)
    · have := c9
      refine v_iconst F (v := 0) dX2_hasThing_16 (by decide) ?_
      refine v_zret F hr dX2_hasThing_17 rfl ?_ rfl rfl
      simp_all [fHasT]
    · have := c9
      refine v_iconst F (v := 1) dX2_hasThing_12 (by decide) ?_
      refine v_goto F (tgt := 17) dX2_hasThing_13 (by decide) ?_
      refine v_zret F hr dX2_hasThing_17 rfl ?_ rfl rfl
      simp_all [fHasT]
set_option maxHeartbeats 4000000 in
set_option maxRecDepth 100000 in
theorem c_X2_putIntoHand {X : Cx} {l : Launch} (G : Gx X l) {M : Mem} {lf : Lf} {r : Nat} (hr0 : r < 2) {σ : Sg} {k : Nat} (hk : k < 12) (to : Int32) {j : Nat} (hx : Ix to j 4) {hd : Nat} (hh : hd < 2) : CV X l yX2_putIntoHand (wsc yX2_putIntoHand cX2_putIntoHand 5 none) rm_X2_putIntoHand [.ref (X.2.1 r 0 0), .int (nI k), .int to, .int (nI hd)] (uC M r σ) lf (uC M r (fPut σ k to j hd)) lf 0 0 := by
  refine CV_of (lv := [(0, .ref _), (1, .int _), (2, .int _), (3, .int _)]) G (by decide) (Nat.le_of_ble_eq_true rfl) rfl (fun p e s m args below meth c F hr => ?_)
  have F : Fx p l s m args meth c cX2_putIntoHand 5 RX2 X := F
  refine v_aload_n F dX2_putIntoHand_0 rfl 0 rfl ?_
  refine v_get F (id_R hr0 (by decide) (by decide)) (heR hr0) rfl uw_X2 0 (by decide) rfl rfl wf_X2_11 dX2_putIntoHand_1 ?_
  refine v_iload_n F dX2_putIntoHand_4 rfl 2 rfl ?_
  refine v_aaldJ F hr0 (j) hx dX2_putIntoHand_5 ?_
  refine v_getN F (id_R hr0 (by decide) hx.2.2) (heR hr0) rfl uw_X0 1 (by decide) rfl rfl wf_X2_58 dX2_putIntoHand_6 ?_
  refine v_iload_n F dX2_putIntoHand_9 rfl 3 rfl ?_
  refine v_iload_n F dX2_putIntoHand_10 rfl 1 rfl ?_
  refine v_iastC F (id_R hr0 (by decide) hx.2.2) (celD_R hr0) rfl (hd) (Ix_nI hh) (celD_R hr0) dX2_putIntoHand_11 ?_
  refine v_aload_n F dX2_putIntoHand_12 rfl 0 rfl ?_
  refine v_get F (id_R hr0 (by decide) (by decide)) (heR hr0) rfl uw_X2 1 (by decide) rfl rfl wf_X2_20 dX2_putIntoHand_13 ?_
  refine v_iload_n F dX2_putIntoHand_16 rfl 1 rfl ?_
  refine v_aaldT F hr0 (k) (Ix_nI hk) dX2_putIntoHand_17 ?_
  refine v_astore F dX2_putIntoHand_18 (by decide) (lv' := [(4, .ref _), (0, .ref _), (1, .int _), (2, .int _), (3, .int _)]) rfl ?_
  refine v_aload F dX2_putIntoHand_20 0 rfl ?_
  refine v_iconst F (v := 1) dX2_putIntoHand_22 (by decide) ?_
  refine v_putNC F tyX3 tyX3_ok nmX3 (id_R hr0 (by decide) hk) (celD_R hr0) rfl uw_X3 1 (by decide) rfl rfl (by decide +kernel) (celD_R hr0) (Nat.le_of_ble_eq_true rfl) wf_X2_62 dX2_putIntoHand_23 ?_
  refine v_aload F dX2_putIntoHand_26 0 rfl ?_
  refine v_iload_n F dX2_putIntoHand_28 rfl 3 rfl ?_
  refine v_putNC F tyX3 tyX3_ok nmX3 (id_R hr0 (by decide) hk) (celD_R hr0) rfl uw_X3 2 (by decide) rfl rfl (by decide +kernel) (celD_R hr0) (Nat.le_of_ble_eq_true rfl) wf_X2_65 dX2_putIntoHand_29 ?_
  refine v_aload F dX2_putIntoHand_32 0 rfl ?_
  refine v_iload_n F dX2_putIntoHand_34 rfl 4 rfl ?_
  refine v_putNC F tyX3 tyX3_ok nmX3 (id_R hr0 (by decide) hk) (celD_R hr0) rfl uw_X3 3 (by decide) rfl rfl (by decide +kernel) (celD_R hr0) (Nat.le_of_ble_eq_true rfl) wf_X2_68 dX2_putIntoHand_35 ?_
  exact v_vret F hr dX2_putIntoHand_38 rfl rfl
set_option maxHeartbeats 4000000 in
set_option maxRecDepth 100000 in
theorem c_X2_addThing {X : Cx} {l : Launch} (G : Gx X l) {M : Mem} {lf : Lf} {r : Nat} (hr0 : r < 2) {σ : Sg} {k : Nat} (hk : k < 12) (hσ : σ 0 0 3 = nI k) (x : Int32) : CI X l yX2_addThing (wsc yX2_addThing cX2_addThing 3 (some .int)) rm_X2_addThing [.ref (X.2.1 r 0 0), .int x] (uC M r σ) lf (nI k) (uC M r (fAddT σ k x)) lf 0 0 := by
  refine CI_of (lv := [(0, .ref _), (1, .int _)]) G (by decide) (Nat.le_of_ble_eq_true rfl) rfl (fun p e s m args below meth c F hr => ?_)
  have F : Fx p l s m args meth c cX2_addThing 3 RX2 X := F
  refine v_aload_n F dX2_addThing_0 rfl 0 rfl ?_
  refine v_get F (id_R hr0 (by decide) (by decide)) (heR hr0) rfl uw_X2 3 (by decide) rfl rfl wf_X2_29 dX2_addThing_1 ?_
  refine v_topr (nI k) hσ ?_
  refine v_istore_n F dX2_addThing_4 rfl (by decide) (lv' := [(2, .int _), (0, .ref _), (1, .int _)]) rfl ?_
  refine v_aload_n F dX2_addThing_5 rfl 1 rfl ?_
  refine v_get F (id_R hr0 (by decide) (by decide)) (heR hr0) rfl uw_X2 1 (by decide) rfl rfl wf_X2_20 dX2_addThing_6 ?_
  refine v_iload_n F dX2_addThing_9 rfl 0 rfl ?_
  refine v_aaldT F hr0 (k) (Ix_nI hk) dX2_addThing_10 ?_
  refine v_iload_n F dX2_addThing_11 rfl 2 rfl ?_
  refine v_putNC F tyX3 tyX3_ok nmX3 (id_R hr0 (by decide) hk) (celD_R hr0) rfl uw_X3 0 (by decide) rfl rfl (by decide +kernel) (celD_R hr0) (Nat.le_of_ble_eq_true rfl) wf_X2_55 dX2_addThing_12 ?_
  refine v_aload_n F dX2_addThing_15 rfl 1 rfl ?_
  refine v_dup F dX2_addThing_16 rfl ?_
  refine v_get F (id_R hr0 (by decide) (by decide)) (heR hr0) rfl uw_X2 3 (by decide) rfl rfl wf_X2_29 dX2_addThing_17 ?_
  refine v_topr (nI k) (by rw [u3_ne (by omega)]; exact hσ) ?_
  refine v_iconst F (v := 1) dX2_addThing_20 (by decide) ?_
  refine v_iadd F dX2_addThing_21 ?_
  refine v_putC F tyX2 tyX2_ok nmX2 (id_R hr0 (by decide) (by decide)) (celD_R hr0) rfl uw_X2 3 (by decide) rfl rfl (by decide +kernel) (celD_R hr0) (Nat.le_of_ble_eq_true rfl) wf_X2_29 dX2_addThing_22 ?_
  refine v_iload_n F dX2_addThing_25 rfl 0 rfl ?_
  exact v_iret F hr dX2_addThing_26 rfl rfl rfl
set_option maxHeartbeats 4000000 in
set_option maxRecDepth 100000 in
theorem c_X2_addJuggler {X : Cx} {l : Launch} (G : Gx X l) {M : Mem} {lf : Lf} {r : Nat} (hr0 : r < 2) {σ : Sg} {j : Nat} (hj : j < 4) (hσ : σ 0 0 2 = nI j) (x : Int32) : CI X l yX2_addJuggler (wsc yX2_addJuggler cX2_addJuggler 3 (some .int)) rm_X2_addJuggler [.ref (X.2.1 r 0 0), .int x] (uC M r σ) lf (nI j) (uC M r (fAddJ σ j x)) lf 0 0 := by
  refine CI_of (lv := [(0, .ref _), (1, .int _)]) G (by decide) (Nat.le_of_ble_eq_true rfl) rfl (fun p e s m args below meth c F hr => ?_)
  have F : Fx p l s m args meth c cX2_addJuggler 3 RX2 X := F
  refine v_aload_n F dX2_addJuggler_0 rfl 0 rfl ?_
  refine v_get F (id_R hr0 (by decide) (by decide)) (heR hr0) rfl uw_X2 2 (by decide) rfl rfl wf_X2_25 dX2_addJuggler_1 ?_
  refine v_topr (nI j) hσ ?_
  refine v_istore_n F dX2_addJuggler_4 rfl (by decide) (lv' := [(2, .int _), (0, .ref _), (1, .int _)]) rfl ?_
  refine v_aload_n F dX2_addJuggler_5 rfl 1 rfl ?_
  refine v_get F (id_R hr0 (by decide) (by decide)) (heR hr0) rfl uw_X2 0 (by decide) rfl rfl wf_X2_11 dX2_addJuggler_6 ?_
  refine v_iload_n F dX2_addJuggler_9 rfl 0 rfl ?_
  refine v_aaldJ F hr0 (j) (Ix_nI hj) dX2_addJuggler_10 ?_
  refine v_iload_n F dX2_addJuggler_11 rfl 2 rfl ?_
  refine v_putNC F tyX0 tyX0_ok nmX0 (id_R hr0 (by decide) hj) (celD_R hr0) rfl uw_X0 2 (by decide) rfl rfl (by decide +kernel) (celD_R hr0) (Nat.le_of_ble_eq_true rfl) wf_X2_42 dX2_addJuggler_12 ?_
  refine v_aload_n F dX2_addJuggler_15 rfl 1 rfl ?_
  refine v_get F (id_R hr0 (by decide) (by decide)) (heR hr0) rfl uw_X2 0 (by decide) rfl rfl wf_X2_11 dX2_addJuggler_16 ?_
  refine v_iload_n F dX2_addJuggler_19 rfl 0 rfl ?_
  refine v_aaldJ F hr0 (j) (Ix_nI hj) dX2_addJuggler_20 ?_
  refine v_getN F (id_R hr0 (by decide) hj) (heR hr0) rfl uw_X0 0 (by decide) rfl rfl wf_X2_45 dX2_addJuggler_21 ?_
  refine v_iload_n F dX2_addJuggler_24 rfl 0 rfl ?_
  refine v_iconst F (v := nI 1) dX2_addJuggler_25 (by decide) ?_
  refine v_iconst F (v := 0) dX2_addJuggler_26 (by decide) ?_
  refine v_callNv F (As := [_, _, _]) (rest := []) rfl (c_X1_write G hr0 hj (nI j) 0 (Nat.le_refl 1) (by decide)) (Rv_P hr0 hj) wm_X2_49 rfl ⟨rfl, rfl, Nat.le_of_ble_eq_true rfl, Nat.le_of_ble_eq_true rfl, Nat.le_of_ble_eq_true rfl, Nat.le_of_ble_eq_true rfl, Nat.le_of_ble_eq_true rfl⟩ dX2_addJuggler_27 ?_
  refine v_gen (fun τ1 h1 => ?_)
  refine v_aload_n F dX2_addJuggler_30 rfl 1 rfl ?_
  refine v_dup F dX2_addJuggler_31 rfl ?_
  refine v_get F (id_R hr0 (by decide) (by decide)) (heR hr0) rfl uw_X2 2 (by decide) rfl rfl wf_X2_25 dX2_addJuggler_32 ?_
  refine v_topr (nI j) (by rw [h1, fWrite_k (by decide) (by decide) (by decide), u3_ne (by omega)]; exact hσ) ?_
  refine v_iconst F (v := 1) dX2_addJuggler_35 (by decide) ?_
  refine v_iadd F dX2_addJuggler_36 ?_
  refine v_putC F tyX2 tyX2_ok nmX2 (id_R hr0 (by decide) (by decide)) (celD_R hr0) rfl uw_X2 2 (by decide) rfl rfl (by decide +kernel) (celD_R hr0) (Nat.le_of_ble_eq_true rfl) wf_X2_25 dX2_addJuggler_37 ?_
  refine v_iload_n F dX2_addJuggler_40 rfl 0 rfl ?_
  refine v_iret F hr dX2_addJuggler_41 rfl ?_ rfl
  rw [h1]
  rfl
section RR
variable {p : Program} {l : Launch} {e : Env} {R : Room} {s : State} {m : MethodId} {args : Array Value} {below : List Frame} {meth : Method} {c : Code} {Q : State → Prop} {X : Cx} {nL : Nat} {ex : va_W} {M : Mem} {lf : Lf} {cells slots : Nat}
set_option maxHeartbeats 4000000 in
set_option maxRecDepth 100000 in
theorem L_X2_allThrown (F : Fx p l s m args meth c cX2_allThrown 3 RX2 X) {r : Nat} (hr0 : r < 2) {σ : Sg} {jc tc : Nat} {ln : Nat → Nat} (hS : Shp σ jc tc ln) (hb : tc ≤ 12) (K : V p l e R s m args below meth c Q X 3 ex (uC M r σ) lf cells slots 30 [(2, .int (nI tc)), (1, .int (sI (fun k => σ 8 k 6) tc)), (0, .ref (X.2.1 r 0 0))] []) : ∀ (k q : Nat), k + q = tc → V p l e R s m args below meth c Q X 3 ex (uC M r σ) lf cells slots 4 [(2, .int (nI q)), (1, .int (sI (fun k => σ 8 k 6) q)), (0, .ref (X.2.1 r 0 0))] [] := by
  intro k
  induction k with
  | zero =>
    intro q hq
    obtain rfl : q = tc := by omega
    refine v_iload_n F dX2_allThrown_4 rfl 0 rfl ?_
    refine v_aload_n F dX2_allThrown_5 rfl 2 rfl ?_
    refine v_get F (id_R hr0 (by decide) (by decide)) (heR hr0) rfl uw_X2 3 (by decide) rfl rfl wf_X2_29 dX2_allThrown_6 ?_
    refine v_topr (nI q) hS.2.2.2.1 ?_
    refine v_icmp_ge F (tgt := 30) dX2_allThrown_9 (by decide) (fun c9 => ?_) (fun h => absurd (nI_le (Nat.le_refl _) (by omega)) h)
    exact K
  | succ k ih =>
    intro q hq
    refine v_iload_n F dX2_allThrown_4 rfl 0 rfl ?_
    refine v_aload_n F dX2_allThrown_5 rfl 2 rfl ?_
    refine v_get F (id_R hr0 (by decide) (by decide)) (heR hr0) rfl uw_X2 3 (by decide) rfl rfl wf_X2_29 dX2_allThrown_6 ?_
    refine v_topr (nI tc) hS.2.2.2.1 ?_
    refine v_icmp_ge F (tgt := 30) dX2_allThrown_9 (by decide) (fun h => absurd h (nI_ge (by omega) (by omega))) (fun c9 => ?_)
    refine v_iload_n F dX2_allThrown_12 rfl 1 rfl ?_
    refine v_aload_n F dX2_allThrown_13 rfl 2 rfl ?_
    refine v_get F (id_R hr0 (by decide) (by decide)) (heR hr0) rfl uw_X2 1 (by decide) rfl rfl wf_X2_20 dX2_allThrown_14 ?_
    refine v_iload_n F dX2_allThrown_17 rfl 0 rfl ?_
    refine v_aaldT F hr0 (q) (Ix_nI (by omega)) dX2_allThrown_18 ?_
    refine v_getN F (id_R hr0 (by decide) (show _ < 12 by omega)) (heR hr0) rfl uw_X3 6 (by decide) rfl rfl wf_X2_121 dX2_allThrown_19 ?_
    refine v_iadd F dX2_allThrown_22 ?_
    refine v_istore_n F dX2_allThrown_23 rfl (by decide) (lv' := [(1, .int _), (2, .int _), (0, .ref _)]) rfl ?_
    refine v_iinc F (k := 1) (nI (q + 1)) dX2_allThrown_24 rfl (iinc_nI q) (by decide) (lv' := [(2, .int _), (1, .int _), (0, .ref _)]) rfl ?_
    refine v_goto F (tgt := 4) dX2_allThrown_27 (by decide) ?_
    exact ih (q + 1) (by omega)
set_option maxHeartbeats 4000000 in
set_option maxRecDepth 100000 in
theorem c_X2_allThrown {X : Cx} {l : Launch} (G : Gx X l) {M : Mem} {lf : Lf} {r : Nat} (hr0 : r < 2) {σ : Sg} {jc tc : Nat} {ln : Nat → Nat} (hS : Shp σ jc tc ln)  : CI X l yX2_allThrown (wsc yX2_allThrown cX2_allThrown 3 (some .int)) rm_X2_allThrown [.ref (X.2.1 r 0 0)] (uC M r σ) lf (sI (fun k => σ 8 k 6) tc) (uC M r σ) lf 0 0 := by
  refine CI_of (lv := [(0, .ref _)]) G (by decide) (Nat.le_of_ble_eq_true rfl) rfl (fun p e s m args below meth c F hr => ?_)
  have F : Fx p l s m args meth c cX2_allThrown 3 RX2 X := F
  refine v_iconst F (v := 0) dX2_allThrown_0 (by decide) ?_
  refine v_istore_n F dX2_allThrown_1 rfl (by decide) (lv' := [(1, .int _), (0, .ref _)]) rfl ?_
  refine v_iconst F (v := nI 0) dX2_allThrown_2 (by decide) ?_
  refine v_istore_n F dX2_allThrown_3 rfl (by decide) (lv' := [(2, .int _), (1, .int _), (0, .ref _)]) rfl ?_
  refine L_X2_allThrown F hr0 hS (by have := hS.1; have := hS.2.1; omega) ?_ tc 0 (Nat.add_zero tc)
  · skip
    refine v_iload_n F dX2_allThrown_30 rfl 1 rfl ?_
    exact v_iret F hr dX2_allThrown_31 rfl rfl rfl
set_option maxHeartbeats 4000000 in
set_option maxRecDepth 100000 in
theorem L_X2_allFell (F : Fx p l s m args meth c cX2_allFell 3 RX2 X) {r : Nat} (hr0 : r < 2) {σ : Sg} {jc tc : Nat} {ln : Nat → Nat} (hS : Shp σ jc tc ln) (hb : tc ≤ 12) (K : V p l e R s m args below meth c Q X 3 ex (uC M r σ) lf cells slots 30 [(2, .int (nI tc)), (1, .int (sI (fun k => σ 8 k 7) tc)), (0, .ref (X.2.1 r 0 0))] []) : ∀ (k q : Nat), k + q = tc → V p l e R s m args below meth c Q X 3 ex (uC M r σ) lf cells slots 4 [(2, .int (nI q)), (1, .int (sI (fun k => σ 8 k 7) q)), (0, .ref (X.2.1 r 0 0))] [] := by
  intro k
  induction k with
  | zero =>
    intro q hq
    obtain rfl : q = tc := by omega
    refine v_iload_n F dX2_allFell_4 rfl 0 rfl ?_
    refine v_aload_n F dX2_allFell_5 rfl 2 rfl ?_
    refine v_get F (id_R hr0 (by decide) (by decide)) (heR hr0) rfl uw_X2 3 (by decide) rfl rfl wf_X2_29 dX2_allFell_6 ?_
    refine v_topr (nI q) hS.2.2.2.1 ?_
    refine v_icmp_ge F (tgt := 30) dX2_allFell_9 (by decide) (fun c9 => ?_) (fun h => absurd (nI_le (Nat.le_refl _) (by omega)) h)
    exact K
  | succ k ih =>
    intro q hq
    refine v_iload_n F dX2_allFell_4 rfl 0 rfl ?_
    refine v_aload_n F dX2_allFell_5 rfl 2 rfl ?_
    refine v_get F (id_R hr0 (by decide) (by decide)) (heR hr0) rfl uw_X2 3 (by decide) rfl rfl wf_X2_29 dX2_allFell_6 ?_
    refine v_topr (nI tc) hS.2.2.2.1 ?_
    refine v_icmp_ge F (tgt := 30) dX2_allFell_9 (by decide) (fun h => absurd h (nI_ge (by omega) (by omega))) (fun c9 => ?_)
    refine v_iload_n F dX2_allFell_12 rfl 1 rfl ?_
    refine v_aload_n F dX2_allFell_13 rfl 2 rfl ?_
    refine v_get F (id_R hr0 (by decide) (by decide)) (heR hr0) rfl uw_X2 1 (by decide) rfl rfl wf_X2_20 dX2_allFell_14 ?_
    refine v_iload_n F dX2_allFell_17 rfl 0 rfl ?_
    refine v_aaldT F hr0 (q) (Ix_nI (by omega)) dX2_allFell_18 ?_
    refine v_getN F (id_R hr0 (by decide) (show _ < 12 by omega)) (heR hr0) rfl uw_X3 7 (by decide) rfl rfl wf_X2_124 dX2_allFell_19 ?_
    refine v_iadd F dX2_allFell_22 ?_
    refine v_istore_n F dX2_allFell_23 rfl (by decide) (lv' := [(1, .int _), (2, .int _), (0, .ref _)]) rfl ?_
    refine v_iinc F (k := 1) (nI (q + 1)) dX2_allFell_24 rfl (iinc_nI q) (by decide) (lv' := [(2, .int _), (1, .int _), (0, .ref _)]) rfl ?_
    refine v_goto F (tgt := 4) dX2_allFell_27 (by decide) ?_
    exact ih (q + 1) (by omega)
set_option maxHeartbeats 4000000 in
set_option maxRecDepth 100000 in
theorem c_X2_allFell {X : Cx} {l : Launch} (G : Gx X l) {M : Mem} {lf : Lf} {r : Nat} (hr0 : r < 2) {σ : Sg} {jc tc : Nat} {ln : Nat → Nat} (hS : Shp σ jc tc ln)  : CI X l yX2_allFell (wsc yX2_allFell cX2_allFell 3 (some .int)) rm_X2_allFell [.ref (X.2.1 r 0 0)] (uC M r σ) lf (sI (fun k => σ 8 k 7) tc) (uC M r σ) lf 0 0 := by
  refine CI_of (lv := [(0, .ref _)]) G (by decide) (Nat.le_of_ble_eq_true rfl) rfl (fun p e s m args below meth c F hr => ?_)
  have F : Fx p l s m args meth c cX2_allFell 3 RX2 X := F
  refine v_iconst F (v := 0) dX2_allFell_0 (by decide) ?_
  refine v_istore_n F dX2_allFell_1 rfl (by decide) (lv' := [(1, .int _), (0, .ref _)]) rfl ?_
  refine v_iconst F (v := nI 0) dX2_allFell_2 (by decide) ?_
  refine v_istore_n F dX2_allFell_3 rfl (by decide) (lv' := [(2, .int _), (1, .int _), (0, .ref _)]) rfl ?_
  refine L_X2_allFell F hr0 hS (by have := hS.1; have := hS.2.1; omega) ?_ tc 0 (Nat.add_zero tc)
  · skip
    refine v_iload_n F dX2_allFell_30 rfl 1 rfl ?_
    exact v_iret F hr dX2_allFell_31 rfl rfl rfl
set_option maxHeartbeats 4000000 in
set_option maxRecDepth 100000 in
theorem L_X2_allBruises (F : Fx p l s m args meth c cX2_allBruises 3 RX2 X) {r : Nat} (hr0 : r < 2) {σ : Sg} {jc tc : Nat} {ln : Nat → Nat} (hS : Shp σ jc tc ln) (hb : jc ≤ 12) (hb4 : jc ≤ 4) (K : V p l e R s m args below meth c Q X 3 ex (uC M r σ) lf cells slots 30 [(2, .int (nI jc)), (1, .int (sI (fun k => σ 2 k 3) jc)), (0, .ref (X.2.1 r 0 0))] []) : ∀ (k q : Nat), k + q = jc → V p l e R s m args below meth c Q X 3 ex (uC M r σ) lf cells slots 4 [(2, .int (nI q)), (1, .int (sI (fun k => σ 2 k 3) q)), (0, .ref (X.2.1 r 0 0))] [] := by
  intro k
  induction k with
  | zero =>
    intro q hq
    obtain rfl : q = jc := by omega
    refine v_iload_n F dX2_allBruises_4 rfl 0 rfl ?_
    refine v_aload_n F dX2_allBruises_5 rfl 2 rfl ?_
    refine v_get F (id_R hr0 (by decide) (by decide)) (heR hr0) rfl uw_X2 2 (by decide) rfl rfl wf_X2_25 dX2_allBruises_6 ?_
    refine v_topr (nI q) hS.2.2.1 ?_
    refine v_icmp_ge F (tgt := 30) dX2_allBruises_9 (by decide) (fun c9 => ?_) (fun h => absurd (nI_le (Nat.le_refl _) (by omega)) h)
    exact K
  | succ k ih =>
    intro q hq
    refine v_iload_n F dX2_allBruises_4 rfl 0 rfl ?_
    refine v_aload_n F dX2_allBruises_5 rfl 2 rfl ?_
    refine v_get F (id_R hr0 (by decide) (by decide)) (heR hr0) rfl uw_X2 2 (by decide) rfl rfl wf_X2_25 dX2_allBruises_6 ?_
    refine v_topr (nI jc) hS.2.2.1 ?_
    refine v_icmp_ge F (tgt := 30) dX2_allBruises_9 (by decide) (fun h => absurd h (nI_ge (by omega) (by omega))) (fun c9 => ?_)
    refine v_iload_n F dX2_allBruises_12 rfl 1 rfl ?_
    refine v_aload_n F dX2_allBruises_13 rfl 2 rfl ?_
    refine v_get F (id_R hr0 (by decide) (by decide)) (heR hr0) rfl uw_X2 0 (by decide) rfl rfl wf_X2_11 dX2_allBruises_14 ?_
    refine v_iload_n F dX2_allBruises_17 rfl 0 rfl ?_
    refine v_aaldJ F hr0 (q) (Ix_nI (by omega)) dX2_allBruises_18 ?_
    refine v_getN F (id_R hr0 (by decide) (show _ < 4 by omega)) (heR hr0) rfl uw_X0 3 (by decide) rfl rfl wf_X2_127 dX2_allBruises_19 ?_
    refine v_iadd F dX2_allBruises_22 ?_
    refine v_istore_n F dX2_allBruises_23 rfl (by decide) (lv' := [(1, .int _), (2, .int _), (0, .ref _)]) rfl ?_
    refine v_iinc F (k := 1) (nI (q + 1)) dX2_allBruises_24 rfl (iinc_nI q) (by decide) (lv' := [(2, .int _), (1, .int _), (0, .ref _)]) rfl ?_
    refine v_goto F (tgt := 4) dX2_allBruises_27 (by decide) ?_
    exact ih (q + 1) (by omega)
set_option maxHeartbeats 4000000 in
set_option maxRecDepth 100000 in
theorem c_X2_allBruises {X : Cx} {l : Launch} (G : Gx X l) {M : Mem} {lf : Lf} {r : Nat} (hr0 : r < 2) {σ : Sg} {jc tc : Nat} {ln : Nat → Nat} (hS : Shp σ jc tc ln)  : CI X l yX2_allBruises (wsc yX2_allBruises cX2_allBruises 3 (some .int)) rm_X2_allBruises [.ref (X.2.1 r 0 0)] (uC M r σ) lf (sI (fun k => σ 2 k 3) jc) (uC M r σ) lf 0 0 := by
  refine CI_of (lv := [(0, .ref _)]) G (by decide) (Nat.le_of_ble_eq_true rfl) rfl (fun p e s m args below meth c F hr => ?_)
  have F : Fx p l s m args meth c cX2_allBruises 3 RX2 X := F
  refine v_iconst F (v := 0) dX2_allBruises_0 (by decide) ?_
  refine v_istore_n F dX2_allBruises_1 rfl (by decide) (lv' := [(1, .int _), (0, .ref _)]) rfl ?_
  refine v_iconst F (v := nI 0) dX2_allBruises_2 (by decide) ?_
  refine v_istore_n F dX2_allBruises_3 rfl (by decide) (lv' := [(2, .int _), (1, .int _), (0, .ref _)]) rfl ?_
  refine L_X2_allBruises F hr0 hS (by have := hS.1; have := hS.2.1; omega) hS.1 ?_ jc 0 (Nat.add_zero jc)
  · skip
    refine v_iload_n F dX2_allBruises_30 rfl 1 rfl ?_
    exact v_iret F hr dX2_allBruises_31 rfl rfl rfl
set_option maxHeartbeats 4000000 in
set_option maxRecDepth 100000 in
theorem L_X2_thingsIn (F : Fx p l s m args meth c cX2_thingsIn 4 RX2 X) {r : Nat} (hr0 : r < 2) {σ : Sg} {jc tc : Nat} {ln : Nat → Nat} (hS : Shp σ jc tc ln) (hb : tc ≤ 12) {x : Int32} (K : V p l e R s m args below meth c Q X 4 ex (uC M r σ) lf cells slots 34 [(3, .int (nI tc)), (2, .int (cI (fun k => decide (σ 8 k 1 = x)) tc)), (0, .ref (X.2.1 r 0 0)), (1, .int x)] []) : ∀ (k q : Nat), k + q = tc → V p l e R s m args below meth c Q X 4 ex (uC M r σ) lf cells slots 4 [(3, .int (nI q)), (2, .int (cI (fun k => decide (σ 8 k 1 = x)) q)), (0, .ref (X.2.1 r 0 0)), (1, .int x)] [] := by
  intro k
  induction k with
  | zero =>
    intro q hq
    obtain rfl : q = tc := by omega
    refine v_iload_n F dX2_thingsIn_4 rfl 0 rfl ?_
    refine v_aload_n F dX2_thingsIn_5 rfl 2 rfl ?_
    refine v_get F (id_R hr0 (by decide) (by decide)) (heR hr0) rfl uw_X2 3 (by decide) rfl rfl wf_X2_29 dX2_thingsIn_6 ?_
    refine v_topr (nI q) hS.2.2.2.1 ?_
    refine v_icmp_ge F (tgt := 34) dX2_thingsIn_9 (by decide) (fun c9 => ?_) (fun h => absurd (nI_le (Nat.le_refl _) (by omega)) h)
    exact K
  | succ k ih =>
    intro q hq
    refine v_iload_n F dX2_thingsIn_4 rfl 0 rfl ?_
    refine v_aload_n F dX2_thingsIn_5 rfl 2 rfl ?_
    refine v_get F (id_R hr0 (by decide) (by decide)) (heR hr0) rfl uw_X2 3 (by decide) rfl rfl wf_X2_29 dX2_thingsIn_6 ?_
    refine v_topr (nI tc) hS.2.2.2.1 ?_
    refine v_icmp_ge F (tgt := 34) dX2_thingsIn_9 (by decide) (fun h => absurd h (nI_ge (by omega) (by omega))) (fun c9 => ?_)
    refine v_aload_n F dX2_thingsIn_12 rfl 2 rfl ?_
    refine v_get F (id_R hr0 (by decide) (by decide)) (heR hr0) rfl uw_X2 1 (by decide) rfl rfl wf_X2_20 dX2_thingsIn_13 ?_
    refine v_iload_n F dX2_thingsIn_16 rfl 0 rfl ?_
    refine v_aaldT F hr0 (q) (Ix_nI (by omega)) dX2_thingsIn_17 ?_
    refine v_getN F (id_R hr0 (by decide) (show _ < 12 by omega)) (heR hr0) rfl uw_X3 1 (by decide) rfl rfl wf_X2_62 dX2_thingsIn_18 ?_
    refine v_iload_n F dX2_thingsIn_21 rfl 3 rfl ?_
    refine v_icmp_ne F (tgt := 28) dX2_thingsIn_22 (by decide) (fun c22 => ?_) (fun c22 => ?_)
    · have := c22
      refine v_iinc F (k := 0) (nI (q + 1)) dX2_thingsIn_28 rfl (iinc_nI q) (by decide) (lv' := [(3, .int _), (2, .int _), (0, .ref _), (1, .int _)]) rfl ?_
      refine v_goto F (tgt := 4) dX2_thingsIn_31 (by decide) ?_
      refine v_eq rfl ?_ rfl (ih (q + 1) (by omega))
      simp_all [cI, iinc_1]
    · have := c22
      refine v_iinc F (k := 1) (_) dX2_thingsIn_25 rfl rfl (by decide) (lv' := [(2, .int _), (3, .int _), (0, .ref _), (1, .int _)]) rfl ?_
      refine v_iinc F (k := 1) (nI (q + 1)) dX2_thingsIn_28 rfl (iinc_nI q) (by decide) (lv' := [(3, .int _), (2, .int _), (0, .ref _), (1, .int _)]) rfl ?_
      refine v_goto F (tgt := 4) dX2_thingsIn_31 (by decide) ?_
      refine v_eq rfl ?_ rfl (ih (q + 1) (by omega))
      simp_all [cI, iinc_1]
set_option maxHeartbeats 4000000 in
set_option maxRecDepth 100000 in
theorem c_X2_thingsIn {X : Cx} {l : Launch} (G : Gx X l) {M : Mem} {lf : Lf} {r : Nat} (hr0 : r < 2) {σ : Sg} {jc tc : Nat} {ln : Nat → Nat} (hS : Shp σ jc tc ln) (x : Int32) : CI X l yX2_thingsIn (wsc yX2_thingsIn cX2_thingsIn 4 (some .int)) rm_X2_thingsIn [.ref (X.2.1 r 0 0), .int x] (uC M r σ) lf (fIn σ tc x) (uC M r σ) lf 0 0 := by
  refine CI_of (lv := [(0, .ref _), (1, .int _)]) G (by decide) (Nat.le_of_ble_eq_true rfl) rfl (fun p e s m args below meth c F hr => ?_)
  have F : Fx p l s m args meth c cX2_thingsIn 4 RX2 X := F
  refine v_iconst F (v := 0) dX2_thingsIn_0 (by decide) ?_
  refine v_istore_n F dX2_thingsIn_1 rfl (by decide) (lv' := [(2, .int _), (0, .ref _), (1, .int _)]) rfl ?_
  refine v_iconst F (v := nI 0) dX2_thingsIn_2 (by decide) ?_
  refine v_istore_n F dX2_thingsIn_3 rfl (by decide) (lv' := [(3, .int _), (2, .int _), (0, .ref _), (1, .int _)]) rfl ?_
  refine L_X2_thingsIn F hr0 hS hS.2.1 ?_ tc 0 (Nat.add_zero tc)
  · skip
    refine v_iload_n F dX2_thingsIn_34 rfl 1 rfl ?_
    exact v_iret F hr dX2_thingsIn_35 rfl rfl rfl
set_option maxHeartbeats 4000000 in
set_option maxRecDepth 100000 in
theorem L_X2_thingsFlyingTo (F : Fx p l s m args meth c cX2_thingsFlyingTo 4 RX2 X) {r : Nat} (hr0 : r < 2) {σ : Sg} {jc tc : Nat} {ln : Nat → Nat} (hS : Shp σ jc tc ln) (hb : tc ≤ 12) {x : Int32} (K : V p l e R s m args below meth c Q X 4 ex (uC M r σ) lf cells slots 47 [(3, .int (nI tc)), (2, .int (cI (fun k => decide (σ 8 k 1 = 2) && decide (σ 8 k 2 = x)) tc)), (0, .ref (X.2.1 r 0 0)), (1, .int x)] []) : ∀ (k q : Nat), k + q = tc → V p l e R s m args below meth c Q X 4 ex (uC M r σ) lf cells slots 4 [(3, .int (nI q)), (2, .int (cI (fun k => decide (σ 8 k 1 = 2) && decide (σ 8 k 2 = x)) q)), (0, .ref (X.2.1 r 0 0)), (1, .int x)] [] := by
  intro k
  induction k with
  | zero =>
    intro q hq
    obtain rfl : q = tc := by omega
    refine v_iload_n F dX2_thingsFlyingTo_4 rfl 0 rfl ?_
    refine v_aload_n F dX2_thingsFlyingTo_5 rfl 2 rfl ?_
    refine v_get F (id_R hr0 (by decide) (by decide)) (heR hr0) rfl uw_X2 3 (by decide) rfl rfl wf_X2_29 dX2_thingsFlyingTo_6 ?_
    refine v_topr (nI q) hS.2.2.2.1 ?_
    refine v_icmp_ge F (tgt := 47) dX2_thingsFlyingTo_9 (by decide) (fun c9 => ?_) (fun h => absurd (nI_le (Nat.le_refl _) (by omega)) h)
    exact K
  | succ k ih =>
    intro q hq
    refine v_iload_n F dX2_thingsFlyingTo_4 rfl 0 rfl ?_
    refine v_aload_n F dX2_thingsFlyingTo_5 rfl 2 rfl ?_
    refine v_get F (id_R hr0 (by decide) (by decide)) (heR hr0) rfl uw_X2 3 (by decide) rfl rfl wf_X2_29 dX2_thingsFlyingTo_6 ?_
    refine v_topr (nI tc) hS.2.2.2.1 ?_
    refine v_icmp_ge F (tgt := 47) dX2_thingsFlyingTo_9 (by decide) (fun h => absurd h (nI_ge (by omega) (by omega))) (fun c9 => ?_)
    refine v_aload_n F dX2_thingsFlyingTo_12 rfl 2 rfl ?_
    refine v_get F (id_R hr0 (by decide) (by decide)) (heR hr0) rfl uw_X2 1 (by decide) rfl rfl wf_X2_20 dX2_thingsFlyingTo_13 ?_
    refine v_iload_n F dX2_thingsFlyingTo_16 rfl 0 rfl ?_
    refine v_aaldT F hr0 (q) (Ix_nI (by omega)) dX2_thingsFlyingTo_17 ?_
    refine v_getN F (id_R hr0 (by decide) (show _ < 12 by omega)) (heR hr0) rfl uw_X3 1 (by decide) rfl rfl wf_X2_62 dX2_thingsFlyingTo_18 ?_
    refine v_iconst F (v := 2) dX2_thingsFlyingTo_21 (by decide) ?_
    refine v_icmp_ne F (tgt := 41) dX2_thingsFlyingTo_22 (by decide) (fun c22 => ?_) (fun c22 => ?_)
    · have := c22
      refine v_iinc F (k := 0) (nI (q + 1)) dX2_thingsFlyingTo_41 rfl (iinc_nI q) (by decide) (lv' := [(3, .int _), (2, .int _), (0, .ref _), (1, .int _)]) rfl ?_
      refine v_goto F (tgt := 4) dX2_thingsFlyingTo_44 (by decide) ?_
      refine v_eq rfl ?_ rfl (ih (q + 1) (by omega))
      simp_all [cI, iinc_1]
    · have := c22
      refine v_aload_n F dX2_thingsFlyingTo_25 rfl 2 rfl ?_
      refine v_get F (id_R hr0 (by decide) (by decide)) (heR hr0) rfl uw_X2 1 (by decide) rfl rfl wf_X2_20 dX2_thingsFlyingTo_26 ?_
      refine v_iload_n F dX2_thingsFlyingTo_29 rfl 0 rfl ?_
      refine v_aaldT F hr0 (q) (Ix_nI (by omega)) dX2_thingsFlyingTo_30 ?_
      refine v_getN F (id_R hr0 (by decide) (show _ < 12 by omega)) (heR hr0) rfl uw_X3 2 (by decide) rfl rfl wf_X2_65 dX2_thingsFlyingTo_31 ?_
      refine v_iload_n F dX2_thingsFlyingTo_34 rfl 3 rfl ?_
      refine v_icmp_ne F (tgt := 41) dX2_thingsFlyingTo_35 (by decide) (fun c35 => ?_) (fun c35 => ?_)
      · have := c35
        refine v_iinc F (k := 0) (nI (q + 1)) dX2_thingsFlyingTo_41 rfl (iinc_nI q) (by decide) (lv' := [(3, .int _), (2, .int _), (0, .ref _), (1, .int _)]) rfl ?_
        refine v_goto F (tgt := 4) dX2_thingsFlyingTo_44 (by decide) ?_
        refine v_eq rfl ?_ rfl (ih (q + 1) (by omega))
        simp_all [cI, iinc_1]
      · have := c35
        refine v_iinc F (k := 1) (_) dX2_thingsFlyingTo_38 rfl rfl (by decide) (lv' := [(2, .int _), (3, .int _), (0, .ref _), (1, .int _)]) rfl ?_
        refine v_iinc F (k := 1) (nI (q + 1)) dX2_thingsFlyingTo_41 rfl (iinc_nI q) (by decide) (lv' := [(3, .int _), (2, .int _), (0, .ref _), (1, .int _)]) rfl ?_
        refine v_goto F (tgt := 4) dX2_thingsFlyingTo_44 (by decide) ?_
        refine v_eq rfl ?_ rfl (ih (q + 1) (by omega))
        simp_all [cI, iinc_1]
set_option maxHeartbeats 4000000 in
set_option maxRecDepth 100000 in
theorem c_X2_thingsFlyingTo {X : Cx} {l : Launch} (G : Gx X l) {M : Mem} {lf : Lf} {r : Nat} (hr0 : r < 2) {σ : Sg} {jc tc : Nat} {ln : Nat → Nat} (hS : Shp σ jc tc ln) (x : Int32) : CI X l yX2_thingsFlyingTo (wsc yX2_thingsFlyingTo cX2_thingsFlyingTo 4 (some .int)) rm_X2_thingsFlyingTo [.ref (X.2.1 r 0 0), .int x] (uC M r σ) lf (fFlies σ tc x) (uC M r σ) lf 0 0 := by
  refine CI_of (lv := [(0, .ref _), (1, .int _)]) G (by decide) (Nat.le_of_ble_eq_true rfl) rfl (fun p e s m args below meth c F hr => ?_)
  have F : Fx p l s m args meth c cX2_thingsFlyingTo 4 RX2 X := F
  refine v_iconst F (v := 0) dX2_thingsFlyingTo_0 (by decide) ?_
  refine v_istore_n F dX2_thingsFlyingTo_1 rfl (by decide) (lv' := [(2, .int _), (0, .ref _), (1, .int _)]) rfl ?_
  refine v_iconst F (v := nI 0) dX2_thingsFlyingTo_2 (by decide) ?_
  refine v_istore_n F dX2_thingsFlyingTo_3 rfl (by decide) (lv' := [(3, .int _), (2, .int _), (0, .ref _), (1, .int _)]) rfl ?_
  refine L_X2_thingsFlyingTo F hr0 hS hS.2.1 ?_ tc 0 (Nat.add_zero tc)
  · skip
    refine v_iload_n F dX2_thingsFlyingTo_47 rfl 1 rfl ?_
    exact v_iret F hr dX2_thingsFlyingTo_48 rfl rfl rfl
end RR
end
section
/-! ===== a ring: beats, what it tells, copying ===== -/
section RS
variable {p : Program} {l : Launch} {e : Env} {R : Room} {s : State} {m : MethodId} {args : Array Value} {below : List Frame} {meth : Method} {c : Code} {Q : State → Prop} {X : Cx} {nL : Nat} {ex : va_W} {M : Mem} {lf : Lf} {cells slots : Nat}
set_option maxHeartbeats 4000000 in
set_option maxRecDepth 100000 in
theorem L_X2_comeDown (F : Fx p l s m args meth c cX2_comeDown 6 RX2 X) (G : Gx X l) {r : Nat} (hr0 : r < 2) {σ : Sg} {jc tc : Nat} {ln : Nat → Nat} (hS : Shp σ jc tc ln) {hd : Nat} (hh : hd < 2) (K : V p l e rm_X2_comeDown s m args below meth c Q X 6 ex (uC M r (dnL hd σ tc)) lf 0 0 115 [(3, .int (nI tc)), (2, .int (dnR hd σ tc)), (0, .ref (X.2.1 r 0 0)), (1, .int (nI hd))] []) : ∀ (k q : Nat) (τ : Sg) (acc : Int32), k + q = tc → τ = dnL hd σ q → acc = dnR hd σ q → V p l e rm_X2_comeDown s m args below meth c Q X 6 ex (uC M r τ) lf 0 0 4 [(3, .int (nI q)), (2, .int acc), (0, .ref (X.2.1 r 0 0)), (1, .int (nI hd))] [] := by
  have h12 := hS.2.1
  have h4 := hS.1
  intro k
  induction k with
  | zero =>
    intro q τ acc hq hτ hacc
    obtain rfl : q = tc := by omega
    have hT : τ 0 0 3 = nI q := by rw [hτ]; exact (Shp_dn hS q).2.2.2.1
    refine v_iload_n F dX2_comeDown_4 rfl 0 rfl ?_
    refine v_aload_n F dX2_comeDown_5 rfl 2 rfl ?_
    refine v_get F (id_R hr0 (by decide) (by decide)) (heR hr0) rfl uw_X2 3 (by decide) rfl rfl wf_X2_29 dX2_comeDown_6 ?_
    refine v_topr (nI q) hT ?_
    refine v_icmp_ge F (tgt := 115) dX2_comeDown_9 (by decide) (fun c9 => ?_) (fun h => absurd (nI_le (Nat.le_refl _) (by omega)) h)
    subst hτ; subst hacc
    exact K
  | succ k ih =>
    intro q τ acc hq hτ hacc
    have hT : τ 0 0 3 = nI tc := by rw [hτ]; exact (Shp_dn hS q).2.2.2.1
    have hJ : τ 0 0 2 = nI jc := by rw [hτ]; exact (Shp_dn hS q).2.2.1
    refine v_iload_n F dX2_comeDown_4 rfl 0 rfl ?_
    refine v_aload_n F dX2_comeDown_5 rfl 2 rfl ?_
    refine v_get F (id_R hr0 (by decide) (by decide)) (heR hr0) rfl uw_X2 3 (by decide) rfl rfl wf_X2_29 dX2_comeDown_6 ?_
    refine v_topr (nI tc) hT ?_
    refine v_icmp_ge F (tgt := 115) dX2_comeDown_9 (by decide) (fun h => absurd h (nI_ge (by omega) (by omega))) (fun c9 => ?_)
    refine v_aload_n F dX2_comeDown_12 rfl 2 rfl ?_
    refine v_get F (id_R hr0 (by decide) (by decide)) (heR hr0) rfl uw_X2 1 (by decide) rfl rfl wf_X2_20 dX2_comeDown_13 ?_
    refine v_iload_n F dX2_comeDown_16 rfl 0 rfl ?_
    refine v_aaldT F hr0 (q) (Ix_nI (by omega)) dX2_comeDown_17 ?_
    refine v_astore F dX2_comeDown_18 (by decide) (lv' := [(4, .ref _), (3, .int _), (2, .int _), (0, .ref _), (1, .int _)]) rfl ?_
    refine v_aload F dX2_comeDown_20 0 rfl ?_
    refine v_getN F (id_R hr0 (by decide) (show _ < 12 by omega)) (heR hr0) rfl uw_X3 2 (by decide) rfl rfl wf_X2_65 dX2_comeDown_22 ?_
    refine v_istore F dX2_comeDown_25 (by decide) (lv' := [(5, .int _), (4, .ref _), (3, .int _), (2, .int _), (0, .ref _), (1, .int _)]) rfl ?_
    refine v_aload F dX2_comeDown_27 1 rfl ?_
    refine v_aload_n F dX2_comeDown_29 rfl 4 rfl ?_
    refine v_get F (id_R hr0 (by decide) (by decide)) (heR hr0) rfl uw_X2 4 (by decide) rfl rfl wf_X2_32 dX2_comeDown_30 ?_
    refine v_callNi F (As := [_]) (rest := []) rfl (c_X3_comesDownIn G hr0 (show q < 12 by omega) _) (Rv_T hr0 (show _ < 12 by omega)) wm_X2_83 rfl ⟨rfl, rfl, Nat.le_of_ble_eq_true rfl, Nat.le_of_ble_eq_true rfl, Nat.le_of_ble_eq_true rfl, Nat.le_of_ble_eq_true rfl, Nat.le_of_ble_eq_true rfl⟩ dX2_comeDown_33 ?_
    refine v_if_eq F (tgt := 109) dX2_comeDown_36 (by decide) (fun c36 => ?_) (fun c36 => ?_)
    · have := c36
      have hs : fDown1 τ q hd = τ := by rw [fDown1, if_pos c36]
      have hs2 : fDown1r τ q hd = 0 := by rw [fDown1r, if_pos c36]
      refine v_iinc F (k := 2) (nI (q + 1)) dX2_comeDown_109 rfl (iinc_nI q) (by decide) (lv' := [(3, .int _), (5, .int _), (4, .ref _), (2, .int _), (0, .ref _), (1, .int _)]) rfl ?_
      refine v_goto F (tgt := 4) dX2_comeDown_112 (by decide) ?_
      refine v_locs [0, 3, 4, 5] rfl (ih (q + 1) _ _ (by omega) ?_ ?_)
      · show _ = fDown1 (dnL hd σ q) q hd
        (rw [← hτ, hs]) <;> first | rfl | (rw [h1])
      · show _ = dnR hd σ q + fDown1r (dnL hd σ q) q hd
        rw [← hτ, ← hacc, hs2]
        first | rfl | exact (Int32.add_zero _).symm
    · have := c36
      refine v_aload_n F dX2_comeDown_39 rfl 4 rfl ?_
      refine v_iload F dX2_comeDown_40 0 rfl ?_
      refine v_callVi F (As := [_]) (rest := []) rfl (c_X2_hasJuggler G hr0 _) (Rv_R hr0) wm_X2_87 rfl ⟨rfl, rfl, Nat.le_of_ble_eq_true rfl, Nat.le_of_ble_eq_true rfl, Nat.le_of_ble_eq_true rfl, Nat.le_of_ble_eq_true rfl, Nat.le_of_ble_eq_true rfl⟩ dX2_comeDown_42 ?_
      refine v_if_eq F (tgt := 109) dX2_comeDown_45 (by decide) (fun c45 => ?_) (fun c45 => ?_)
      · have := c45
        have hs : fDown1 τ q hd = τ := by rw [fDown1, if_neg c36, if_pos c45]
        have hs2 : fDown1r τ q hd = 0 := by rw [fDown1r, if_neg c36, if_pos c45]
        refine v_iinc F (k := 2) (nI (q + 1)) dX2_comeDown_109 rfl (iinc_nI q) (by decide) (lv' := [(3, .int _), (5, .int _), (4, .ref _), (2, .int _), (0, .ref _), (1, .int _)]) rfl ?_
        refine v_goto F (tgt := 4) dX2_comeDown_112 (by decide) ?_
        refine v_locs [0, 3, 4, 5] rfl (ih (q + 1) _ _ (by omega) ?_ ?_)
        · show _ = fDown1 (dnL hd σ q) q hd
          (rw [← hτ, hs]) <;> first | rfl | (rw [h1])
        · show _ = dnR hd σ q + fDown1r (dnL hd σ q) q hd
          rw [← hτ, ← hacc, hs2]
          first | rfl | exact (Int32.add_zero _).symm
      · have := c45
        have hx := fHasJ_ix hJ h4 c45
        refine v_aload_n F dX2_comeDown_48 rfl 4 rfl ?_
        refine v_get F (id_R hr0 (by decide) (by decide)) (heR hr0) rfl uw_X2 0 (by decide) rfl rfl wf_X2_11 dX2_comeDown_49 ?_
        refine v_iload F dX2_comeDown_52 0 rfl ?_
        refine v_aaldJ F hr0 ((τ 8 q 2).toNatClampNeg) (Ix_mono hx h4) dX2_comeDown_54 ?_
        refine v_aload F dX2_comeDown_55 1 rfl ?_
        refine v_getN F (id_R hr0 (by decide) (show _ < 12 by omega)) (heR hr0) rfl uw_X3 5 (by decide) rfl rfl wf_X2_90 dX2_comeDown_57 ?_
        refine v_iload_n F dX2_comeDown_60 rfl 5 rfl ?_
        refine v_callNi F (As := [_, _]) (rest := []) rfl (c_X0_canCatch G hr0 (Nat.lt_of_lt_of_le hx.2.2 h4) _ hh) (Rv_J hr0 (show _ < 4 from Nat.lt_of_lt_of_le hx.2.2 h4)) wm_X2_93 rfl ⟨rfl, rfl, Nat.le_of_ble_eq_true rfl, Nat.le_of_ble_eq_true rfl, Nat.le_of_ble_eq_true rfl, Nat.le_of_ble_eq_true rfl, Nat.le_of_ble_eq_true rfl⟩ dX2_comeDown_61 ?_
        refine v_if_eq F (tgt := 94) dX2_comeDown_64 (by decide) (fun c64 => ?_) (fun c64 => ?_)
        · have := c64
          have hs : fDown1 τ q hd = fMiss τ (τ 8 q 2).toNatClampNeg q := by rw [fDown1, if_neg c36, if_neg c45, if_pos c64]
          have hs2 : fDown1r τ q hd = 1 := by rw [fDown1r, if_neg c36, if_neg c45, if_pos c64]
          refine v_aload_n F dX2_comeDown_94 rfl 4 rfl ?_
          refine v_get F (id_R hr0 (by decide) (by decide)) (heR hr0) rfl uw_X2 0 (by decide) rfl rfl wf_X2_11 dX2_comeDown_95 ?_
          refine v_iload F dX2_comeDown_98 0 rfl ?_
          refine v_aaldJ F hr0 ((τ 8 q 2).toNatClampNeg) (Ix_mono hx h4) dX2_comeDown_100 ?_
          refine v_aload F dX2_comeDown_101 1 rfl ?_
          refine v_callNv F (As := [_]) (rest := []) rfl (c_X0_miss G hr0 (Nat.lt_of_lt_of_le hx.2.2 h4) (show q < 12 by omega)) (Rv_J hr0 (show _ < 4 from Nat.lt_of_lt_of_le hx.2.2 h4)) wm_X2_103 rfl ⟨rfl, rfl, Nat.le_of_ble_eq_true rfl, Nat.le_of_ble_eq_true rfl, Nat.le_of_ble_eq_true rfl, Nat.le_of_ble_eq_true rfl, Nat.le_of_ble_eq_true rfl⟩ dX2_comeDown_103 ?_
          refine v_iinc F (k := 3) (_) dX2_comeDown_106 rfl rfl (by decide) (lv' := [(2, .int _), (5, .int _), (4, .ref _), (3, .int _), (0, .ref _), (1, .int _)]) rfl ?_
          refine v_iinc F (k := 3) (nI (q + 1)) dX2_comeDown_109 rfl (iinc_nI q) (by decide) (lv' := [(3, .int _), (2, .int _), (5, .int _), (4, .ref _), (0, .ref _), (1, .int _)]) rfl ?_
          refine v_goto F (tgt := 4) dX2_comeDown_112 (by decide) ?_
          refine v_locs [0, 1, 4, 5] rfl (ih (q + 1) _ _ (by omega) ?_ ?_)
          · show _ = fDown1 (dnL hd σ q) q hd
            (rw [← hτ, hs]) <;> first | rfl | (rw [h1])
          · show _ = dnR hd σ q + fDown1r (dnL hd σ q) q hd
            rw [← hτ, ← hacc, hs2]
            first | rfl | exact (Int32.add_zero _).symm
        · have := c64
          have hs : fDown1 τ q hd = u3 (fPut τ q (τ 8 q 2) (τ 8 q 2).toNatClampNeg hd) 2 (τ 8 q 2).toNatClampNeg 4 (fPut τ q (τ 8 q 2) (τ 8 q 2).toNatClampNeg hd 2 (τ 8 q 2).toNatClampNeg 4 + 1) := by rw [fDown1, if_neg c36, if_neg c45, if_neg c64]
          have hs2 : fDown1r τ q hd = 0 := by rw [fDown1r, if_neg c36, if_neg c45, if_neg c64]
          refine v_aload_n F dX2_comeDown_67 rfl 4 rfl ?_
          refine v_iload_n F dX2_comeDown_68 rfl 2 rfl ?_
          refine v_iload F dX2_comeDown_69 0 rfl ?_
          refine v_iload_n F dX2_comeDown_71 rfl 5 rfl ?_
          refine v_callVv F (As := [_, _, _]) (rest := []) rfl (c_X2_putIntoHand G hr0 (show q < 12 by omega) _ (Ix_mono hx h4) hh) (Rv_R hr0) wm_X2_97 rfl ⟨rfl, rfl, Nat.le_of_ble_eq_true rfl, Nat.le_of_ble_eq_true rfl, Nat.le_of_ble_eq_true rfl, Nat.le_of_ble_eq_true rfl, Nat.le_of_ble_eq_true rfl⟩ dX2_comeDown_72 ?_
          refine v_gen (fun τ1 h1 => ?_)
          refine v_aload_n F dX2_comeDown_75 rfl 4 rfl ?_
          refine v_get F (id_R hr0 (by decide) (by decide)) (heR hr0) rfl uw_X2 0 (by decide) rfl rfl wf_X2_11 dX2_comeDown_76 ?_
          refine v_iload F dX2_comeDown_79 0 rfl ?_
          refine v_aaldJ F hr0 ((τ 8 q 2).toNatClampNeg) (Ix_mono hx h4) dX2_comeDown_81 ?_
          refine v_dup F dX2_comeDown_82 rfl ?_
          refine v_getN F (id_R hr0 (by decide) (show _ < 4 from Nat.lt_of_lt_of_le hx.2.2 h4)) (heR hr0) rfl uw_X0 4 (by decide) rfl rfl wf_X2_100 dX2_comeDown_83 ?_
          refine v_iconst F (v := 1) dX2_comeDown_86 (by decide) ?_
          refine v_iadd F dX2_comeDown_87 ?_
          refine v_putNC F tyX0 tyX0_ok nmX0 (id_R hr0 (by decide) (show _ < 4 from Nat.lt_of_lt_of_le hx.2.2 h4)) (celD_R hr0) rfl uw_X0 4 (by decide) rfl rfl (by decide +kernel) (celD_R hr0) (Nat.le_of_ble_eq_true rfl) wf_X2_100 dX2_comeDown_88 ?_
          refine v_goto F (tgt := 109) dX2_comeDown_91 (by decide) ?_
          refine v_iinc F (k := 2) (nI (q + 1)) dX2_comeDown_109 rfl (iinc_nI q) (by decide) (lv' := [(3, .int _), (5, .int _), (4, .ref _), (2, .int _), (0, .ref _), (1, .int _)]) rfl ?_
          refine v_goto F (tgt := 4) dX2_comeDown_112 (by decide) ?_
          refine v_locs [0, 3, 4, 5] rfl (ih (q + 1) _ _ (by omega) ?_ ?_)
          · show _ = fDown1 (dnL hd σ q) q hd
            (rw [← hτ, hs]) <;> first | rfl | (rw [h1])
          · show _ = dnR hd σ q + fDown1r (dnL hd σ q) q hd
            rw [← hτ, ← hacc, hs2]
            first | rfl | exact (Int32.add_zero _).symm
set_option maxHeartbeats 4000000 in
set_option maxRecDepth 100000 in
theorem c_X2_comeDown {X : Cx} {l : Launch} (G : Gx X l) {M : Mem} {lf : Lf} {r : Nat} (hr0 : r < 2) {σ : Sg} {jc tc : Nat} {ln : Nat → Nat} (hS : Shp σ jc tc ln) {hd : Nat} (hh : hd < 2) : CI X l yX2_comeDown (wsc yX2_comeDown cX2_comeDown 6 (some .int)) rm_X2_comeDown [.ref (X.2.1 r 0 0), .int (nI hd)] (uC M r σ) lf (dnR hd σ tc) (uC M r (dnL hd σ tc)) lf 0 0 := by
  refine CI_of (lv := [(0, .ref _), (1, .int _)]) G (by decide) (Nat.le_of_ble_eq_true rfl) rfl (fun p e s m args below meth c F hr => ?_)
  have F : Fx p l s m args meth c cX2_comeDown 6 RX2 X := F
  refine v_iconst F (v := 0) dX2_comeDown_0 (by decide) ?_
  refine v_istore_n F dX2_comeDown_1 rfl (by decide) (lv' := [(2, .int _), (0, .ref _), (1, .int _)]) rfl ?_
  refine v_iconst F (v := nI 0) dX2_comeDown_2 (by decide) ?_
  refine v_istore_n F dX2_comeDown_3 rfl (by decide) (lv' := [(3, .int _), (2, .int _), (0, .ref _), (1, .int _)]) rfl ?_
  refine L_X2_comeDown F G hr0 hS hh ?_ tc 0 _ _ (Nat.add_zero tc) rfl rfl
  · skip
    refine v_iload_n F dX2_comeDown_115 rfl 1 rfl ?_
    exact v_iret F hr dX2_comeDown_116 rfl rfl rfl
set_option maxHeartbeats 4000000 in
set_option maxRecDepth 100000 in
theorem c_X2_throwFrom {X : Cx} {l : Launch} (G : Gx X l) {M : Mem} {lf : Lf} {r : Nat} (hr0 : r < 2) {σ : Sg} {tc : Nat} (h12 : tc ≤ 12) (hT : σ 0 0 3 = nI tc) {j : Nat} (hj : j < 4) {n b hd : Nat} (h1 : 1 ≤ n) (h8 : n ≤ 8) (hn : σ 3 j 2 = nI n) (hb : b < 2 ^ 31) (hbt : σ 0 0 4 = nI b) (hh : hd < 2) : CV X l yX2_throwFrom (wsc yX2_throwFrom cX2_throwFrom 6 none) rm_X2_throwFrom [.ref (X.2.1 r 0 0), .ref (X.2.1 r 2 j), .int (nI hd)] (uC M r σ) lf (uC M r (fThrow σ j (b % n) hd)) lf 0 0 := by
  refine CV_of (lv := [(0, .ref _), (1, .ref _), (2, .int _)]) G (by decide) (Nat.le_of_ble_eq_true rfl) rfl (fun p e s m args below meth c F hr => ?_)
  have F : Fx p l s m args meth c cX2_throwFrom 6 RX2 X := F
  have hm : b % n < 8 := Nat.lt_of_lt_of_le (Nat.mod_lt b h1) h8
  refine v_aload_n F dX2_throwFrom_0 rfl 1 rfl ?_
  refine v_getN F (id_R hr0 (by decide) hj) (heR hr0) rfl uw_X0 1 (by decide) rfl rfl wf_X2_58 dX2_throwFrom_1 ?_
  refine v_iload_n F dX2_throwFrom_4 rfl 2 rfl ?_
  refine v_iald F (id_R hr0 (by decide) hj) (heR hr0) rfl (hd) (Ix_nI (by omega)) dX2_throwFrom_5 ?_
  refine v_istore_n F dX2_throwFrom_6 rfl (by decide) (lv' := [(3, .int _), (0, .ref _), (1, .ref _), (2, .int _)]) rfl ?_
  refine v_aload_n F dX2_throwFrom_7 rfl 2 rfl ?_
  refine v_getN F (id_R hr0 (by decide) hj) (heR hr0) rfl uw_X0 0 (by decide) rfl rfl wf_X2_45 dX2_throwFrom_8 ?_
  refine v_aload_n F dX2_throwFrom_11 rfl 1 rfl ?_
  refine v_get F (id_R hr0 (by decide) (by decide)) (heR hr0) rfl uw_X2 4 (by decide) rfl rfl wf_X2_32 dX2_throwFrom_12 ?_
  refine v_topr (nI b) hbt ?_
  refine v_callNi F (As := [_]) (rest := []) rfl (c_X1_placeIn G hr0 hj hb h1 h8 hn) (Rv_P hr0 hj) wm_X2_106 rfl ⟨rfl, rfl, Nat.le_of_ble_eq_true rfl, Nat.le_of_ble_eq_true rfl, Nat.le_of_ble_eq_true rfl, Nat.le_of_ble_eq_true rfl, Nat.le_of_ble_eq_true rfl⟩ dX2_throwFrom_15 ?_
  refine v_istore F dX2_throwFrom_18 (by decide) (lv' := [(4, .int _), (3, .int _), (0, .ref _), (1, .ref _), (2, .int _)]) rfl ?_
  refine v_aload_n F dX2_throwFrom_20 rfl 3 rfl ?_
  refine v_getN F (id_R hr0 (by decide) hj) (heR hr0) rfl uw_X0 0 (by decide) rfl rfl wf_X2_45 dX2_throwFrom_21 ?_
  refine v_getN F (id_R hr0 (by decide) hj) (heR hr0) rfl uw_X1 0 (by decide) rfl rfl wf_X2_109 dX2_throwFrom_24 ?_
  refine v_iload F dX2_throwFrom_27 0 rfl ?_
  refine v_iald F (id_R hr0 (by decide) hj) (heR hr0) rfl (b % n) (Ix_nI (by omega)) dX2_throwFrom_29 ?_
  refine v_istore F dX2_throwFrom_30 (by decide) (lv' := [(5, .int _), (4, .int _), (3, .int _), (0, .ref _), (1, .ref _), (2, .int _)]) rfl ?_
  refine v_aload_n F dX2_throwFrom_32 rfl 3 rfl ?_
  refine v_iload_n F dX2_throwFrom_33 rfl 2 rfl ?_
  refine v_callVi F (As := [_]) (rest := []) rfl (c_X2_hasThing G hr0 _) (Rv_R hr0) wm_X2_112 rfl ⟨rfl, rfl, Nat.le_of_ble_eq_true rfl, Nat.le_of_ble_eq_true rfl, Nat.le_of_ble_eq_true rfl, Nat.le_of_ble_eq_true rfl, Nat.le_of_ble_eq_true rfl⟩ dX2_throwFrom_34 ?_
  refine v_if_eq F (tgt := 77) dX2_throwFrom_37 (by decide) (fun c37 => ?_) (fun c37 => ?_)
  · have := c37
    refine v_vret F hr dX2_throwFrom_77 ?_ rfl
    unfold fThrow
    first | (rw [if_pos c37]; done) | (rw [if_neg c37, if_pos c42]; done) | (rw [if_neg c37, if_neg c42]; done)
  · have := c37
    have hx := fHasT_ix hT h12 c37
    refine v_iload F dX2_throwFrom_40 0 rfl ?_
    refine v_if_le F (tgt := 77) dX2_throwFrom_42 (by decide) (fun c42 => ?_) (fun c42 => ?_)
    · have := c42
      refine v_vret F hr dX2_throwFrom_77 ?_ rfl
      unfold fThrow
      first | (rw [if_pos c37]; done) | (rw [if_neg c37, if_pos c42]; done) | (rw [if_neg c37, if_neg c42]; done)
    · have := c42
      refine v_aload_n F dX2_throwFrom_45 rfl 3 rfl ?_
      refine v_get F (id_R hr0 (by decide) (by decide)) (heR hr0) rfl uw_X2 1 (by decide) rfl rfl wf_X2_20 dX2_throwFrom_46 ?_
      refine v_iload_n F dX2_throwFrom_49 rfl 2 rfl ?_
      refine v_aaldT F hr0 ((σ 6 j hd).toNatClampNeg) (Ix_mono hx h12) dX2_throwFrom_50 ?_
      refine v_aload_n F dX2_throwFrom_51 rfl 4 rfl ?_
      refine v_getN F (id_R hr0 (by decide) hj) (heR hr0) rfl uw_X0 0 (by decide) rfl rfl wf_X2_45 dX2_throwFrom_52 ?_
      refine v_getN F (id_R hr0 (by decide) hj) (heR hr0) rfl uw_X1 1 (by decide) rfl rfl wf_X2_115 dX2_throwFrom_55 ?_
      refine v_iload F dX2_throwFrom_58 1 rfl ?_
      refine v_iald F (id_R hr0 (by decide) hj) (heR hr0) rfl (b % n) (Ix_nI (by omega)) dX2_throwFrom_60 ?_
      refine v_iload F dX2_throwFrom_61 0 rfl ?_
      refine v_aload_n F dX2_throwFrom_63 rfl 3 rfl ?_
      refine v_get F (id_R hr0 (by decide) (by decide)) (heR hr0) rfl uw_X2 4 (by decide) rfl rfl wf_X2_32 dX2_throwFrom_64 ?_
      refine v_callNv F (As := [_, _, _]) (rest := []) rfl (c_X3_fly G hr0 (Nat.lt_of_lt_of_le hx.2.2 h12) _ _ _) (Rv_T hr0 (show _ < 12 from Nat.lt_of_lt_of_le hx.2.2 h12)) wm_X2_118 rfl ⟨rfl, rfl, Nat.le_of_ble_eq_true rfl, Nat.le_of_ble_eq_true rfl, Nat.le_of_ble_eq_true rfl, Nat.le_of_ble_eq_true rfl, Nat.le_of_ble_eq_true rfl⟩ dX2_throwFrom_67 ?_
      refine v_aload_n F dX2_throwFrom_70 rfl 4 rfl ?_
      refine v_getN F (id_R hr0 (by decide) hj) (heR hr0) rfl uw_X0 1 (by decide) rfl rfl wf_X2_58 dX2_throwFrom_71 ?_
      refine v_iload_n F dX2_throwFrom_74 rfl 5 rfl ?_
      refine v_iconst F (v := (-1)) dX2_throwFrom_75 (by decide) ?_
      refine v_iastC F (id_R hr0 (by decide) hj) (celD_R hr0) rfl (hd) (Ix_nI (by omega)) (celD_R hr0) dX2_throwFrom_76 ?_
      refine v_vret F hr dX2_throwFrom_77 ?_ rfl
      unfold fThrow
      first | (rw [if_pos c37]; done) | (rw [if_neg c37, if_pos c42]; done) | (rw [if_neg c37, if_neg c42]; done)
set_option maxHeartbeats 4000000 in
set_option maxRecDepth 100000 in
theorem L_X2_playBeat (F : Fx p l s m args meth c cX2_playBeat 4 RX2 X) (G : Gx X l) {r : Nat} (hr0 : r < 2) {σ : Sg} {jc tc : Nat} {ln : Nat → Nat} (hS : Shp σ jc tc ln) {b : Nat} (hb : b < 2 ^ 31) (hbt : σ 0 0 4 = nI b) {acc : Int32} (K : V p l e rm_X2_playBeat s m args below meth c Q X 4 ex (uC M r (thL b ln σ jc)) lf 0 0 40 [(3, .int (nI jc)), (2, .int acc), (1, .int (nI (b % 2))), (0, .ref (X.2.1 r 0 0))] []) : ∀ (k q : Nat) (τ : Sg), k + q = jc → τ = thL b ln σ q → V p l e rm_X2_playBeat s m args below meth c Q X 4 ex (uC M r τ) lf 0 0 15 [(3, .int (nI q)), (2, .int acc), (1, .int (nI (b % 2))), (0, .ref (X.2.1 r 0 0))] [] := by
  have h12 := hS.2.1
  have h4 := hS.1
  intro k
  induction k with
  | zero =>
    intro q τ hq hτ
    obtain rfl : q = jc := by omega
    have hJ : τ 0 0 2 = nI q := by rw [hτ]; exact (Shp_th hS q).2.2.1
    refine v_iload_n F dX2_playBeat_15 rfl 0 rfl ?_
    refine v_aload_n F dX2_playBeat_16 rfl 3 rfl ?_
    refine v_get F (id_R hr0 (by decide) (by decide)) (heR hr0) rfl uw_X2 2 (by decide) rfl rfl wf_X2_25 dX2_playBeat_17 ?_
    refine v_topr (nI q) hJ ?_
    refine v_icmp_ge F (tgt := 40) dX2_playBeat_20 (by decide) (fun c20 => ?_) (fun h => absurd (nI_le (Nat.le_refl _) (by omega)) h)
    subst hτ
    exact K
  | succ k ih =>
    intro q τ hq hτ
    have hq4 : q < jc := by omega
    have hST : Shp τ jc tc ln := by rw [hτ]; exact Shp_th hS q
    have hBT : τ 0 0 4 = nI b := by rw [hτ]; exact (thL_k (by decide) (by decide) q).trans hbt
    refine v_iload_n F dX2_playBeat_15 rfl 0 rfl ?_
    refine v_aload_n F dX2_playBeat_16 rfl 3 rfl ?_
    refine v_get F (id_R hr0 (by decide) (by decide)) (heR hr0) rfl uw_X2 2 (by decide) rfl rfl wf_X2_25 dX2_playBeat_17 ?_
    refine v_topr (nI jc) hST.2.2.1 ?_
    refine v_icmp_ge F (tgt := 40) dX2_playBeat_20 (by decide) (fun h => absurd h (nI_ge (by omega) (by omega))) (fun c20 => ?_)
    refine v_aload_n F dX2_playBeat_23 rfl 3 rfl ?_
    refine v_aload_n F dX2_playBeat_24 rfl 3 rfl ?_
    refine v_get F (id_R hr0 (by decide) (by decide)) (heR hr0) rfl uw_X2 0 (by decide) rfl rfl wf_X2_11 dX2_playBeat_25 ?_
    refine v_iload_n F dX2_playBeat_28 rfl 0 rfl ?_
    refine v_aaldJ F hr0 (q) (Ix_nI (by omega)) dX2_playBeat_29 ?_
    refine v_iload_n F dX2_playBeat_30 rfl 2 rfl ?_
    refine v_callVv F (As := [_, _]) (rest := []) rfl (c_X2_throwFrom G hr0 h12 hST.2.2.2.1 (show q < 4 by omega) (hST.2.2.2.2 q hq4).1 (hST.2.2.2.2 q hq4).2.1 (hST.2.2.2.2 q hq4).2.2 hb hBT (Nat.mod_lt b (by decide))) (Rv_R hr0) wm_X2_79 rfl ⟨rfl, rfl, Nat.le_of_ble_eq_true rfl, Nat.le_of_ble_eq_true rfl, Nat.le_of_ble_eq_true rfl, Nat.le_of_ble_eq_true rfl, Nat.le_of_ble_eq_true rfl⟩ dX2_playBeat_31 ?_
    refine v_iinc F (k := 0) (nI (q + 1)) dX2_playBeat_34 rfl (iinc_nI q) (by decide) (lv' := [(3, .int _), (2, .int _), (1, .int _), (0, .ref _)]) rfl ?_
    refine v_goto F (tgt := 15) dX2_playBeat_37 (by decide) ?_
    refine ih (q + 1) _ (by omega) ?_
    show _ = fThrow (thL b ln σ q) q (b % ln q) (b % 2)
    rw [hτ]
set_option maxHeartbeats 4000000 in
set_option maxRecDepth 100000 in
theorem c_X2_playBeat {X : Cx} {l : Launch} (G : Gx X l) {M : Mem} {lf : Lf} {r : Nat} (hr0 : r < 2) {σ : Sg} {jc tc : Nat} {ln : Nat → Nat} (hS : Shp σ jc tc ln) {b : Nat} (hb : b < 2 ^ 31) (hbt : σ 0 0 4 = nI b) : CI X l yX2_playBeat (wsc yX2_playBeat cX2_playBeat 4 (some .int)) rm_X2_playBeat [.ref (X.2.1 r 0 0)] (uC M r σ) lf (fBeatR σ b tc) (uC M r (fBeat σ b jc tc ln)) lf 0 0 := by
  refine CI_of (lv := [(0, .ref _)]) G (by decide) (Nat.le_of_ble_eq_true rfl) rfl (fun p e s m args below meth c F hr => ?_)
  have F : Fx p l s m args meth c cX2_playBeat 4 RX2 X := F
  refine v_aload_n F dX2_playBeat_0 rfl 0 rfl ?_
  refine v_get F (id_R hr0 (by decide) (by decide)) (heR hr0) rfl uw_X2 4 (by decide) rfl rfl wf_X2_32 dX2_playBeat_1 ?_
  refine v_topr (nI b) hbt ?_
  refine v_iconst F (v := 1) dX2_playBeat_4 (by decide) ?_
  refine v_iand F dX2_playBeat_5 ?_
  refine v_topr (nI (b % 2)) ((pk_andN (m := 1) (by omega) 1 (by decide)).trans rfl) ?_
  refine v_istore_n F dX2_playBeat_6 rfl (by decide) (lv' := [(1, .int _), (0, .ref _)]) rfl ?_
  refine v_aload_n F dX2_playBeat_7 rfl 1 rfl ?_
  refine v_iload_n F dX2_playBeat_8 rfl 0 rfl ?_
  refine v_callVi F (As := [_]) (rest := []) rfl (c_X2_comeDown G hr0 hS (Nat.mod_lt b (by decide))) (Rv_R hr0) wm_X2_75 rfl ⟨rfl, rfl, Nat.le_of_ble_eq_true rfl, Nat.le_of_ble_eq_true rfl, Nat.le_of_ble_eq_true rfl, Nat.le_of_ble_eq_true rfl, Nat.le_of_ble_eq_true rfl⟩ dX2_playBeat_9 ?_
  refine v_gen (fun τ1 h1 => ?_)
  refine v_istore_n F dX2_playBeat_12 rfl (by decide) (lv' := [(2, .int _), (1, .int _), (0, .ref _)]) rfl ?_
  refine v_iconst F (v := nI 0) dX2_playBeat_13 (by decide) ?_
  refine v_istore_n F dX2_playBeat_14 rfl (by decide) (lv' := [(3, .int _), (2, .int _), (1, .int _), (0, .ref _)]) rfl ?_
  refine L_X2_playBeat F G hr0 (σ := τ1) (jc := jc) (tc := tc) (ln := ln) (by rw [h1]; exact Shp_dn hS tc) hb (by rw [h1]; exact (dnL_k (by decide) (by decide) (by decide) tc).trans hbt) ?_ jc 0 _ (Nat.add_zero jc) rfl
  · skip
    refine v_gen (fun τ2 h2 => ?_)
    refine v_aload_n F dX2_playBeat_40 rfl 3 rfl ?_
    refine v_dup F dX2_playBeat_41 rfl ?_
    refine v_get F (id_R hr0 (by decide) (by decide)) (heR hr0) rfl uw_X2 4 (by decide) rfl rfl wf_X2_32 dX2_playBeat_42 ?_
    refine v_topr (nI b) (by rw [h2, h1]; exact (thL_k (by decide) (by decide) jc).trans ((dnL_k (by decide) (by decide) (by decide) tc).trans hbt)) ?_
    refine v_iconst F (v := 1) dX2_playBeat_45 (by decide) ?_
    refine v_iadd F dX2_playBeat_46 ?_
    refine v_topr (nI (b + 1)) (nI_succ b).symm ?_
    refine v_putC F tyX2 tyX2_ok nmX2 (id_R hr0 (by decide) (by decide)) (celD_R hr0) rfl uw_X2 4 (by decide) rfl rfl (by decide +kernel) (celD_R hr0) (Nat.le_of_ble_eq_true rfl) wf_X2_32 dX2_playBeat_47 ?_
    refine v_iload_n F dX2_playBeat_50 rfl 1 rfl ?_
    refine v_iret F hr dX2_playBeat_51 rfl ?_ rfl
    rw [h2, h1]
    rfl
set_option maxHeartbeats 4000000 in
set_option maxRecDepth 100000 in
theorem L_X2_play (F : Fx p l s m args meth c cX2_play 4 RX2 X) (G : Gx X l) {r : Nat} (hr0 : r < 2) {σ : Sg} {jc tc : Nat} {ln : Nat → Nat} (hS : Shp σ jc tc ln) {b n : Nat} (hb : b + n < 2 ^ 31) (hbt : σ 0 0 4 = nI b) (K : V p l e rm_X2_play s m args below meth c Q X 4 ex (uC M r (plL b jc tc ln σ n)) lf 0 0 22 [(3, .int (nI n)), (2, .int (plR b jc tc ln σ n)), (0, .ref (X.2.1 r 0 0)), (1, .int (nI n))] []) : ∀ (k q : Nat) (τ : Sg) (acc : Int32), k + q = n → τ = plL b jc tc ln σ q → acc = plR b jc tc ln σ q → V p l e rm_X2_play s m args below meth c Q X 4 ex (uC M r τ) lf 0 0 4 [(3, .int (nI q)), (2, .int acc), (0, .ref (X.2.1 r 0 0)), (1, .int (nI n))] [] := by
  intro k
  induction k with
  | zero =>
    intro q τ acc hq hτ hacc
    obtain rfl : q = n := by omega
    refine v_iload_n F dX2_play_4 rfl 0 rfl ?_
    refine v_iload_n F dX2_play_5 rfl 3 rfl ?_
    refine v_icmp_ge F (tgt := 22) dX2_play_6 (by decide) (fun c6 => ?_) (fun h => absurd (nI_le (Nat.le_refl _) (by omega)) h)
    subst hτ; subst hacc
    exact K
  | succ k ih =>
    intro q τ acc hq hτ hacc
    have hST : Shp τ jc tc ln := by rw [hτ]; exact Shp_pl hS q
    have hBT : τ 0 0 4 = nI (b + q) := by rw [hτ]; exact plL_b hbt q
    refine v_iload_n F dX2_play_4 rfl 0 rfl ?_
    refine v_iload_n F dX2_play_5 rfl 3 rfl ?_
    refine v_icmp_ge F (tgt := 22) dX2_play_6 (by decide) (fun h => absurd h (nI_ge (by omega) (by omega))) (fun c6 => ?_)
    refine v_iload_n F dX2_play_9 rfl 1 rfl ?_
    refine v_aload_n F dX2_play_10 rfl 2 rfl ?_
    refine v_callVi F (As := []) (rest := [.int _]) rfl (c_X2_playBeat G hr0 hST (show b + q < 2 ^ 31 by omega) hBT) (Rv_R hr0) wm_X2_71 rfl ⟨rfl, rfl, Nat.le_of_ble_eq_true rfl, Nat.le_of_ble_eq_true rfl, Nat.le_of_ble_eq_true rfl, Nat.le_of_ble_eq_true rfl, Nat.le_of_ble_eq_true rfl⟩ dX2_play_11 ?_
    refine v_iadd F dX2_play_14 ?_
    refine v_istore_n F dX2_play_15 rfl (by decide) (lv' := [(2, .int _), (3, .int _), (0, .ref _), (1, .int _)]) rfl ?_
    refine v_iinc F (k := 1) (nI (q + 1)) dX2_play_16 rfl (iinc_nI q) (by decide) (lv' := [(3, .int _), (2, .int _), (0, .ref _), (1, .int _)]) rfl ?_
    refine v_goto F (tgt := 4) dX2_play_19 (by decide) ?_
    refine ih (q + 1) _ _ (by omega) ?_ ?_
    · show _ = fBeat (plL b jc tc ln σ q) (b + q) jc tc ln
      rw [hτ]
    · show _ = plR b jc tc ln σ q + fBeatR (plL b jc tc ln σ q) (b + q) tc
      rw [hacc, hτ]
set_option maxHeartbeats 4000000 in
set_option maxRecDepth 100000 in
theorem c_X2_play {X : Cx} {l : Launch} (G : Gx X l) {M : Mem} {lf : Lf} {r : Nat} (hr0 : r < 2) {σ : Sg} {jc tc : Nat} {ln : Nat → Nat} (hS : Shp σ jc tc ln) {b n : Nat} (hb : b + n < 2 ^ 31) (hbt : σ 0 0 4 = nI b) : CI X l yX2_play (wsc yX2_play cX2_play 4 (some .int)) rm_X2_play [.ref (X.2.1 r 0 0), .int (nI n)] (uC M r σ) lf (plR b jc tc ln σ n) (uC M r (plL b jc tc ln σ n)) lf 0 0 := by
  refine CI_of (lv := [(0, .ref _), (1, .int _)]) G (by decide) (Nat.le_of_ble_eq_true rfl) rfl (fun p e s m args below meth c F hr => ?_)
  have F : Fx p l s m args meth c cX2_play 4 RX2 X := F
  refine v_iconst F (v := 0) dX2_play_0 (by decide) ?_
  refine v_istore_n F dX2_play_1 rfl (by decide) (lv' := [(2, .int _), (0, .ref _), (1, .int _)]) rfl ?_
  refine v_iconst F (v := nI 0) dX2_play_2 (by decide) ?_
  refine v_istore_n F dX2_play_3 rfl (by decide) (lv' := [(3, .int _), (2, .int _), (0, .ref _), (1, .int _)]) rfl ?_
  refine L_X2_play F G hr0 hS hb hbt ?_ n 0 _ _ (Nat.add_zero n) rfl rfl
  · skip
    refine v_iload_n F dX2_play_22 rfl 1 rfl ?_
    exact v_iret F hr dX2_play_23 rfl rfl rfl
set_option maxHeartbeats 4000000 in
set_option maxRecDepth 100000 in
theorem c_X2_tellThing_0 {X : Cx} {l : Launch} (G : Gx X l) {M : Mem} {lf : Lf} {r : Nat} (hr0 : r < 2) {σ : Sg} {jc tc : Nat} {ln : Nat → Nat} (hS : Shp σ jc tc ln) {k : Nat} (hk : k < tc) : CI X l yX2_tellThing (wsc yX2_tellThing cX2_tellThing 4 (some .int)) rm_X2_tellThing [.ref (X.2.1 r 0 0), .int (nI k), .int (nI 0)] (uC M r σ) lf (fTellT σ k 0) (uC M r σ) lf 0 0 := by
  refine CI_of (lv := [(0, .ref _), (1, .int _), (2, .int _)]) G (by decide) (Nat.le_of_ble_eq_true rfl) rfl (fun p e s m args below meth c F hr => ?_)
  have F : Fx p l s m args meth c cX2_tellThing 4 RX2 X := F
  have h12 := hS.2.1
  refine v_aload_n F dX2_tellThing_0 rfl 0 rfl ?_
  refine v_get F (id_R hr0 (by decide) (by decide)) (heR hr0) rfl uw_X2 1 (by decide) rfl rfl wf_X2_20 dX2_tellThing_1 ?_
  refine v_iload_n F dX2_tellThing_4 rfl 1 rfl ?_
  refine v_aaldT F hr0 (k) (Ix_nI (by omega)) dX2_tellThing_5 ?_
  refine v_astore_n F dX2_tellThing_6 rfl (by decide) (lv' := [(3, .ref _), (0, .ref _), (1, .int _), (2, .int _)]) rfl ?_
  refine v_iload_n F dX2_tellThing_7 rfl 3 rfl ?_
  refine v_tableIn F (tgt := 48) dX2_tellThing_8 (by decide) (by decide) rfl (by decide) ?_
  refine v_aload_n F dX2_tellThing_48 rfl 0 rfl ?_
  refine v_getN F (id_R hr0 (by decide) (show k < 12 by omega)) (heR hr0) rfl uw_X3 0 (by decide) rfl rfl wf_X2_55 dX2_tellThing_49 ?_
  refine v_iret F hr dX2_tellThing_52 ?_ rfl rfl
  first | rfl | (simp_all [fTellT]; done)
set_option maxHeartbeats 4000000 in
set_option maxRecDepth 100000 in
theorem c_X2_tellThing_1 {X : Cx} {l : Launch} (G : Gx X l) {M : Mem} {lf : Lf} {r : Nat} (hr0 : r < 2) {σ : Sg} {jc tc : Nat} {ln : Nat → Nat} (hS : Shp σ jc tc ln) {k : Nat} (hk : k < tc) : CI X l yX2_tellThing (wsc yX2_tellThing cX2_tellThing 4 (some .int)) rm_X2_tellThing [.ref (X.2.1 r 0 0), .int (nI k), .int (nI 1)] (uC M r σ) lf (fTellT σ k 1) (uC M r σ) lf 0 0 := by
  refine CI_of (lv := [(0, .ref _), (1, .int _), (2, .int _)]) G (by decide) (Nat.le_of_ble_eq_true rfl) rfl (fun p e s m args below meth c F hr => ?_)
  have F : Fx p l s m args meth c cX2_tellThing 4 RX2 X := F
  have h12 := hS.2.1
  refine v_aload_n F dX2_tellThing_0 rfl 0 rfl ?_
  refine v_get F (id_R hr0 (by decide) (by decide)) (heR hr0) rfl uw_X2 1 (by decide) rfl rfl wf_X2_20 dX2_tellThing_1 ?_
  refine v_iload_n F dX2_tellThing_4 rfl 1 rfl ?_
  refine v_aaldT F hr0 (k) (Ix_nI (by omega)) dX2_tellThing_5 ?_
  refine v_astore_n F dX2_tellThing_6 rfl (by decide) (lv' := [(3, .ref _), (0, .ref _), (1, .int _), (2, .int _)]) rfl ?_
  refine v_iload_n F dX2_tellThing_7 rfl 3 rfl ?_
  refine v_tableIn F (tgt := 53) dX2_tellThing_8 (by decide) (by decide) rfl (by decide) ?_
  refine v_aload_n F dX2_tellThing_53 rfl 0 rfl ?_
  refine v_getN F (id_R hr0 (by decide) (show k < 12 by omega)) (heR hr0) rfl uw_X3 1 (by decide) rfl rfl wf_X2_62 dX2_tellThing_54 ?_
  refine v_iret F hr dX2_tellThing_57 ?_ rfl rfl
  first | rfl | (simp_all [fTellT]; done)
set_option maxHeartbeats 4000000 in
set_option maxRecDepth 100000 in
theorem c_X2_tellThing_2 {X : Cx} {l : Launch} (G : Gx X l) {M : Mem} {lf : Lf} {r : Nat} (hr0 : r < 2) {σ : Sg} {jc tc : Nat} {ln : Nat → Nat} (hS : Shp σ jc tc ln) {k : Nat} (hk : k < tc) : CI X l yX2_tellThing (wsc yX2_tellThing cX2_tellThing 4 (some .int)) rm_X2_tellThing [.ref (X.2.1 r 0 0), .int (nI k), .int (nI 2)] (uC M r σ) lf (fTellT σ k 2) (uC M r σ) lf 0 0 := by
  refine CI_of (lv := [(0, .ref _), (1, .int _), (2, .int _)]) G (by decide) (Nat.le_of_ble_eq_true rfl) rfl (fun p e s m args below meth c F hr => ?_)
  have F : Fx p l s m args meth c cX2_tellThing 4 RX2 X := F
  have h12 := hS.2.1
  refine v_aload_n F dX2_tellThing_0 rfl 0 rfl ?_
  refine v_get F (id_R hr0 (by decide) (by decide)) (heR hr0) rfl uw_X2 1 (by decide) rfl rfl wf_X2_20 dX2_tellThing_1 ?_
  refine v_iload_n F dX2_tellThing_4 rfl 1 rfl ?_
  refine v_aaldT F hr0 (k) (Ix_nI (by omega)) dX2_tellThing_5 ?_
  refine v_astore_n F dX2_tellThing_6 rfl (by decide) (lv' := [(3, .ref _), (0, .ref _), (1, .int _), (2, .int _)]) rfl ?_
  refine v_iload_n F dX2_tellThing_7 rfl 3 rfl ?_
  refine v_tableIn F (tgt := 58) dX2_tellThing_8 (by decide) (by decide) rfl (by decide) ?_
  refine v_aload_n F dX2_tellThing_58 rfl 0 rfl ?_
  refine v_getN F (id_R hr0 (by decide) (show k < 12 by omega)) (heR hr0) rfl uw_X3 2 (by decide) rfl rfl wf_X2_65 dX2_tellThing_59 ?_
  refine v_iret F hr dX2_tellThing_62 ?_ rfl rfl
  first | rfl | (simp_all [fTellT]; done)
set_option maxHeartbeats 4000000 in
set_option maxRecDepth 100000 in
theorem c_X2_tellThing_3 {X : Cx} {l : Launch} (G : Gx X l) {M : Mem} {lf : Lf} {r : Nat} (hr0 : r < 2) {σ : Sg} {jc tc : Nat} {ln : Nat → Nat} (hS : Shp σ jc tc ln) {k : Nat} (hk : k < tc) : CI X l yX2_tellThing (wsc yX2_tellThing cX2_tellThing 4 (some .int)) rm_X2_tellThing [.ref (X.2.1 r 0 0), .int (nI k), .int (nI 3)] (uC M r σ) lf (fTellT σ k 3) (uC M r σ) lf 0 0 := by
  refine CI_of (lv := [(0, .ref _), (1, .int _), (2, .int _)]) G (by decide) (Nat.le_of_ble_eq_true rfl) rfl (fun p e s m args below meth c F hr => ?_)
  have F : Fx p l s m args meth c cX2_tellThing 4 RX2 X := F
  have h12 := hS.2.1
  refine v_aload_n F dX2_tellThing_0 rfl 0 rfl ?_
  refine v_get F (id_R hr0 (by decide) (by decide)) (heR hr0) rfl uw_X2 1 (by decide) rfl rfl wf_X2_20 dX2_tellThing_1 ?_
  refine v_iload_n F dX2_tellThing_4 rfl 1 rfl ?_
  refine v_aaldT F hr0 (k) (Ix_nI (by omega)) dX2_tellThing_5 ?_
  refine v_astore_n F dX2_tellThing_6 rfl (by decide) (lv' := [(3, .ref _), (0, .ref _), (1, .int _), (2, .int _)]) rfl ?_
  refine v_iload_n F dX2_tellThing_7 rfl 3 rfl ?_
  refine v_tableIn F (tgt := 63) dX2_tellThing_8 (by decide) (by decide) rfl (by decide) ?_
  refine v_aload_n F dX2_tellThing_63 rfl 0 rfl ?_
  refine v_getN F (id_R hr0 (by decide) (show k < 12 by omega)) (heR hr0) rfl uw_X3 3 (by decide) rfl rfl wf_X2_68 dX2_tellThing_64 ?_
  refine v_iret F hr dX2_tellThing_67 ?_ rfl rfl
  first | rfl | (simp_all [fTellT]; done)
set_option maxHeartbeats 4000000 in
set_option maxRecDepth 100000 in
theorem c_X2_tellThing_4 {X : Cx} {l : Launch} (G : Gx X l) {M : Mem} {lf : Lf} {r : Nat} (hr0 : r < 2) {σ : Sg} {jc tc : Nat} {ln : Nat → Nat} (hS : Shp σ jc tc ln) {k : Nat} (hk : k < tc) : CI X l yX2_tellThing (wsc yX2_tellThing cX2_tellThing 4 (some .int)) rm_X2_tellThing [.ref (X.2.1 r 0 0), .int (nI k), .int (nI 4)] (uC M r σ) lf (fTellT σ k 4) (uC M r σ) lf 0 0 := by
  refine CI_of (lv := [(0, .ref _), (1, .int _), (2, .int _)]) G (by decide) (Nat.le_of_ble_eq_true rfl) rfl (fun p e s m args below meth c F hr => ?_)
  have F : Fx p l s m args meth c cX2_tellThing 4 RX2 X := F
  have h12 := hS.2.1
  refine v_aload_n F dX2_tellThing_0 rfl 0 rfl ?_
  refine v_get F (id_R hr0 (by decide) (by decide)) (heR hr0) rfl uw_X2 1 (by decide) rfl rfl wf_X2_20 dX2_tellThing_1 ?_
  refine v_iload_n F dX2_tellThing_4 rfl 1 rfl ?_
  refine v_aaldT F hr0 (k) (Ix_nI (by omega)) dX2_tellThing_5 ?_
  refine v_astore_n F dX2_tellThing_6 rfl (by decide) (lv' := [(3, .ref _), (0, .ref _), (1, .int _), (2, .int _)]) rfl ?_
  refine v_iload_n F dX2_tellThing_7 rfl 3 rfl ?_
  refine v_tableIn F (tgt := 68) dX2_tellThing_8 (by decide) (by decide) rfl (by decide) ?_
  refine v_aload_n F dX2_tellThing_68 rfl 0 rfl ?_
  refine v_getN F (id_R hr0 (by decide) (show k < 12 by omega)) (heR hr0) rfl uw_X3 1 (by decide) rfl rfl wf_X2_62 dX2_tellThing_69 ?_
  refine v_iconst F (v := 2) dX2_tellThing_72 (by decide) ?_
  refine v_icmp_ne F (tgt := 88) dX2_tellThing_73 (by decide) (fun c73 => ?_) (fun c73 => ?_)
  · have := c73
    refine v_iconst F (v := (-1)) dX2_tellThing_88 (by decide) ?_
    refine v_iret F hr dX2_tellThing_89 ?_ rfl rfl
    first | rfl | (simp_all [fTellT]; done)
  · have := c73
    refine v_aload_n F dX2_tellThing_76 rfl 0 rfl ?_
    refine v_getN F (id_R hr0 (by decide) (show k < 12 by omega)) (heR hr0) rfl uw_X3 4 (by decide) rfl rfl wf_X2_130 dX2_tellThing_77 ?_
    refine v_aload_n F dX2_tellThing_80 rfl 1 rfl ?_
    refine v_get F (id_R hr0 (by decide) (by decide)) (heR hr0) rfl uw_X2 4 (by decide) rfl rfl wf_X2_32 dX2_tellThing_81 ?_
    refine v_isub F dX2_tellThing_84 ?_
    refine v_goto F (tgt := 89) dX2_tellThing_85 (by decide) ?_
    refine v_iret F hr dX2_tellThing_89 ?_ rfl rfl
    first | rfl | (simp_all [fTellT]; done)
set_option maxHeartbeats 4000000 in
set_option maxRecDepth 100000 in
theorem c_X2_tellThing_5 {X : Cx} {l : Launch} (G : Gx X l) {M : Mem} {lf : Lf} {r : Nat} (hr0 : r < 2) {σ : Sg} {jc tc : Nat} {ln : Nat → Nat} (hS : Shp σ jc tc ln) {k : Nat} (hk : k < tc) : CI X l yX2_tellThing (wsc yX2_tellThing cX2_tellThing 4 (some .int)) rm_X2_tellThing [.ref (X.2.1 r 0 0), .int (nI k), .int (nI 5)] (uC M r σ) lf (fTellT σ k 5) (uC M r σ) lf 0 0 := by
  refine CI_of (lv := [(0, .ref _), (1, .int _), (2, .int _)]) G (by decide) (Nat.le_of_ble_eq_true rfl) rfl (fun p e s m args below meth c F hr => ?_)
  have F : Fx p l s m args meth c cX2_tellThing 4 RX2 X := F
  have h12 := hS.2.1
  refine v_aload_n F dX2_tellThing_0 rfl 0 rfl ?_
  refine v_get F (id_R hr0 (by decide) (by decide)) (heR hr0) rfl uw_X2 1 (by decide) rfl rfl wf_X2_20 dX2_tellThing_1 ?_
  refine v_iload_n F dX2_tellThing_4 rfl 1 rfl ?_
  refine v_aaldT F hr0 (k) (Ix_nI (by omega)) dX2_tellThing_5 ?_
  refine v_astore_n F dX2_tellThing_6 rfl (by decide) (lv' := [(3, .ref _), (0, .ref _), (1, .int _), (2, .int _)]) rfl ?_
  refine v_iload_n F dX2_tellThing_7 rfl 3 rfl ?_
  refine v_tableIn F (tgt := 90) dX2_tellThing_8 (by decide) (by decide) rfl (by decide) ?_
  refine v_aload_n F dX2_tellThing_90 rfl 0 rfl ?_
  refine v_getN F (id_R hr0 (by decide) (show k < 12 by omega)) (heR hr0) rfl uw_X3 6 (by decide) rfl rfl wf_X2_121 dX2_tellThing_91 ?_
  refine v_iret F hr dX2_tellThing_94 ?_ rfl rfl
  first | rfl | (simp_all [fTellT]; done)
set_option maxHeartbeats 4000000 in
set_option maxRecDepth 100000 in
theorem c_X2_tellThing_6 {X : Cx} {l : Launch} (G : Gx X l) {M : Mem} {lf : Lf} {r : Nat} (hr0 : r < 2) {σ : Sg} {jc tc : Nat} {ln : Nat → Nat} (hS : Shp σ jc tc ln) {k : Nat} (hk : k < tc) : CI X l yX2_tellThing (wsc yX2_tellThing cX2_tellThing 4 (some .int)) rm_X2_tellThing [.ref (X.2.1 r 0 0), .int (nI k), .int (nI 6)] (uC M r σ) lf (fTellT σ k 6) (uC M r σ) lf 0 0 := by
  refine CI_of (lv := [(0, .ref _), (1, .int _), (2, .int _)]) G (by decide) (Nat.le_of_ble_eq_true rfl) rfl (fun p e s m args below meth c F hr => ?_)
  have F : Fx p l s m args meth c cX2_tellThing 4 RX2 X := F
  have h12 := hS.2.1
  refine v_aload_n F dX2_tellThing_0 rfl 0 rfl ?_
  refine v_get F (id_R hr0 (by decide) (by decide)) (heR hr0) rfl uw_X2 1 (by decide) rfl rfl wf_X2_20 dX2_tellThing_1 ?_
  refine v_iload_n F dX2_tellThing_4 rfl 1 rfl ?_
  refine v_aaldT F hr0 (k) (Ix_nI (by omega)) dX2_tellThing_5 ?_
  refine v_astore_n F dX2_tellThing_6 rfl (by decide) (lv' := [(3, .ref _), (0, .ref _), (1, .int _), (2, .int _)]) rfl ?_
  refine v_iload_n F dX2_tellThing_7 rfl 3 rfl ?_
  refine v_tableOut F (tgt := 95) dX2_tellThing_8 (Or.inr (by decide)) (by decide) ?_
  refine v_aload_n F dX2_tellThing_95 rfl 0 rfl ?_
  refine v_getN F (id_R hr0 (by decide) (show k < 12 by omega)) (heR hr0) rfl uw_X3 7 (by decide) rfl rfl wf_X2_124 dX2_tellThing_96 ?_
  refine v_iret F hr dX2_tellThing_99 ?_ rfl rfl
  first | rfl | (simp_all [fTellT]; done)
set_option maxHeartbeats 4000000 in
set_option maxRecDepth 100000 in
theorem c_X2_tellJuggler_0 {X : Cx} {l : Launch} (G : Gx X l) {M : Mem} {lf : Lf} {r : Nat} (hr0 : r < 2) {σ : Sg} {jc tc : Nat} {ln : Nat → Nat} (hS : Shp σ jc tc ln) {j : Nat} (hj : j < jc) : CI X l yX2_tellJuggler (wsc yX2_tellJuggler cX2_tellJuggler 4 (some .int)) rm_X2_tellJuggler [.ref (X.2.1 r 0 0), .int (nI j), .int (nI 0)] (uC M r σ) lf (fTellJ σ tc j 0) (uC M r σ) lf 0 0 := by
  refine CI_of (lv := [(0, .ref _), (1, .int _), (2, .int _)]) G (by decide) (Nat.le_of_ble_eq_true rfl) rfl (fun p e s m args below meth c F hr => ?_)
  have F : Fx p l s m args meth c cX2_tellJuggler 4 RX2 X := F
  have h4 := hS.1
  refine v_aload_n F dX2_tellJuggler_0 rfl 0 rfl ?_
  refine v_get F (id_R hr0 (by decide) (by decide)) (heR hr0) rfl uw_X2 0 (by decide) rfl rfl wf_X2_11 dX2_tellJuggler_1 ?_
  refine v_iload_n F dX2_tellJuggler_4 rfl 1 rfl ?_
  refine v_aaldJ F hr0 (j) (Ix_nI (by omega)) dX2_tellJuggler_5 ?_
  refine v_astore_n F dX2_tellJuggler_6 rfl (by decide) (lv' := [(3, .ref _), (0, .ref _), (1, .int _), (2, .int _)]) rfl ?_
  refine v_iload_n F dX2_tellJuggler_7 rfl 3 rfl ?_
  refine v_tableIn F (tgt := 48) dX2_tellJuggler_8 (by decide) (by decide) rfl (by decide) ?_
  refine v_aload_n F dX2_tellJuggler_48 rfl 0 rfl ?_
  refine v_getN F (id_R hr0 (by decide) (show j < 4 by omega)) (heR hr0) rfl uw_X0 2 (by decide) rfl rfl wf_X2_42 dX2_tellJuggler_49 ?_
  exact v_iret F hr dX2_tellJuggler_52 rfl rfl rfl
set_option maxHeartbeats 4000000 in
set_option maxRecDepth 100000 in
theorem c_X2_tellJuggler_1 {X : Cx} {l : Launch} (G : Gx X l) {M : Mem} {lf : Lf} {r : Nat} (hr0 : r < 2) {σ : Sg} {jc tc : Nat} {ln : Nat → Nat} (hS : Shp σ jc tc ln) {j : Nat} (hj : j < jc) : CI X l yX2_tellJuggler (wsc yX2_tellJuggler cX2_tellJuggler 4 (some .int)) rm_X2_tellJuggler [.ref (X.2.1 r 0 0), .int (nI j), .int (nI 1)] (uC M r σ) lf (fTellJ σ tc j 1) (uC M r σ) lf 0 0 := by
  refine CI_of (lv := [(0, .ref _), (1, .int _), (2, .int _)]) G (by decide) (Nat.le_of_ble_eq_true rfl) rfl (fun p e s m args below meth c F hr => ?_)
  have F : Fx p l s m args meth c cX2_tellJuggler 4 RX2 X := F
  have h4 := hS.1
  refine v_aload_n F dX2_tellJuggler_0 rfl 0 rfl ?_
  refine v_get F (id_R hr0 (by decide) (by decide)) (heR hr0) rfl uw_X2 0 (by decide) rfl rfl wf_X2_11 dX2_tellJuggler_1 ?_
  refine v_iload_n F dX2_tellJuggler_4 rfl 1 rfl ?_
  refine v_aaldJ F hr0 (j) (Ix_nI (by omega)) dX2_tellJuggler_5 ?_
  refine v_astore_n F dX2_tellJuggler_6 rfl (by decide) (lv' := [(3, .ref _), (0, .ref _), (1, .int _), (2, .int _)]) rfl ?_
  refine v_iload_n F dX2_tellJuggler_7 rfl 3 rfl ?_
  refine v_tableIn F (tgt := 53) dX2_tellJuggler_8 (by decide) (by decide) rfl (by decide) ?_
  refine v_aload_n F dX2_tellJuggler_53 rfl 0 rfl ?_
  refine v_getN F (id_R hr0 (by decide) (show j < 4 by omega)) (heR hr0) rfl uw_X0 3 (by decide) rfl rfl wf_X2_127 dX2_tellJuggler_54 ?_
  exact v_iret F hr dX2_tellJuggler_57 rfl rfl rfl
set_option maxHeartbeats 4000000 in
set_option maxRecDepth 100000 in
theorem c_X2_tellJuggler_2 {X : Cx} {l : Launch} (G : Gx X l) {M : Mem} {lf : Lf} {r : Nat} (hr0 : r < 2) {σ : Sg} {jc tc : Nat} {ln : Nat → Nat} (hS : Shp σ jc tc ln) {j : Nat} (hj : j < jc) : CI X l yX2_tellJuggler (wsc yX2_tellJuggler cX2_tellJuggler 4 (some .int)) rm_X2_tellJuggler [.ref (X.2.1 r 0 0), .int (nI j), .int (nI 2)] (uC M r σ) lf (fTellJ σ tc j 2) (uC M r σ) lf 0 0 := by
  refine CI_of (lv := [(0, .ref _), (1, .int _), (2, .int _)]) G (by decide) (Nat.le_of_ble_eq_true rfl) rfl (fun p e s m args below meth c F hr => ?_)
  have F : Fx p l s m args meth c cX2_tellJuggler 4 RX2 X := F
  have h4 := hS.1
  refine v_aload_n F dX2_tellJuggler_0 rfl 0 rfl ?_
  refine v_get F (id_R hr0 (by decide) (by decide)) (heR hr0) rfl uw_X2 0 (by decide) rfl rfl wf_X2_11 dX2_tellJuggler_1 ?_
  refine v_iload_n F dX2_tellJuggler_4 rfl 1 rfl ?_
  refine v_aaldJ F hr0 (j) (Ix_nI (by omega)) dX2_tellJuggler_5 ?_
  refine v_astore_n F dX2_tellJuggler_6 rfl (by decide) (lv' := [(3, .ref _), (0, .ref _), (1, .int _), (2, .int _)]) rfl ?_
  refine v_iload_n F dX2_tellJuggler_7 rfl 3 rfl ?_
  refine v_tableIn F (tgt := 58) dX2_tellJuggler_8 (by decide) (by decide) rfl (by decide) ?_
  refine v_aload_n F dX2_tellJuggler_58 rfl 0 rfl ?_
  refine v_getN F (id_R hr0 (by decide) (show j < 4 by omega)) (heR hr0) rfl uw_X0 1 (by decide) rfl rfl wf_X2_58 dX2_tellJuggler_59 ?_
  refine v_iconst F (v := 0) dX2_tellJuggler_62 (by decide) ?_
  refine v_iald F (id_R hr0 (by decide) (show j < 4 by omega)) (heR hr0) rfl (0) ⟨by decide, by decide, by decide⟩ dX2_tellJuggler_63 ?_
  exact v_iret F hr dX2_tellJuggler_64 rfl rfl rfl
set_option maxHeartbeats 4000000 in
set_option maxRecDepth 100000 in
theorem c_X2_tellJuggler_3 {X : Cx} {l : Launch} (G : Gx X l) {M : Mem} {lf : Lf} {r : Nat} (hr0 : r < 2) {σ : Sg} {jc tc : Nat} {ln : Nat → Nat} (hS : Shp σ jc tc ln) {j : Nat} (hj : j < jc) : CI X l yX2_tellJuggler (wsc yX2_tellJuggler cX2_tellJuggler 4 (some .int)) rm_X2_tellJuggler [.ref (X.2.1 r 0 0), .int (nI j), .int (nI 3)] (uC M r σ) lf (fTellJ σ tc j 3) (uC M r σ) lf 0 0 := by
  refine CI_of (lv := [(0, .ref _), (1, .int _), (2, .int _)]) G (by decide) (Nat.le_of_ble_eq_true rfl) rfl (fun p e s m args below meth c F hr => ?_)
  have F : Fx p l s m args meth c cX2_tellJuggler 4 RX2 X := F
  have h4 := hS.1
  refine v_aload_n F dX2_tellJuggler_0 rfl 0 rfl ?_
  refine v_get F (id_R hr0 (by decide) (by decide)) (heR hr0) rfl uw_X2 0 (by decide) rfl rfl wf_X2_11 dX2_tellJuggler_1 ?_
  refine v_iload_n F dX2_tellJuggler_4 rfl 1 rfl ?_
  refine v_aaldJ F hr0 (j) (Ix_nI (by omega)) dX2_tellJuggler_5 ?_
  refine v_astore_n F dX2_tellJuggler_6 rfl (by decide) (lv' := [(3, .ref _), (0, .ref _), (1, .int _), (2, .int _)]) rfl ?_
  refine v_iload_n F dX2_tellJuggler_7 rfl 3 rfl ?_
  refine v_tableIn F (tgt := 65) dX2_tellJuggler_8 (by decide) (by decide) rfl (by decide) ?_
  refine v_aload_n F dX2_tellJuggler_65 rfl 0 rfl ?_
  refine v_getN F (id_R hr0 (by decide) (show j < 4 by omega)) (heR hr0) rfl uw_X0 1 (by decide) rfl rfl wf_X2_58 dX2_tellJuggler_66 ?_
  refine v_iconst F (v := 1) dX2_tellJuggler_69 (by decide) ?_
  refine v_iald F (id_R hr0 (by decide) (show j < 4 by omega)) (heR hr0) rfl (1) ⟨by decide, by decide, by decide⟩ dX2_tellJuggler_70 ?_
  exact v_iret F hr dX2_tellJuggler_71 rfl rfl rfl
set_option maxHeartbeats 4000000 in
set_option maxRecDepth 100000 in
theorem c_X2_tellJuggler_4 {X : Cx} {l : Launch} (G : Gx X l) {M : Mem} {lf : Lf} {r : Nat} (hr0 : r < 2) {σ : Sg} {jc tc : Nat} {ln : Nat → Nat} (hS : Shp σ jc tc ln) {j : Nat} (hj : j < jc) : CI X l yX2_tellJuggler (wsc yX2_tellJuggler cX2_tellJuggler 4 (some .int)) rm_X2_tellJuggler [.ref (X.2.1 r 0 0), .int (nI j), .int (nI 4)] (uC M r σ) lf (fTellJ σ tc j 4) (uC M r σ) lf 0 0 := by
  refine CI_of (lv := [(0, .ref _), (1, .int _), (2, .int _)]) G (by decide) (Nat.le_of_ble_eq_true rfl) rfl (fun p e s m args below meth c F hr => ?_)
  have F : Fx p l s m args meth c cX2_tellJuggler 4 RX2 X := F
  have h4 := hS.1
  refine v_aload_n F dX2_tellJuggler_0 rfl 0 rfl ?_
  refine v_get F (id_R hr0 (by decide) (by decide)) (heR hr0) rfl uw_X2 0 (by decide) rfl rfl wf_X2_11 dX2_tellJuggler_1 ?_
  refine v_iload_n F dX2_tellJuggler_4 rfl 1 rfl ?_
  refine v_aaldJ F hr0 (j) (Ix_nI (by omega)) dX2_tellJuggler_5 ?_
  refine v_astore_n F dX2_tellJuggler_6 rfl (by decide) (lv' := [(3, .ref _), (0, .ref _), (1, .int _), (2, .int _)]) rfl ?_
  refine v_iload_n F dX2_tellJuggler_7 rfl 3 rfl ?_
  refine v_tableIn F (tgt := 72) dX2_tellJuggler_8 (by decide) (by decide) rfl (by decide) ?_
  refine v_aload_n F dX2_tellJuggler_72 rfl 0 rfl ?_
  refine v_getN F (id_R hr0 (by decide) (show j < 4 by omega)) (heR hr0) rfl uw_X0 0 (by decide) rfl rfl wf_X2_45 dX2_tellJuggler_73 ?_
  refine v_getN F (id_R hr0 (by decide) (show j < 4 by omega)) (heR hr0) rfl uw_X1 2 (by decide) rfl rfl wf_X2_133 dX2_tellJuggler_76 ?_
  exact v_iret F hr dX2_tellJuggler_79 rfl rfl rfl
set_option maxHeartbeats 4000000 in
set_option maxRecDepth 100000 in
theorem c_X2_tellJuggler_5 {X : Cx} {l : Launch} (G : Gx X l) {M : Mem} {lf : Lf} {r : Nat} (hr0 : r < 2) {σ : Sg} {jc tc : Nat} {ln : Nat → Nat} (hS : Shp σ jc tc ln) {j : Nat} (hj : j < jc) : CI X l yX2_tellJuggler (wsc yX2_tellJuggler cX2_tellJuggler 4 (some .int)) rm_X2_tellJuggler [.ref (X.2.1 r 0 0), .int (nI j), .int (nI 5)] (uC M r σ) lf (fTellJ σ tc j 5) (uC M r σ) lf 0 0 := by
  refine CI_of (lv := [(0, .ref _), (1, .int _), (2, .int _)]) G (by decide) (Nat.le_of_ble_eq_true rfl) rfl (fun p e s m args below meth c F hr => ?_)
  have F : Fx p l s m args meth c cX2_tellJuggler 4 RX2 X := F
  have h4 := hS.1
  refine v_aload_n F dX2_tellJuggler_0 rfl 0 rfl ?_
  refine v_get F (id_R hr0 (by decide) (by decide)) (heR hr0) rfl uw_X2 0 (by decide) rfl rfl wf_X2_11 dX2_tellJuggler_1 ?_
  refine v_iload_n F dX2_tellJuggler_4 rfl 1 rfl ?_
  refine v_aaldJ F hr0 (j) (Ix_nI (by omega)) dX2_tellJuggler_5 ?_
  refine v_astore_n F dX2_tellJuggler_6 rfl (by decide) (lv' := [(3, .ref _), (0, .ref _), (1, .int _), (2, .int _)]) rfl ?_
  refine v_iload_n F dX2_tellJuggler_7 rfl 3 rfl ?_
  refine v_tableIn F (tgt := 80) dX2_tellJuggler_8 (by decide) (by decide) rfl (by decide) ?_
  refine v_aload_n F dX2_tellJuggler_80 rfl 1 rfl ?_
  refine v_iload_n F dX2_tellJuggler_81 rfl 2 rfl ?_
  refine v_callVi F (As := [_]) (rest := []) rfl (c_X2_thingsFlyingTo G hr0 hS _) (Rv_R hr0) wm_X2_136 rfl ⟨rfl, rfl, Nat.le_of_ble_eq_true rfl, Nat.le_of_ble_eq_true rfl, Nat.le_of_ble_eq_true rfl, Nat.le_of_ble_eq_true rfl, Nat.le_of_ble_eq_true rfl⟩ dX2_tellJuggler_82 ?_
  exact v_iret F hr dX2_tellJuggler_85 rfl rfl rfl
set_option maxHeartbeats 4000000 in
set_option maxRecDepth 100000 in
theorem c_X2_tellJuggler_6 {X : Cx} {l : Launch} (G : Gx X l) {M : Mem} {lf : Lf} {r : Nat} (hr0 : r < 2) {σ : Sg} {jc tc : Nat} {ln : Nat → Nat} (hS : Shp σ jc tc ln) {j : Nat} (hj : j < jc) : CI X l yX2_tellJuggler (wsc yX2_tellJuggler cX2_tellJuggler 4 (some .int)) rm_X2_tellJuggler [.ref (X.2.1 r 0 0), .int (nI j), .int (nI 6)] (uC M r σ) lf (fTellJ σ tc j 6) (uC M r σ) lf 0 0 := by
  refine CI_of (lv := [(0, .ref _), (1, .int _), (2, .int _)]) G (by decide) (Nat.le_of_ble_eq_true rfl) rfl (fun p e s m args below meth c F hr => ?_)
  have F : Fx p l s m args meth c cX2_tellJuggler 4 RX2 X := F
  have h4 := hS.1
  refine v_aload_n F dX2_tellJuggler_0 rfl 0 rfl ?_
  refine v_get F (id_R hr0 (by decide) (by decide)) (heR hr0) rfl uw_X2 0 (by decide) rfl rfl wf_X2_11 dX2_tellJuggler_1 ?_
  refine v_iload_n F dX2_tellJuggler_4 rfl 1 rfl ?_
  refine v_aaldJ F hr0 (j) (Ix_nI (by omega)) dX2_tellJuggler_5 ?_
  refine v_astore_n F dX2_tellJuggler_6 rfl (by decide) (lv' := [(3, .ref _), (0, .ref _), (1, .int _), (2, .int _)]) rfl ?_
  refine v_iload_n F dX2_tellJuggler_7 rfl 3 rfl ?_
  refine v_tableOut F (tgt := 86) dX2_tellJuggler_8 (Or.inr (by decide)) (by decide) ?_
  refine v_aload_n F dX2_tellJuggler_86 rfl 0 rfl ?_
  refine v_getN F (id_R hr0 (by decide) (show j < 4 by omega)) (heR hr0) rfl uw_X0 4 (by decide) rfl rfl wf_X2_100 dX2_tellJuggler_87 ?_
  exact v_iret F hr dX2_tellJuggler_90 rfl rfl rfl
set_option maxHeartbeats 4000000 in
set_option maxRecDepth 100000 in
theorem c_X2_tellCount_0 {X : Cx} {l : Launch} (G : Gx X l) {M : Mem} {lf : Lf} {r : Nat} (hr0 : r < 2) {σ : Sg} {jc tc : Nat} {ln : Nat → Nat} (hS : Shp σ jc tc ln)  : CI X l yX2_tellCount (wsc yX2_tellCount cX2_tellCount 2 (some .int)) rm_X2_tellCount [.ref (X.2.1 r 0 0), .int (nI 0)] (uC M r σ) lf (fTellC σ tc 0) (uC M r σ) lf 0 0 := by
  refine CI_of (lv := [(0, .ref _), (1, .int _)]) G (by decide) (Nat.le_of_ble_eq_true rfl) rfl (fun p e s m args below meth c F hr => ?_)
  have F : Fx p l s m args meth c cX2_tellCount 2 RX2 X := F
  refine v_iload_n F dX2_tellCount_0 rfl 1 rfl ?_
  refine v_tableIn F (tgt := 48) dX2_tellCount_1 (by decide) (by decide) rfl (by decide) ?_
  refine v_aload_n F dX2_tellCount_48 rfl 0 rfl ?_
  refine v_get F (id_R hr0 (by decide) (by decide)) (heR hr0) rfl uw_X2 4 (by decide) rfl rfl wf_X2_32 dX2_tellCount_49 ?_
  exact v_iret F hr dX2_tellCount_52 rfl rfl rfl
set_option maxHeartbeats 4000000 in
set_option maxRecDepth 100000 in
theorem c_X2_tellCount_1 {X : Cx} {l : Launch} (G : Gx X l) {M : Mem} {lf : Lf} {r : Nat} (hr0 : r < 2) {σ : Sg} {jc tc : Nat} {ln : Nat → Nat} (hS : Shp σ jc tc ln)  : CI X l yX2_tellCount (wsc yX2_tellCount cX2_tellCount 2 (some .int)) rm_X2_tellCount [.ref (X.2.1 r 0 0), .int (nI 1)] (uC M r σ) lf (fTellC σ tc 1) (uC M r σ) lf 0 0 := by
  refine CI_of (lv := [(0, .ref _), (1, .int _)]) G (by decide) (Nat.le_of_ble_eq_true rfl) rfl (fun p e s m args below meth c F hr => ?_)
  have F : Fx p l s m args meth c cX2_tellCount 2 RX2 X := F
  refine v_iload_n F dX2_tellCount_0 rfl 1 rfl ?_
  refine v_tableIn F (tgt := 53) dX2_tellCount_1 (by decide) (by decide) rfl (by decide) ?_
  refine v_aload_n F dX2_tellCount_53 rfl 0 rfl ?_
  refine v_get F (id_R hr0 (by decide) (by decide)) (heR hr0) rfl uw_X2 2 (by decide) rfl rfl wf_X2_25 dX2_tellCount_54 ?_
  exact v_iret F hr dX2_tellCount_57 rfl rfl rfl
set_option maxHeartbeats 4000000 in
set_option maxRecDepth 100000 in
theorem c_X2_tellCount_2 {X : Cx} {l : Launch} (G : Gx X l) {M : Mem} {lf : Lf} {r : Nat} (hr0 : r < 2) {σ : Sg} {jc tc : Nat} {ln : Nat → Nat} (hS : Shp σ jc tc ln)  : CI X l yX2_tellCount (wsc yX2_tellCount cX2_tellCount 2 (some .int)) rm_X2_tellCount [.ref (X.2.1 r 0 0), .int (nI 2)] (uC M r σ) lf (fTellC σ tc 2) (uC M r σ) lf 0 0 := by
  refine CI_of (lv := [(0, .ref _), (1, .int _)]) G (by decide) (Nat.le_of_ble_eq_true rfl) rfl (fun p e s m args below meth c F hr => ?_)
  have F : Fx p l s m args meth c cX2_tellCount 2 RX2 X := F
  refine v_iload_n F dX2_tellCount_0 rfl 1 rfl ?_
  refine v_tableIn F (tgt := 58) dX2_tellCount_1 (by decide) (by decide) rfl (by decide) ?_
  refine v_aload_n F dX2_tellCount_58 rfl 0 rfl ?_
  refine v_get F (id_R hr0 (by decide) (by decide)) (heR hr0) rfl uw_X2 3 (by decide) rfl rfl wf_X2_29 dX2_tellCount_59 ?_
  exact v_iret F hr dX2_tellCount_62 rfl rfl rfl
set_option maxHeartbeats 4000000 in
set_option maxRecDepth 100000 in
theorem c_X2_tellCount_3 {X : Cx} {l : Launch} (G : Gx X l) {M : Mem} {lf : Lf} {r : Nat} (hr0 : r < 2) {σ : Sg} {jc tc : Nat} {ln : Nat → Nat} (hS : Shp σ jc tc ln)  : CI X l yX2_tellCount (wsc yX2_tellCount cX2_tellCount 2 (some .int)) rm_X2_tellCount [.ref (X.2.1 r 0 0), .int (nI 3)] (uC M r σ) lf (fTellC σ tc 3) (uC M r σ) lf 0 0 := by
  refine CI_of (lv := [(0, .ref _), (1, .int _)]) G (by decide) (Nat.le_of_ble_eq_true rfl) rfl (fun p e s m args below meth c F hr => ?_)
  have F : Fx p l s m args meth c cX2_tellCount 2 RX2 X := F
  refine v_iload_n F dX2_tellCount_0 rfl 1 rfl ?_
  refine v_tableIn F (tgt := 63) dX2_tellCount_1 (by decide) (by decide) rfl (by decide) ?_
  refine v_aload_n F dX2_tellCount_63 rfl 0 rfl ?_
  refine v_iconst F (v := 1) dX2_tellCount_64 (by decide) ?_
  refine v_callVi F (As := [_]) (rest := []) rfl (c_X2_thingsIn G hr0 hS _) (Rv_R hr0) wm_X2_139 rfl ⟨rfl, rfl, Nat.le_of_ble_eq_true rfl, Nat.le_of_ble_eq_true rfl, Nat.le_of_ble_eq_true rfl, Nat.le_of_ble_eq_true rfl, Nat.le_of_ble_eq_true rfl⟩ dX2_tellCount_65 ?_
  exact v_iret F hr dX2_tellCount_68 rfl rfl rfl
set_option maxHeartbeats 4000000 in
set_option maxRecDepth 100000 in
theorem c_X2_tellCount_4 {X : Cx} {l : Launch} (G : Gx X l) {M : Mem} {lf : Lf} {r : Nat} (hr0 : r < 2) {σ : Sg} {jc tc : Nat} {ln : Nat → Nat} (hS : Shp σ jc tc ln)  : CI X l yX2_tellCount (wsc yX2_tellCount cX2_tellCount 2 (some .int)) rm_X2_tellCount [.ref (X.2.1 r 0 0), .int (nI 4)] (uC M r σ) lf (fTellC σ tc 4) (uC M r σ) lf 0 0 := by
  refine CI_of (lv := [(0, .ref _), (1, .int _)]) G (by decide) (Nat.le_of_ble_eq_true rfl) rfl (fun p e s m args below meth c F hr => ?_)
  have F : Fx p l s m args meth c cX2_tellCount 2 RX2 X := F
  refine v_iload_n F dX2_tellCount_0 rfl 1 rfl ?_
  refine v_tableIn F (tgt := 69) dX2_tellCount_1 (by decide) (by decide) rfl (by decide) ?_
  refine v_aload_n F dX2_tellCount_69 rfl 0 rfl ?_
  refine v_iconst F (v := 2) dX2_tellCount_70 (by decide) ?_
  refine v_callVi F (As := [_]) (rest := []) rfl (c_X2_thingsIn G hr0 hS _) (Rv_R hr0) wm_X2_139 rfl ⟨rfl, rfl, Nat.le_of_ble_eq_true rfl, Nat.le_of_ble_eq_true rfl, Nat.le_of_ble_eq_true rfl, Nat.le_of_ble_eq_true rfl, Nat.le_of_ble_eq_true rfl⟩ dX2_tellCount_71 ?_
  exact v_iret F hr dX2_tellCount_74 rfl rfl rfl
set_option maxHeartbeats 4000000 in
set_option maxRecDepth 100000 in
theorem c_X2_tellCount_5 {X : Cx} {l : Launch} (G : Gx X l) {M : Mem} {lf : Lf} {r : Nat} (hr0 : r < 2) {σ : Sg} {jc tc : Nat} {ln : Nat → Nat} (hS : Shp σ jc tc ln)  : CI X l yX2_tellCount (wsc yX2_tellCount cX2_tellCount 2 (some .int)) rm_X2_tellCount [.ref (X.2.1 r 0 0), .int (nI 5)] (uC M r σ) lf (fTellC σ tc 5) (uC M r σ) lf 0 0 := by
  refine CI_of (lv := [(0, .ref _), (1, .int _)]) G (by decide) (Nat.le_of_ble_eq_true rfl) rfl (fun p e s m args below meth c F hr => ?_)
  have F : Fx p l s m args meth c cX2_tellCount 2 RX2 X := F
  refine v_iload_n F dX2_tellCount_0 rfl 1 rfl ?_
  refine v_tableIn F (tgt := 75) dX2_tellCount_1 (by decide) (by decide) rfl (by decide) ?_
  refine v_aload_n F dX2_tellCount_75 rfl 0 rfl ?_
  refine v_iconst F (v := 0) dX2_tellCount_76 (by decide) ?_
  refine v_callVi F (As := [_]) (rest := []) rfl (c_X2_thingsIn G hr0 hS _) (Rv_R hr0) wm_X2_139 rfl ⟨rfl, rfl, Nat.le_of_ble_eq_true rfl, Nat.le_of_ble_eq_true rfl, Nat.le_of_ble_eq_true rfl, Nat.le_of_ble_eq_true rfl, Nat.le_of_ble_eq_true rfl⟩ dX2_tellCount_77 ?_
  exact v_iret F hr dX2_tellCount_80 rfl rfl rfl
set_option maxHeartbeats 4000000 in
set_option maxRecDepth 100000 in
theorem c_X2_tellCount_6 {X : Cx} {l : Launch} (G : Gx X l) {M : Mem} {lf : Lf} {r : Nat} (hr0 : r < 2) {σ : Sg} {jc tc : Nat} {ln : Nat → Nat} (hS : Shp σ jc tc ln)  : CI X l yX2_tellCount (wsc yX2_tellCount cX2_tellCount 2 (some .int)) rm_X2_tellCount [.ref (X.2.1 r 0 0), .int (nI 6)] (uC M r σ) lf (fTellC σ tc 6) (uC M r σ) lf 0 0 := by
  refine CI_of (lv := [(0, .ref _), (1, .int _)]) G (by decide) (Nat.le_of_ble_eq_true rfl) rfl (fun p e s m args below meth c F hr => ?_)
  have F : Fx p l s m args meth c cX2_tellCount 2 RX2 X := F
  refine v_iload_n F dX2_tellCount_0 rfl 1 rfl ?_
  refine v_tableIn F (tgt := 81) dX2_tellCount_1 (by decide) (by decide) rfl (by decide) ?_
  refine v_aload_n F dX2_tellCount_81 rfl 0 rfl ?_
  refine v_iconst F (v := 3) dX2_tellCount_82 (by decide) ?_
  refine v_callVi F (As := [_]) (rest := []) rfl (c_X2_thingsIn G hr0 hS _) (Rv_R hr0) wm_X2_139 rfl ⟨rfl, rfl, Nat.le_of_ble_eq_true rfl, Nat.le_of_ble_eq_true rfl, Nat.le_of_ble_eq_true rfl, Nat.le_of_ble_eq_true rfl, Nat.le_of_ble_eq_true rfl⟩ dX2_tellCount_83 ?_
  exact v_iret F hr dX2_tellCount_86 rfl rfl rfl
set_option maxHeartbeats 4000000 in
set_option maxRecDepth 100000 in
theorem c_X2_tellCount_7 {X : Cx} {l : Launch} (G : Gx X l) {M : Mem} {lf : Lf} {r : Nat} (hr0 : r < 2) {σ : Sg} {jc tc : Nat} {ln : Nat → Nat} (hS : Shp σ jc tc ln)  : CI X l yX2_tellCount (wsc yX2_tellCount cX2_tellCount 2 (some .int)) rm_X2_tellCount [.ref (X.2.1 r 0 0), .int (nI 7)] (uC M r σ) lf (fTellC σ tc 7) (uC M r σ) lf 0 0 := by
  refine CI_of (lv := [(0, .ref _), (1, .int _)]) G (by decide) (Nat.le_of_ble_eq_true rfl) rfl (fun p e s m args below meth c F hr => ?_)
  have F : Fx p l s m args meth c cX2_tellCount 2 RX2 X := F
  refine v_iload_n F dX2_tellCount_0 rfl 1 rfl ?_
  refine v_tableIn F (tgt := 87) dX2_tellCount_1 (by decide) (by decide) rfl (by decide) ?_
  refine v_aload_n F dX2_tellCount_87 rfl 0 rfl ?_
  refine v_callVi F (As := []) (rest := []) rfl (c_X2_allFell G hr0 hS) (Rv_R hr0) wm_X2_142 rfl ⟨rfl, rfl, Nat.le_of_ble_eq_true rfl, Nat.le_of_ble_eq_true rfl, Nat.le_of_ble_eq_true rfl, Nat.le_of_ble_eq_true rfl, Nat.le_of_ble_eq_true rfl⟩ dX2_tellCount_88 ?_
  exact v_iret F hr dX2_tellCount_91 rfl rfl rfl
set_option maxHeartbeats 4000000 in
set_option maxRecDepth 100000 in
theorem c_X2_tellCount_8 {X : Cx} {l : Launch} (G : Gx X l) {M : Mem} {lf : Lf} {r : Nat} (hr0 : r < 2) {σ : Sg} {jc tc : Nat} {ln : Nat → Nat} (hS : Shp σ jc tc ln)  : CI X l yX2_tellCount (wsc yX2_tellCount cX2_tellCount 2 (some .int)) rm_X2_tellCount [.ref (X.2.1 r 0 0), .int (nI 8)] (uC M r σ) lf (fTellC σ tc 8) (uC M r σ) lf 0 0 := by
  refine CI_of (lv := [(0, .ref _), (1, .int _)]) G (by decide) (Nat.le_of_ble_eq_true rfl) rfl (fun p e s m args below meth c F hr => ?_)
  have F : Fx p l s m args meth c cX2_tellCount 2 RX2 X := F
  refine v_iload_n F dX2_tellCount_0 rfl 1 rfl ?_
  refine v_tableOut F (tgt := 92) dX2_tellCount_1 (Or.inr (by decide)) (by decide) ?_
  refine v_aload_n F dX2_tellCount_92 rfl 0 rfl ?_
  refine v_callVi F (As := []) (rest := []) rfl (c_X2_allThrown G hr0 hS) (Rv_R hr0) wm_X2_145 rfl ⟨rfl, rfl, Nat.le_of_ble_eq_true rfl, Nat.le_of_ble_eq_true rfl, Nat.le_of_ble_eq_true rfl, Nat.le_of_ble_eq_true rfl, Nat.le_of_ble_eq_true rfl⟩ dX2_tellCount_93 ?_
  exact v_iret F hr dX2_tellCount_96 rfl rfl rfl
theorem c_X2_tellThing {X : Cx} {l : Launch} (G : Gx X l) {M : Mem} {lf : Lf} {r : Nat} (hr0 : r < 2) {σ : Sg} {jc tc : Nat} {ln : Nat → Nat} (hS : Shp σ jc tc ln) {k : Nat} (hk : k < tc) : ∀ w : Nat, w < 7 → CI X l yX2_tellThing (wsc yX2_tellThing cX2_tellThing 4 (some .int)) rm_X2_tellThing [.ref (X.2.1 r 0 0), .int (nI k), .int (nI w)] (uC M r σ) lf (fTellT σ k w) (uC M r σ) lf 0 0
  | 0, _ => c_X2_tellThing_0 G hr0 hS hk
  | 1, _ => c_X2_tellThing_1 G hr0 hS hk
  | 2, _ => c_X2_tellThing_2 G hr0 hS hk
  | 3, _ => c_X2_tellThing_3 G hr0 hS hk
  | 4, _ => c_X2_tellThing_4 G hr0 hS hk
  | 5, _ => c_X2_tellThing_5 G hr0 hS hk
  | 6, _ => c_X2_tellThing_6 G hr0 hS hk
  | w + 7, h => absurd h (by omega)
theorem c_X2_tellJuggler {X : Cx} {l : Launch} (G : Gx X l) {M : Mem} {lf : Lf} {r : Nat} (hr0 : r < 2) {σ : Sg} {jc tc : Nat} {ln : Nat → Nat} (hS : Shp σ jc tc ln) {j : Nat} (hj : j < jc) : ∀ w : Nat, w < 7 → CI X l yX2_tellJuggler (wsc yX2_tellJuggler cX2_tellJuggler 4 (some .int)) rm_X2_tellJuggler [.ref (X.2.1 r 0 0), .int (nI j), .int (nI w)] (uC M r σ) lf (fTellJ σ tc j w) (uC M r σ) lf 0 0
  | 0, _ => c_X2_tellJuggler_0 G hr0 hS hj
  | 1, _ => c_X2_tellJuggler_1 G hr0 hS hj
  | 2, _ => c_X2_tellJuggler_2 G hr0 hS hj
  | 3, _ => c_X2_tellJuggler_3 G hr0 hS hj
  | 4, _ => c_X2_tellJuggler_4 G hr0 hS hj
  | 5, _ => c_X2_tellJuggler_5 G hr0 hS hj
  | 6, _ => c_X2_tellJuggler_6 G hr0 hS hj
  | w + 7, h => absurd h (by omega)
theorem c_X2_tellCount {X : Cx} {l : Launch} (G : Gx X l) {M : Mem} {lf : Lf} {r : Nat} (hr0 : r < 2) {σ : Sg} {jc tc : Nat} {ln : Nat → Nat} (hS : Shp σ jc tc ln) : ∀ w : Nat, w < 9 → CI X l yX2_tellCount (wsc yX2_tellCount cX2_tellCount 2 (some .int)) rm_X2_tellCount [.ref (X.2.1 r 0 0), .int (nI w)] (uC M r σ) lf (fTellC σ tc w) (uC M r σ) lf 0 0
  | 0, _ => c_X2_tellCount_0 G hr0 hS
  | 1, _ => c_X2_tellCount_1 G hr0 hS
  | 2, _ => c_X2_tellCount_2 G hr0 hS
  | 3, _ => c_X2_tellCount_3 G hr0 hS
  | 4, _ => c_X2_tellCount_4 G hr0 hS
  | 5, _ => c_X2_tellCount_5 G hr0 hS
  | 6, _ => c_X2_tellCount_6 G hr0 hS
  | 7, _ => c_X2_tellCount_7 G hr0 hS
  | 8, _ => c_X2_tellCount_8 G hr0 hS
  | w + 9, h => absurd h (by omega)
set_option maxHeartbeats 4000000 in
set_option maxRecDepth 100000 in
theorem L1_X2_copyFrom (F : Fx p l s m args meth c cX2_copyFrom 3 RX2 X) (G : Gx X l) {r t : Nat} (hr0 : r < 2) (ht0 : t < 2) (htr : t ≠ r) {σ : Sg} {jc tc : Nat} {ln : Nat → Nat} (hS : Shp (M t) jc tc ln) (hσ : σ 0 0 2 = nI jc) (K : V p l e rm_X2_copyFrom s m args below meth c Q X 3 ex (uC M r (cpJL (M t) ln σ jc)) lf 0 0 55 [(2, .int (nI jc)), (0, .ref (X.2.1 r 0 0)), (1, .ref (X.2.1 t 0 0))] []) : ∀ (k q : Nat) (τ : Sg), k + q = jc → τ = cpJL (M t) ln σ q → V p l e rm_X2_copyFrom s m args below meth c Q X 3 ex (uC M r τ) lf 0 0 26 [(2, .int (nI q)), (0, .ref (X.2.1 r 0 0)), (1, .ref (X.2.1 t 0 0))] [] := by
  have h4 := hS.1
  intro k
  induction k with
  | zero =>
    intro q τ hq hτ
    obtain rfl : q = jc := by omega
    have hJ : τ 0 0 2 = nI q := by rw [hτ]; exact (cpJL_k (Or.inl rfl) q).trans hσ
    refine v_iload_n F dX2_copyFrom_26 rfl 0 rfl ?_
    refine v_aload_n F dX2_copyFrom_27 rfl 1 rfl ?_
    refine v_get F (id_R hr0 (by decide) (by decide)) (heR hr0) rfl uw_X2 2 (by decide) rfl rfl wf_X2_25 dX2_copyFrom_28 ?_
    refine v_topr (nI q) hJ ?_
    refine v_icmp_ge F (tgt := 55) dX2_copyFrom_31 (by decide) (fun c31 => ?_) (fun h => absurd (nI_le (Nat.le_refl _) (by omega)) h)
    subst hτ
    exact K
  | succ k ih =>
    intro q τ hq hτ
    have hJ : τ 0 0 2 = nI jc := by rw [hτ]; exact (cpJL_k (Or.inl rfl) q).trans hσ
    have hl := hS.2.2.2.2 q (by omega)
    refine v_iload_n F dX2_copyFrom_26 rfl 0 rfl ?_
    refine v_aload_n F dX2_copyFrom_27 rfl 1 rfl ?_
    refine v_get F (id_R hr0 (by decide) (by decide)) (heR hr0) rfl uw_X2 2 (by decide) rfl rfl wf_X2_25 dX2_copyFrom_28 ?_
    refine v_topr (nI jc) hJ ?_
    refine v_icmp_ge F (tgt := 55) dX2_copyFrom_31 (by decide) (fun h => absurd h (nI_ge (by omega) (by omega))) (fun c31 => ?_)
    refine v_aload_n F dX2_copyFrom_34 rfl 1 rfl ?_
    refine v_get F (id_R hr0 (by decide) (by decide)) (heR hr0) rfl uw_X2 0 (by decide) rfl rfl wf_X2_11 dX2_copyFrom_35 ?_
    refine v_iload_n F dX2_copyFrom_38 rfl 0 rfl ?_
    refine v_aaldJ F hr0 (q) (Ix_nI (by omega)) dX2_copyFrom_39 ?_
    refine v_aload_n F dX2_copyFrom_40 rfl 2 rfl ?_
    refine v_get F (id_R ht0 (by decide) (by decide)) ((heO htr).trans ((celD_R ht0))) rfl uw_X2 0 (by decide) rfl rfl wf_X2_11 dX2_copyFrom_41 ?_
    refine v_iload_n F dX2_copyFrom_44 rfl 0 rfl ?_
    refine v_aaldJ F ht0 (q) (Ix_nI (by omega)) dX2_copyFrom_45 ?_
    refine v_callNv F (As := [_]) (rest := []) rfl (c_X0_copyFrom G hr0 ht0 htr (show q < 4 by omega) hl.2.1 hl.2.2) (Rv_J hr0 (show _ < 4 by omega)) wm_X2_35 rfl ⟨rfl, rfl, Nat.le_of_ble_eq_true rfl, Nat.le_of_ble_eq_true rfl, Nat.le_of_ble_eq_true rfl, Nat.le_of_ble_eq_true rfl, Nat.le_of_ble_eq_true rfl⟩ dX2_copyFrom_46 ?_
    refine v_iinc F (k := 0) (nI (q + 1)) dX2_copyFrom_49 rfl (iinc_nI q) (by decide) (lv' := [(2, .int _), (0, .ref _), (1, .ref _)]) rfl ?_
    refine v_goto F (tgt := 26) dX2_copyFrom_52 (by decide) ?_
    refine ih (q + 1) _ (by omega) ?_
    show _ = fCopyJ (cpJL (M t) ln σ q) (M t) q (ln q)
    rw [hτ]
set_option maxHeartbeats 4000000 in
set_option maxRecDepth 100000 in
theorem L2_X2_copyFrom (F : Fx p l s m args meth c cX2_copyFrom 3 RX2 X) (G : Gx X l) {r t : Nat} (hr0 : r < 2) (ht0 : t < 2) (htr : t ≠ r) {σ : Sg} {tc : Nat} (h12 : tc ≤ 12) (hσ : σ 0 0 3 = nI tc) (K : V p l e rm_X2_copyFrom s m args below meth c Q X 3 ex (uC M r (cpTL (M t) σ tc)) lf 0 0 86 [(2, .int (nI tc)), (0, .ref (X.2.1 r 0 0)), (1, .ref (X.2.1 t 0 0))] []) : ∀ (k q : Nat) (τ : Sg), k + q = tc → τ = cpTL (M t) σ q → V p l e rm_X2_copyFrom s m args below meth c Q X 3 ex (uC M r τ) lf 0 0 57 [(2, .int (nI q)), (0, .ref (X.2.1 r 0 0)), (1, .ref (X.2.1 t 0 0))] [] := by
  intro k
  induction k with
  | zero =>
    intro q τ hq hτ
    obtain rfl : q = tc := by omega
    have hJ : τ 0 0 3 = nI q := by rw [hτ]; exact (cpTL_k (by decide) q).trans hσ
    refine v_iload_n F dX2_copyFrom_57 rfl 0 rfl ?_
    refine v_aload_n F dX2_copyFrom_58 rfl 1 rfl ?_
    refine v_get F (id_R hr0 (by decide) (by decide)) (heR hr0) rfl uw_X2 3 (by decide) rfl rfl wf_X2_29 dX2_copyFrom_59 ?_
    refine v_topr (nI q) hJ ?_
    refine v_icmp_ge F (tgt := 86) dX2_copyFrom_62 (by decide) (fun c62 => ?_) (fun h => absurd (nI_le (Nat.le_refl _) (by omega)) h)
    subst hτ
    exact K
  | succ k ih =>
    intro q τ hq hτ
    have hJ : τ 0 0 3 = nI tc := by rw [hτ]; exact (cpTL_k (by decide) q).trans hσ
    refine v_iload_n F dX2_copyFrom_57 rfl 0 rfl ?_
    refine v_aload_n F dX2_copyFrom_58 rfl 1 rfl ?_
    refine v_get F (id_R hr0 (by decide) (by decide)) (heR hr0) rfl uw_X2 3 (by decide) rfl rfl wf_X2_29 dX2_copyFrom_59 ?_
    refine v_topr (nI tc) hJ ?_
    refine v_icmp_ge F (tgt := 86) dX2_copyFrom_62 (by decide) (fun h => absurd h (nI_ge (by omega) (by omega))) (fun c62 => ?_)
    refine v_aload_n F dX2_copyFrom_65 rfl 1 rfl ?_
    refine v_get F (id_R hr0 (by decide) (by decide)) (heR hr0) rfl uw_X2 1 (by decide) rfl rfl wf_X2_20 dX2_copyFrom_66 ?_
    refine v_iload_n F dX2_copyFrom_69 rfl 0 rfl ?_
    refine v_aaldT F hr0 (q) (Ix_nI (by omega)) dX2_copyFrom_70 ?_
    refine v_aload_n F dX2_copyFrom_71 rfl 2 rfl ?_
    refine v_get F (id_R ht0 (by decide) (by decide)) ((heO htr).trans ((celD_R ht0))) rfl uw_X2 1 (by decide) rfl rfl wf_X2_20 dX2_copyFrom_72 ?_
    refine v_iload_n F dX2_copyFrom_75 rfl 0 rfl ?_
    refine v_aaldT F ht0 (q) (Ix_nI (by omega)) dX2_copyFrom_76 ?_
    refine v_callNv F (As := [_]) (rest := []) rfl (c_X3_copyFrom G hr0 ht0 htr (show q < 12 by omega)) (Rv_T hr0 (show _ < 12 by omega)) wm_X2_39 rfl ⟨rfl, rfl, Nat.le_of_ble_eq_true rfl, Nat.le_of_ble_eq_true rfl, Nat.le_of_ble_eq_true rfl, Nat.le_of_ble_eq_true rfl, Nat.le_of_ble_eq_true rfl⟩ dX2_copyFrom_77 ?_
    refine v_iinc F (k := 0) (nI (q + 1)) dX2_copyFrom_80 rfl (iinc_nI q) (by decide) (lv' := [(2, .int _), (0, .ref _), (1, .ref _)]) rfl ?_
    refine v_goto F (tgt := 57) dX2_copyFrom_83 (by decide) ?_
    refine ih (q + 1) _ (by omega) ?_
    show _ = fCopyT (cpTL (M t) σ q) (M t) q
    rw [hτ]
set_option maxHeartbeats 4000000 in
set_option maxRecDepth 100000 in
theorem c_X2_copyFrom {X : Cx} {l : Launch} (G : Gx X l) {M : Mem} {lf : Lf} {r t : Nat} (hr0 : r < 2) (ht0 : t < 2) (htr : t ≠ r) {σ : Sg} {jc tc : Nat} {ln : Nat → Nat} (hS : Shp (M t) jc tc ln) : CV X l yX2_copyFrom (wsc yX2_copyFrom cX2_copyFrom 3 none) rm_X2_copyFrom [.ref (X.2.1 r 0 0), .ref (X.2.1 t 0 0)] (uC M r σ) lf (uC M r (fCopyR σ (M t) jc tc ln)) lf 0 0 := by
  refine CV_of (lv := [(0, .ref _), (1, .ref _)]) G (by decide) (Nat.le_of_ble_eq_true rfl) rfl (fun p e s m args below meth c F hr => ?_)
  have F : Fx p l s m args meth c cX2_copyFrom 3 RX2 X := F
  refine v_aload_n F dX2_copyFrom_0 rfl 0 rfl ?_
  refine v_aload_n F dX2_copyFrom_1 rfl 1 rfl ?_
  refine v_get F (id_R ht0 (by decide) (by decide)) ((heO htr).trans ((celD_R ht0))) rfl uw_X2 2 (by decide) rfl rfl wf_X2_25 dX2_copyFrom_2 ?_
  refine v_putC F tyX2 tyX2_ok nmX2 (id_R hr0 (by decide) (by decide)) (celD_R hr0) rfl uw_X2 2 (by decide) rfl rfl (by decide +kernel) (celD_R hr0) (Nat.le_of_ble_eq_true rfl) wf_X2_25 dX2_copyFrom_5 ?_
  refine v_aload_n F dX2_copyFrom_8 rfl 0 rfl ?_
  refine v_aload_n F dX2_copyFrom_9 rfl 1 rfl ?_
  refine v_get F (id_R ht0 (by decide) (by decide)) ((heO htr).trans ((celD_R ht0))) rfl uw_X2 3 (by decide) rfl rfl wf_X2_29 dX2_copyFrom_10 ?_
  refine v_putC F tyX2 tyX2_ok nmX2 (id_R hr0 (by decide) (by decide)) (celD_R hr0) rfl uw_X2 3 (by decide) rfl rfl (by decide +kernel) (celD_R hr0) (Nat.le_of_ble_eq_true rfl) wf_X2_29 dX2_copyFrom_13 ?_
  refine v_aload_n F dX2_copyFrom_16 rfl 0 rfl ?_
  refine v_aload_n F dX2_copyFrom_17 rfl 1 rfl ?_
  refine v_get F (id_R ht0 (by decide) (by decide)) ((heO htr).trans ((celD_R ht0))) rfl uw_X2 4 (by decide) rfl rfl wf_X2_32 dX2_copyFrom_18 ?_
  refine v_putC F tyX2 tyX2_ok nmX2 (id_R hr0 (by decide) (by decide)) (celD_R hr0) rfl uw_X2 4 (by decide) rfl rfl (by decide +kernel) (celD_R hr0) (Nat.le_of_ble_eq_true rfl) wf_X2_32 dX2_copyFrom_21 ?_
  refine v_gen (fun τ0 h0 => ?_)
  refine v_iconst F (v := nI 0) dX2_copyFrom_24 (by decide) ?_
  refine v_istore_n F dX2_copyFrom_25 rfl (by decide) (lv' := [(2, .int _), (0, .ref _), (1, .ref _)]) rfl ?_
  refine L1_X2_copyFrom F G hr0 ht0 htr hS (by rw [h0, u3_ne (by decide), u3_ne (by decide), u3_at]; exact hS.2.2.1) ?_ jc 0 _ (Nat.add_zero jc) rfl
  · skip
    refine v_gen (fun τ1 h1 => ?_)
    refine v_iconst F (v := nI 0) dX2_copyFrom_55 (by decide) ?_
    refine v_istore_n F dX2_copyFrom_56 rfl (by decide) (lv' := [(2, .int _), (0, .ref _), (1, .ref _)]) rfl ?_
    refine L2_X2_copyFrom F G hr0 ht0 htr hS.2.1 (by rw [h1]; refine (cpJL_k (Or.inl rfl) jc).trans ?_; rw [h0, u3_ne (by decide), u3_at]; exact hS.2.2.2.1) ?_ tc 0 _ (Nat.add_zero tc) rfl
    · skip
      refine v_gen (fun τ2 h2 => ?_)
      refine v_vret F hr dX2_copyFrom_86 ?_ rfl
      rw [h2, h1, h0]
      rfl
end RS
end
section
/-! ===== what the class's public methods do ===== -/
theorem fCopyJ_3 {σ ρ : Sg} {i n a : Nat} : fCopyJ σ ρ i n 3 a 2 = if a = i then ρ 3 i 2 else σ 3 a 2 := by
  unfold fCopyJ fCopyP
  rw [u3_ne (by omega), u3_ne (by omega), u3_ne (by omega), u3_ne (by omega), u3_ne (by omega), cpPL_k (by omega) (by omega), u3_eq]
  by_cases h : a = i
  · rw [if_pos h, if_pos ⟨rfl, h, rfl⟩]
  · rw [if_neg h, if_neg (fun z => h z.2.1)]
theorem cpJL_3 {ρ σ : Sg} {ln : Nat → Nat} {i : Nat} : ∀ n, i < n → cpJL ρ ln σ n 3 i 2 = ρ 3 i 2
  | 0, h => absurd h (Nat.not_lt_zero i)
  | n + 1, h => by
    show fCopyJ (cpJL ρ ln σ n) ρ n (ln n) 3 i 2 = ρ 3 i 2
    rw [fCopyJ_3]
    by_cases hi : i = n
    · rw [if_pos hi, hi]
    · rw [if_neg hi]
      exact cpJL_3 n (by omega)
theorem fCopyR_0 {σ ρ : Sg} {jc tc c : Nat} {ln : Nat → Nat} (h : c = 2 ∨ c = 3 ∨ c = 4) : fCopyR σ ρ jc tc ln 0 0 c = ρ 0 0 c := by
  unfold fCopyR
  rw [cpTL_k (by decide), cpJL_k (Or.inl rfl), u3_eq, u3_eq, u3_eq]
  rcases h with rfl | rfl | rfl <;> rfl
theorem Shp_copy {σ ρ : Sg} {jc tc : Nat} {ln : Nat → Nat} (h : Shp ρ jc tc ln) : Shp (fCopyR σ ρ jc tc ln) jc tc ln := ⟨h.1, h.2.1, (fCopyR_0 (Or.inl rfl)).trans h.2.2.1, (fCopyR_0 (Or.inr (Or.inl rfl))).trans h.2.2.2.1, fun i hi => ⟨(h.2.2.2.2 i hi).1, (h.2.2.2.2 i hi).2.1, by
  unfold fCopyR
  rw [cpTL_k (by decide), cpJL_3 jc hi]
  exact (h.2.2.2.2 i hi).2.2⟩⟩
theorem copy_b {σ ρ : Sg} {jc tc b : Nat} {ln : Nat → Nat} (h : ρ 0 0 4 = nI b) : fCopyR σ ρ jc tc ln 0 0 4 = nI b := (fCopyR_0 (Or.inr (Or.inr rfl))).trans h
theorem Shp_u3 {σ : Sg} {jc tc k i j : Nat} {v : Int32} {ln : Nat → Nat} (h : Shp σ jc tc ln) (hk : k ≠ 0) (hk3 : k ≠ 3) : Shp (u3 σ k i j v) jc tc ln := Shp_of h (fun a b c z => u3_ne (by omega))
theorem hasJ_1 {σ : Sg} {jc j : Nat} (hJ : σ 0 0 2 = nI jc) (h : j < jc) (h4 : jc ≤ 4) : fHasJ σ (nI j) = 1 := by
  unfold fHasJ
  rw [hJ, if_pos ⟨nI_pos (by omega), nI_ge h (by omega)⟩]
theorem hasT_1 {σ : Sg} {tc k : Nat} (hT : σ 0 0 3 = nI tc) (h : k < tc) (h4 : tc ≤ 12) : fHasT σ (nI k) = 1 := by
  unfold fHasT
  rw [hT, if_pos ⟨nI_pos (by omega), nI_ge h (by omega)⟩]
def p10L (x : Int32) : Nat → Int32
  | 0 => x
  | n + 1 => p10L x n * 10
/-- the first of 1 to 200 whose number is above 0 -/
def flF (f : Nat → Int32) : Nat → Nat → Int32
  | 0, _ => -1
  | k + 1, q => if f q ≤ 0 then flF f k (q + 1) else nI q
def flN (f : Nat → Int32) : Nat → Nat → Nat
  | 0, q => q - 1
  | k + 1, q => if f q ≤ 0 then flN f k (q + 1) else q
def fFall1 (σ : Sg) (b jc tc : Nat) (ln : Nat → Nat) (q : Nat) : Int32 := fBeatR (plL b jc tc ln σ (q - 1)) (b + (q - 1)) tc
/-- a trial with one height: what falls, and the trial's ring behind it -/
def fWith (σ ρ : Sg) (b jc tc : Nat) (ln : Nat → Nat) (n j p h : Nat) : Sg := u3 (fCopyR ρ σ jc tc ln) 4 j p (nI h)
def adI (σ : Sg) (b jc tc : Nat) (ln : Nat → Nat) (n j p : Nat) : Nat → Nat → Int32 → Int32 → Sg → Int32 × Int32 × Sg
  | 0, _, fw, ad, ρ => (fw, ad, ρ)
  | k + 1, h, fw, ad, ρ => if fw ≤ 0 then (fw, ad, ρ) else if plR b jc tc ln (fWith σ ρ b jc tc ln n j p h) n < fw then adI σ b jc tc ln n j p k (h + 1) (plR b jc tc ln (fWith σ ρ b jc tc ln n j p h) n) (10 * nI p + nI h) (plL b jc tc ln (fWith σ ρ b jc tc ln n j p h) n) else adI σ b jc tc ln n j p k (h + 1) fw ad (plL b jc tc ln (fWith σ ρ b jc tc ln n j p h) n)
def adO (σ : Sg) (b jc tc : Nat) (ln : Nat → Nat) (n j : Nat) : Nat → Nat → Int32 → Int32 → Sg → Int32 × Sg
  | 0, _, _, ad, ρ => (ad, ρ)
  | k + 1, p, fw, ad, ρ => adO σ b jc tc ln n j k (p + 1) (adI σ b jc tc ln n j p 10 0 fw ad ρ).1 (adI σ b jc tc ln n j p 10 0 fw ad ρ).2.1 (adI σ b jc tc ln n j p 10 0 fw ad ρ).2.2
def dgL (f : Nat → Int32) (d : Int64) : Nat → Int64
  | 0 => d
  | n + 1 => dgL f d n * 31 + (f n).toInt64
def dgJ (σ : Sg) (tc : Nat) (ln : Nat → Nat) (d : Int64) : Nat → Int64
  | 0 => d
  | n + 1 => adL σ n (dgL (fTellJ σ tc n) (dgJ σ tc ln d n) 7) (ln n)
def dgT (σ : Sg) (d : Int64) : Nat → Int64
  | 0 => d
  | n + 1 => dgL (fTellT σ n) (dgT σ d n) 7
def fDigest (σ : Sg) (jc tc : Nat) (ln : Nat → Nat) : Int64 := dgT σ (dgJ σ tc ln (dgL (fTellC σ tc) 953 9) jc) tc
theorem exS_a : ∀ w, w ∈ vx_atS RX4 23 "java/lang/IllegalArgumentException" exN → w ∈ exL := fun _ h => List.mem_append_left _ h
theorem exS_s : ∀ w, w ∈ vx_atS RX4 34 "java/lang/IllegalStateException" exN → w ∈ exL := fun _ h => List.mem_append_right _ (List.mem_append_left _ h)
theorem exS_i : ∀ w, w ∈ vx_atS RX4 100 "java/lang/IndexOutOfBoundsException" exN → w ∈ exL := fun _ h => List.mem_append_right _ (List.mem_append_right _ h)
end
section
/-! ===== contracts of the class ===== -/
section PL
variable {X : Cx} {l : Launch} {y : MethodName} {ws : List Cond} {rm : Room} {av : List Value} {M M' : Mem} {lf lf' : Lf} {mc ms : Nat} {r : Nat}
theorem CI_pl {x : Int32} (h : CI X l y ws rm av (uC M r (M r)) lf x M' lf' mc ms) : CI X l y ws rm av M lf x M' lf' mc ms := by rw [uC_self] at h; exact h
theorem CI_q {x : Int32} (h : CI X l y ws rm av (uC M r (M r)) lf x (uC M r (M r)) lf' mc ms) : CI X l y ws rm av M lf x M lf' mc ms := by rw [uC_self] at h; exact h
theorem CL_q {x : Int64} (h : CL X l y ws rm av (uC M r (M r)) lf x (uC M r (M r)) lf' mc ms) : CL X l y ws rm av M lf x M lf' mc ms := by rw [uC_self] at h; exact h
theorem CV_pl (h : CV X l y ws rm av (uC M r (M r)) lf M' lf' mc ms) : CV X l y ws rm av M lf M' lf' mc ms := by rw [uC_self] at h; exact h
theorem CV_q (h : CV X l y ws rm av (uC M r (M r)) lf (uC M r (M r)) lf' mc ms) : CV X l y ws rm av M lf M lf' mc ms := by rw [uC_self] at h; exact h
end PL
theorem fHasJ_out {σ : Sg} {x : Int32} {jc : Nat} (hJ : σ 0 0 2 = nI jc) (h : x < 0 ∨ nI jc ≤ x) : fHasJ σ x = 0 := by
  unfold fHasJ
  rw [hJ]
  exact if_neg (fun z => h.elim z.1 z.2)
theorem fHasT_out {σ : Sg} {x : Int32} {tc : Nat} (hJ : σ 0 0 3 = nI tc) (h : x < 0 ∨ nI tc ≤ x) : fHasT σ x = 0 := by
  unfold fHasT
  rw [hJ]
  exact if_neg (fun z => h.elim z.1 z.2)
theorem lt_of_nle {a b : Int32} (h : ¬ a ≤ b) : b < a := Int32.not_le.mp h
theorem le_of_nlt {a b : Int32} (h : ¬ a < b) : b ≤ a := Int32.not_lt.mp h
theorem nlt_le {a b : Int32} (h : a ≤ b) : ¬ b < a := Int32.not_lt.mpr h
theorem nle_lt {a b : Int32} (h : a < b) : ¬ b ≤ a := Int32.not_le.mpr h
theorem laL_01 (σ : Sg) (i n : Nat) : ∀ (k p : Nat) (a : Int32), laL σ i n k p a = 0 ∨ laL σ i n k p a = 1
  | 0, _, _ => Or.inr rfl
  | k + 1, p, a => by
    unfold laL
    split
    · exact laL_01 σ i n k _ _
    · exact Or.inl rfl
theorem fLands_z (σ : Sg) (i n : Nat) : narrow .boolean (.int (fLands σ i n)) = .int (fLands σ i n) := by
  unfold fLands
  rcases laL_01 σ i n n 0 0 with h | h <;> rw [h] <;> decide
abbrev rm_X4_testJuggler : Room := { frames := 1, cells := 0, slots := 0, locals := 21 }
abbrev rm_X4_testThing : Room := { frames := 1, cells := 0, slots := 0, locals := 21 }
abbrev rm_X4_testWhat : Room := { frames := 0, cells := 0, slots := 0, locals := 0 }
abbrev rm_X4_testBeats : Room := { frames := 0, cells := 0, slots := 0, locals := 0 }
set_option maxHeartbeats 4000000 in
set_option maxRecDepth 100000 in
theorem c_X4_testJuggler {X : Cx} {l : Launch} (G : Gx X l) {M : Mem} {lf : Lf} {jc tc : Nat} {ln : Nat → Nat} (hS : Shp (M 0) jc tc ln) {j : Nat} (hj : j < jc) : CV X l yX4_testJuggler (wsc yX4_testJuggler cX4_testJuggler 2 none) rm_X4_testJuggler [.ref (X.2.1 5 0 0), .int (nI j)] (M) lf (M) lf 0 0 := by
  refine CV_of (lv := [(0, .ref _), (1, .int _)]) G (by decide) (Nat.le_of_ble_eq_true rfl) rfl (fun p e s m args below meth c F hr => ?_)
  have F : Fx p l s m args meth c cX4_testJuggler 2 RX4 X := F
  have h4 := hS.1
  have h12 := hS.2.1
  refine v_aload_n F dX4_testJuggler_0 rfl 0 rfl ?_
  refine v_get F id_5 rfl rfl uw_X4 0 (by decide) rfl rfl wf_X4_10 dX4_testJuggler_1 ?_
  refine v_iload_n F dX4_testJuggler_4 rfl 1 rfl ?_
  refine v_callNi F (As := [_]) (rest := []) rfl (CI_q (c_X2_hasJuggler G (by decide) (nI j))) (Rv_R (by decide)) wm_X4_181 rfl ⟨rfl, rfl, Nat.le_of_ble_eq_true rfl, Nat.le_of_ble_eq_true rfl, Nat.le_of_ble_eq_true rfl, Nat.le_of_ble_eq_true rfl, Nat.le_of_ble_eq_true rfl⟩ dX4_testJuggler_5 ?_
  refine v_if_ne F (tgt := 21) dX4_testJuggler_8 (by decide) (fun c8 => ?_) (fun h => absurd h ((by rw [hasJ_1 hS.2.2.1 hj h4]; decide)))
  exact v_vret F hr dX4_testJuggler_21 rfl rfl
set_option maxHeartbeats 4000000 in
set_option maxRecDepth 100000 in
theorem c_X4_testThing {X : Cx} {l : Launch} (G : Gx X l) {M : Mem} {lf : Lf} {jc tc : Nat} {ln : Nat → Nat} (hS : Shp (M 0) jc tc ln) {k : Nat} (hk : k < tc) : CV X l yX4_testThing (wsc yX4_testThing cX4_testThing 2 none) rm_X4_testThing [.ref (X.2.1 5 0 0), .int (nI k)] (M) lf (M) lf 0 0 := by
  refine CV_of (lv := [(0, .ref _), (1, .int _)]) G (by decide) (Nat.le_of_ble_eq_true rfl) rfl (fun p e s m args below meth c F hr => ?_)
  have F : Fx p l s m args meth c cX4_testThing 2 RX4 X := F
  have h4 := hS.1
  have h12 := hS.2.1
  refine v_aload_n F dX4_testThing_0 rfl 0 rfl ?_
  refine v_get F id_5 rfl rfl uw_X4 0 (by decide) rfl rfl wf_X4_10 dX4_testThing_1 ?_
  refine v_iload_n F dX4_testThing_4 rfl 1 rfl ?_
  refine v_callNi F (As := [_]) (rest := []) rfl (CI_q (c_X2_hasThing G (by decide) (nI k))) (Rv_R (by decide)) wm_X4_189 rfl ⟨rfl, rfl, Nat.le_of_ble_eq_true rfl, Nat.le_of_ble_eq_true rfl, Nat.le_of_ble_eq_true rfl, Nat.le_of_ble_eq_true rfl, Nat.le_of_ble_eq_true rfl⟩ dX4_testThing_5 ?_
  refine v_if_ne F (tgt := 21) dX4_testThing_8 (by decide) (fun c8 => ?_) (fun h => absurd h ((by rw [hasT_1 hS.2.2.2.1 hk h12]; decide)))
  exact v_vret F hr dX4_testThing_21 rfl rfl
set_option maxHeartbeats 4000000 in
set_option maxRecDepth 100000 in
theorem c_X4_testWhat {X : Cx} {l : Launch} (G : Gx X l) {M : Mem} {lf : Lf} {q n : Nat} (hq : q < n) (hn : n < 2 ^ 31) : CV X l yX4_testWhat (wsc yX4_testWhat cX4_testWhat 2 none) rm_X4_testWhat [.int (nI q), .int (nI n)] (M) lf (M) lf 0 0 := by
  refine CV_of (lv := [(0, .int _), (1, .int _)]) G (by decide) (Nat.le_of_ble_eq_true rfl) rfl (fun p e s m args below meth c F hr => ?_)
  have F : Fx p l s m args meth c cX4_testWhat 2 RX4 X := F
  refine v_iload_n F dX4_testWhat_0 rfl 0 rfl ?_
  refine v_if_lt F (tgt := 9) dX4_testWhat_1 (by decide) (fun h => absurd h (nI_pos (by omega))) (fun c1 => ?_)
  refine v_iload_n F dX4_testWhat_4 rfl 0 rfl ?_
  refine v_iload_n F dX4_testWhat_5 rfl 1 rfl ?_
  refine v_icmp_lt F (tgt := 19) dX4_testWhat_6 (by decide) (fun c6 => ?_) (fun h => absurd (nI_lt hq hn) h)
  exact v_vret F hr dX4_testWhat_19 rfl rfl
set_option maxHeartbeats 4000000 in
set_option maxRecDepth 100000 in
theorem c_X4_testBeats {X : Cx} {l : Launch} (G : Gx X l) {M : Mem} {lf : Lf} {q n : Nat} (h1 : 1 ≤ q) (hq : q ≤ n) (hn : n < 2 ^ 31) : CV X l yX4_testBeats (wsc yX4_testBeats cX4_testBeats 2 none) rm_X4_testBeats [.int (nI q), .int (nI n)] (M) lf (M) lf 0 0 := by
  refine CV_of (lv := [(0, .int _), (1, .int _)]) G (by decide) (Nat.le_of_ble_eq_true rfl) rfl (fun p e s m args below meth c F hr => ?_)
  have F : Fx p l s m args meth c cX4_testBeats 2 RX4 X := F
  refine v_iload_n F dX4_testBeats_0 rfl 0 rfl ?_
  refine v_iconst F (v := nI 1) dX4_testBeats_1 (by decide) ?_
  refine v_icmp_lt F (tgt := 10) dX4_testBeats_2 (by decide) (fun h => absurd h (nI_nlt h1 (by omega))) (fun c2 => ?_)
  refine v_iload_n F dX4_testBeats_5 rfl 0 rfl ?_
  refine v_iload_n F dX4_testBeats_6 rfl 1 rfl ?_
  refine v_icmp_le F (tgt := 20) dX4_testBeats_7 (by decide) (fun c7 => ?_) (fun h => absurd (nI_le hq hn) h)
  exact v_vret F hr dX4_testBeats_20 rfl rfl
abbrev rm_X4_testPlace : Room := { frames := 2, cells := 0, slots := 0, locals := 42 }
set_option maxHeartbeats 4000000 in
set_option maxRecDepth 100000 in
theorem c_X4_testPlace {X : Cx} {l : Launch} (G : Gx X l) {M : Mem} {lf : Lf} {jc tc : Nat} {ln : Nat → Nat} (hS : Shp (M 0) jc tc ln) {j q : Nat} (hj : j < jc) (hq : q < ln j) : CV X l yX4_testPlace (wsc yX4_testPlace cX4_testPlace 3 none) rm_X4_testPlace [.ref (X.2.1 5 0 0), .int (nI j), .int (nI q)] (M) lf (M) lf 0 0 := by
  refine CV_of (lv := [(0, .ref _), (1, .int _), (2, .int _)]) G (by decide) (Nat.le_of_ble_eq_true rfl) rfl (fun p e s m args below meth c F hr => ?_)
  have F : Fx p l s m args meth c cX4_testPlace 3 RX4 X := F
  have h4 := hS.1
  have h12 := hS.2.1
  have h8 := (hS.2.2.2.2 j hj).2.1
  refine v_aload_n F dX4_testPlace_0 rfl 0 rfl ?_
  refine v_iload_n F dX4_testPlace_1 rfl 1 rfl ?_
  refine v_callVv F (As := [_]) (rest := []) rfl (c_X4_testJuggler G hS hj) Rv_H wm_X4_39 rfl ⟨rfl, rfl, Nat.le_of_ble_eq_true rfl, Nat.le_of_ble_eq_true rfl, Nat.le_of_ble_eq_true rfl, Nat.le_of_ble_eq_true rfl, Nat.le_of_ble_eq_true rfl⟩ dX4_testPlace_2 ?_
  refine v_iload_n F dX4_testPlace_5 rfl 2 rfl ?_
  refine v_if_lt F (tgt := 28) dX4_testPlace_6 (by decide) (fun h => absurd h (nI_pos (by omega))) (fun c6 => ?_)
  refine v_iload_n F dX4_testPlace_9 rfl 2 rfl ?_
  refine v_aload_n F dX4_testPlace_10 rfl 0 rfl ?_
  refine v_get F id_5 rfl rfl uw_X4 0 (by decide) rfl rfl wf_X4_10 dX4_testPlace_11 ?_
  refine v_getN F (id_R (by decide) (by decide) (by decide)) (celD_R (by decide)) rfl uw_X2 0 (by decide) rfl rfl wf_X4_50 dX4_testPlace_14 ?_
  refine v_iload_n F dX4_testPlace_17 rfl 1 rfl ?_
  refine v_aaldJ F (by decide) (j) (Ix_nI (show j < 4 by omega)) dX4_testPlace_18 ?_
  refine v_getN F (id_R (by decide) (by decide) (show j < 4 by omega)) (celD_R (by decide)) rfl uw_X0 0 (by decide) rfl rfl wf_X4_54 dX4_testPlace_19 ?_
  refine v_getN F (id_R (by decide) (by decide) (show j < 4 by omega)) (celD_R (by decide)) rfl uw_X1 2 (by decide) rfl rfl wf_X4_60 dX4_testPlace_22 ?_
  refine v_topr (nI (ln j)) (hS.2.2.2.2 j hj).2.2 ?_
  refine v_icmp_lt F (tgt := 38) dX4_testPlace_25 (by decide) (fun c25 => ?_) (fun h => absurd (nI_lt hq (by omega)) h)
  exact v_vret F hr dX4_testPlace_38 rfl rfl
abbrev rm_X4_powerOfTen : Room := { frames := 0, cells := 0, slots := 0, locals := 0 }
section RT
variable {p : Program} {l : Launch} {e : Env} {R : Room} {s : State} {m : MethodId} {args : Array Value} {below : List Frame} {meth : Method} {c : Code} {Q : State → Prop} {X : Cx} {nL : Nat} {ex : va_W} {M : Mem} {lf : Lf} {cells slots : Nat}
set_option maxHeartbeats 4000000 in
set_option maxRecDepth 100000 in
theorem L_X4_powerOfTen (F : Fx p l s m args meth c cX4_powerOfTen 3 RX4 X) {n : Nat} (h8 : n ≤ 8) (K : V p l e R s m args below meth c Q X 3 ex (M) lf cells slots 20 [(2, .int (nI n)), (1, .int (p10L 1 n)), (0, .int (nI n))] []) : ∀ (k q : Nat), k + q = n → V p l e R s m args below meth c Q X 3 ex (M) lf cells slots 4 [(2, .int (nI q)), (1, .int (p10L 1 q)), (0, .int (nI n))] [] := by
  intro k
  induction k with
  | zero =>
    intro q hq
    obtain rfl : q = n := by omega
    refine v_iload_n F dX4_powerOfTen_4 rfl 0 rfl ?_
    refine v_iload_n F dX4_powerOfTen_5 rfl 2 rfl ?_
    refine v_icmp_ge F (tgt := 20) dX4_powerOfTen_6 (by decide) (fun c6 => ?_) (fun h => absurd (nI_le (Nat.le_refl _) (by omega)) h)
    exact K
  | succ k ih =>
    intro q hq
    refine v_iload_n F dX4_powerOfTen_4 rfl 0 rfl ?_
    refine v_iload_n F dX4_powerOfTen_5 rfl 2 rfl ?_
    refine v_icmp_ge F (tgt := 20) dX4_powerOfTen_6 (by decide) (fun h => absurd h (nI_ge (by omega) (by omega))) (fun c6 => ?_)
    refine v_iload_n F dX4_powerOfTen_9 rfl 1 rfl ?_
    refine v_bipush F (v := 10) dX4_powerOfTen_10 (by decide) ?_
    refine v_imul F dX4_powerOfTen_12 ?_
    refine v_istore_n F dX4_powerOfTen_13 rfl (by decide) (lv' := [(1, .int _), (2, .int _), (0, .int _)]) rfl ?_
    refine v_iinc F (k := 1) (nI (q + 1)) dX4_powerOfTen_14 rfl (iinc_nI q) (by decide) (lv' := [(2, .int _), (1, .int _), (0, .int _)]) rfl ?_
    refine v_goto F (tgt := 4) dX4_powerOfTen_17 (by decide) ?_
    exact v_locs [0, 1, 2] rfl (ih (q + 1) (by omega))
set_option maxHeartbeats 4000000 in
set_option maxRecDepth 100000 in
theorem c_X4_powerOfTen {X : Cx} {l : Launch} (G : Gx X l) {M : Mem} {lf : Lf} {n : Nat} (h8 : n ≤ 8) : CI X l yX4_powerOfTen (wsc yX4_powerOfTen cX4_powerOfTen 3 (some .int)) rm_X4_powerOfTen [.int (nI n)] (M) lf (p10L 1 n) (M) lf 0 0 := by
  refine CI_of (lv := [(0, .int _)]) G (by decide) (Nat.le_of_ble_eq_true rfl) rfl (fun p e s m args below meth c F hr => ?_)
  have F : Fx p l s m args meth c cX4_powerOfTen 3 RX4 X := F
  refine v_iconst F (v := 1) dX4_powerOfTen_0 (by decide) ?_
  refine v_istore_n F dX4_powerOfTen_1 rfl (by decide) (lv' := [(1, .int _), (0, .int _)]) rfl ?_
  refine v_iconst F (v := nI 0) dX4_powerOfTen_2 (by decide) ?_
  refine v_istore_n F dX4_powerOfTen_3 rfl (by decide) (lv' := [(2, .int _), (1, .int _), (0, .int _)]) rfl ?_
  refine L_X4_powerOfTen F h8 ?_ n 0 (Nat.add_zero n)
  · skip
    refine v_iload_n F dX4_powerOfTen_20 rfl 1 rfl ?_
    exact v_iret F hr dX4_powerOfTen_21 rfl rfl rfl
theorem p10L_nI : ∀ n : Nat, n ≤ 8 → p10L 1 n = nI (10 ^ n)
  | 0, _ => rfl
  | n + 1, h => by
    show p10L 1 n * 10 = nI (10 ^ (n + 1))
    rw [p10L_nI n (by omega), show (10 : Int32) = nI 10 from rfl, pk_mul, ← Nat.pow_succ]
theorem p10_lt {n : Nat} (h : n ≤ 8) : 10 ^ n < 2 ^ 31 := Nat.lt_of_le_of_lt (Nat.pow_le_pow_right (by decide) h) (by decide)
abbrev rm_X4_come : Room := { frames := 2, cells := 0, slots := 0, locals := 47 }
abbrev rx_X4_come : Room := { frames := 6, cells := 1, slots := 6, locals := 82 }
set_option maxHeartbeats 4000000 in
set_option maxRecDepth 100000 in
theorem c_X4_come {X : Cx} {l : Launch} (G : Gx X l) {M : Mem} {lf : Lf} {j n : Nat} (hj : j < 4) (hσ : M 0 0 0 2 = nI j) (h1 : 1 ≤ n) (h9 : n ≤ 9) : CI X l yX4_come (wsc yX4_come cX4_come 2 (some .int)) rm_X4_come [.ref (X.2.1 5 0 0), .int (nI n)] (M) lf (nI j) (uC M 0 (fAddJ (M 0) j (nI n))) lf 0 0 := by
  refine CI_of (lv := [(0, .ref _), (1, .int _)]) G (by decide) (Nat.le_of_ble_eq_true rfl) rfl (fun p e s m args below meth c F hr => ?_)
  have F : Fx p l s m args meth c cX4_come 2 RX4 X := F
  refine v_iload_n F dX4_come_0 rfl 1 rfl ?_
  refine v_iconst F (v := nI 1) dX4_come_1 (by decide) ?_
  refine v_icmp_lt F (tgt := 11) dX4_come_2 (by decide) (fun h => absurd h (nI_nlt h1 (by omega))) (fun c2 => ?_)
  refine v_iload_n F dX4_come_5 rfl 1 rfl ?_
  refine v_bipush F (v := nI 9) dX4_come_6 (by decide) ?_
  refine v_icmp_le F (tgt := 21) dX4_come_8 (by decide) (fun c8 => ?_) (fun h => absurd (nI_le h9 (by decide)) h)
  refine v_aload_n F dX4_come_21 rfl 0 rfl ?_
  refine v_get F id_5 rfl rfl uw_X4 0 (by decide) rfl rfl wf_X4_10 dX4_come_22 ?_
  refine v_getN F (id_R (by decide) (by decide) (by decide)) (celD_R (by decide)) rfl uw_X2 2 (by decide) rfl rfl wf_X4_26 dX4_come_25 ?_
  refine v_topr (nI j) hσ ?_
  refine v_iconst F (v := nI 4) dX4_come_28 (by decide) ?_
  refine v_icmp_lt F (tgt := 42) dX4_come_29 (by decide) (fun c29 => ?_) (fun h => absurd (nI_lt hj (by decide)) h)
  refine v_aload_n F dX4_come_42 rfl 0 rfl ?_
  refine v_get F id_5 rfl rfl uw_X4 0 (by decide) rfl rfl wf_X4_10 dX4_come_43 ?_
  refine v_iload_n F dX4_come_46 rfl 1 rfl ?_
  refine v_callNi F (As := [_]) (rest := []) rfl (CI_pl (c_X2_addJuggler G (by decide) hj hσ (nI n))) (Rv_R (by decide)) wm_X4_35 rfl ⟨rfl, rfl, Nat.le_of_ble_eq_true rfl, Nat.le_of_ble_eq_true rfl, Nat.le_of_ble_eq_true rfl, Nat.le_of_ble_eq_true rfl, Nat.le_of_ble_eq_true rfl⟩ dX4_come_47 ?_
  exact v_iret F hr dX4_come_50 rfl rfl rfl
abbrev rm_X4_setPattern : Room := { frames := 2, cells := 0, slots := 0, locals := 42 }
abbrev rx_X4_setPattern : Room := { frames := 7, cells := 1, slots := 6, locals := 103 }
set_option maxHeartbeats 4000000 in
set_option maxRecDepth 100000 in
theorem c_X4_setPattern {X : Cx} {l : Launch} (G : Gx X l) {M : Mem} {lf : Lf} {jc tc : Nat} {ln : Nat → Nat} (hS : Shp (M 0) jc tc ln) {j n d : Nat} (hj : j < jc) (h1 : 1 ≤ n) (h8 : n ≤ 8) (hd : d < 10 ^ n) : CI X l yX4_setPattern (wsc yX4_setPattern cX4_setPattern 6 (some .int)) rm_X4_setPattern [.ref (X.2.1 5 0 0), .int (nI j), .int (nI n), .int (nI d)] (M) lf (nI (ln j)) (uC M 0 (fWrite (M 0) j (nI j) n (nI d))) lf 0 0 := by
  refine CI_of (lv := [(0, .ref _), (1, .int _), (2, .int _), (3, .int _)]) G (by decide) (Nat.le_of_ble_eq_true rfl) rfl (fun p e s m args below meth c F hr => ?_)
  have F : Fx p l s m args meth c cX4_setPattern 6 RX4 X := F
  have h4 := hS.1
  have h12 := hS.2.1
  have h10 := p10_lt h8
  refine v_aload_n F dX4_setPattern_0 rfl 0 rfl ?_
  refine v_iload_n F dX4_setPattern_1 rfl 1 rfl ?_
  refine v_callVv F (As := [_]) (rest := []) rfl (c_X4_testJuggler G hS hj) Rv_H wm_X4_39 rfl ⟨rfl, rfl, Nat.le_of_ble_eq_true rfl, Nat.le_of_ble_eq_true rfl, Nat.le_of_ble_eq_true rfl, Nat.le_of_ble_eq_true rfl, Nat.le_of_ble_eq_true rfl⟩ dX4_setPattern_2 ?_
  refine v_iload_n F dX4_setPattern_5 rfl 2 rfl ?_
  refine v_iconst F (v := nI 1) dX4_setPattern_6 (by decide) ?_
  refine v_icmp_lt F (tgt := 16) dX4_setPattern_7 (by decide) (fun h => absurd h (nI_nlt h1 (by omega))) (fun c7 => ?_)
  refine v_iload_n F dX4_setPattern_10 rfl 2 rfl ?_
  refine v_bipush F (v := nI 8) dX4_setPattern_11 (by decide) ?_
  refine v_icmp_le F (tgt := 26) dX4_setPattern_13 (by decide) (fun c13 => ?_) (fun h => absurd (nI_le h8 (by decide)) h)
  refine v_iload_n F dX4_setPattern_26 rfl 3 rfl ?_
  refine v_if_lt F (tgt := 38) dX4_setPattern_27 (by decide) (fun h => absurd h (nI_pos (by omega))) (fun c27 => ?_)
  refine v_iload_n F dX4_setPattern_30 rfl 3 rfl ?_
  refine v_iload_n F dX4_setPattern_31 rfl 2 rfl ?_
  refine v_callSi F (As := [_]) (rest := [.int _]) rfl (c_X4_powerOfTen G h8) wm_X4_45 rfl ⟨rfl, rfl, Nat.le_of_ble_eq_true rfl, Nat.le_of_ble_eq_true rfl, Nat.le_of_ble_eq_true rfl, Nat.le_of_ble_eq_true rfl, Nat.le_of_ble_eq_true rfl⟩ dX4_setPattern_32 ?_
  refine v_topr (nI (10 ^ n)) (p10L_nI n h8) ?_
  refine v_icmp_lt F (tgt := 48) dX4_setPattern_35 (by decide) (fun c35 => ?_) (fun h => absurd (nI_lt hd h10) h)
  refine v_aload_n F dX4_setPattern_48 rfl 0 rfl ?_
  refine v_get F id_5 rfl rfl uw_X4 0 (by decide) rfl rfl wf_X4_10 dX4_setPattern_49 ?_
  refine v_getN F (id_R (by decide) (by decide) (by decide)) (celD_R (by decide)) rfl uw_X2 0 (by decide) rfl rfl wf_X4_50 dX4_setPattern_52 ?_
  refine v_iload_n F dX4_setPattern_55 rfl 1 rfl ?_
  refine v_aaldJ F (by decide) (j) (Ix_nI (show j < 4 by omega)) dX4_setPattern_56 ?_
  refine v_getN F (id_R (by decide) (by decide) (show j < 4 by omega)) (celD_R (by decide)) rfl uw_X0 0 (by decide) rfl rfl wf_X4_54 dX4_setPattern_57 ?_
  refine v_astore F dX4_setPattern_60 (by decide) (lv' := [(4, .ref _), (0, .ref _), (1, .int _), (2, .int _), (3, .int _)]) rfl ?_
  refine v_aload F dX4_setPattern_62 0 rfl ?_
  refine v_getN F (id_R (by decide) (by decide) (show j < 4 by omega)) (celD_R (by decide)) rfl uw_X1 2 (by decide) rfl rfl wf_X4_60 dX4_setPattern_64 ?_
  refine v_topr (nI (ln j)) (hS.2.2.2.2 j hj).2.2 ?_
  refine v_istore F dX4_setPattern_67 (by decide) (lv' := [(5, .int _), (4, .ref _), (0, .ref _), (1, .int _), (2, .int _), (3, .int _)]) rfl ?_
  refine v_aload F dX4_setPattern_69 1 rfl ?_
  refine v_iload_n F dX4_setPattern_71 rfl 3 rfl ?_
  refine v_iload_n F dX4_setPattern_72 rfl 4 rfl ?_
  refine v_iload_n F dX4_setPattern_73 rfl 5 rfl ?_
  refine v_callNv F (As := [_, _, _]) (rest := []) rfl (CV_pl (c_X1_write G (by decide) (show j < 4 by omega) (nI j) (nI d) h1 h8)) (Rv_P (by decide) (show j < 4 by omega)) wm_X4_65 rfl ⟨rfl, rfl, Nat.le_of_ble_eq_true rfl, Nat.le_of_ble_eq_true rfl, Nat.le_of_ble_eq_true rfl, Nat.le_of_ble_eq_true rfl, Nat.le_of_ble_eq_true rfl⟩ dX4_setPattern_74 ?_
  refine v_iload F dX4_setPattern_77 0 rfl ?_
  exact v_iret F hr dX4_setPattern_79 rfl rfl rfl
abbrev rm_X4_pass : Room := { frames := 3, cells := 0, slots := 0, locals := 64 }
abbrev rx_X4_pass : Room := { frames := 8, cells := 1, slots := 6, locals := 125 }
set_option maxHeartbeats 4000000 in
set_option maxRecDepth 100000 in
theorem c_X4_pass {X : Cx} {l : Launch} (G : Gx X l) {M : Mem} {lf : Lf} {jc tc : Nat} {ln : Nat → Nat} (hS : Shp (M 0) jc tc ln) {j q t : Nat} (hj : j < jc) (hq : q < ln j) (ht : t < jc) : CI X l yX4_pass (wsc yX4_pass cX4_pass 6 (some .int)) rm_X4_pass [.ref (X.2.1 5 0 0), .int (nI j), .int (nI q), .int (nI t)] (M) lf (M 0 5 j q) (uC M 0 (u3 (M 0) 5 j q (nI t))) lf 0 0 := by
  refine CI_of (lv := [(0, .ref _), (1, .int _), (2, .int _), (3, .int _)]) G (by decide) (Nat.le_of_ble_eq_true rfl) rfl (fun p e s m args below meth c F hr => ?_)
  have F : Fx p l s m args meth c cX4_pass 6 RX4 X := F
  have h4 := hS.1
  have h12 := hS.2.1
  have h8 := (hS.2.2.2.2 j hj).2.1
  refine v_aload_n F dX4_pass_0 rfl 0 rfl ?_
  refine v_iload_n F dX4_pass_1 rfl 1 rfl ?_
  refine v_iload_n F dX4_pass_2 rfl 2 rfl ?_
  refine v_callVv F (As := [_, _]) (rest := []) rfl (c_X4_testPlace G hS hj hq) Rv_H wm_X4_69 rfl ⟨rfl, rfl, Nat.le_of_ble_eq_true rfl, Nat.le_of_ble_eq_true rfl, Nat.le_of_ble_eq_true rfl, Nat.le_of_ble_eq_true rfl, Nat.le_of_ble_eq_true rfl⟩ dX4_pass_3 ?_
  refine v_aload_n F dX4_pass_6 rfl 0 rfl ?_
  refine v_iload_n F dX4_pass_7 rfl 3 rfl ?_
  refine v_callVv F (As := [_]) (rest := []) rfl (c_X4_testJuggler G hS ht) Rv_H wm_X4_39 rfl ⟨rfl, rfl, Nat.le_of_ble_eq_true rfl, Nat.le_of_ble_eq_true rfl, Nat.le_of_ble_eq_true rfl, Nat.le_of_ble_eq_true rfl, Nat.le_of_ble_eq_true rfl⟩ dX4_pass_8 ?_
  refine v_aload_n F dX4_pass_11 rfl 0 rfl ?_
  refine v_get F id_5 rfl rfl uw_X4 0 (by decide) rfl rfl wf_X4_10 dX4_pass_12 ?_
  refine v_getN F (id_R (by decide) (by decide) (by decide)) (celD_R (by decide)) rfl uw_X2 0 (by decide) rfl rfl wf_X4_50 dX4_pass_15 ?_
  refine v_iload_n F dX4_pass_18 rfl 1 rfl ?_
  refine v_aaldJ F (by decide) (j) (Ix_nI (show j < 4 by omega)) dX4_pass_19 ?_
  refine v_getN F (id_R (by decide) (by decide) (show j < 4 by omega)) (celD_R (by decide)) rfl uw_X0 0 (by decide) rfl rfl wf_X4_54 dX4_pass_20 ?_
  refine v_astore F dX4_pass_23 (by decide) (lv' := [(4, .ref _), (0, .ref _), (1, .int _), (2, .int _), (3, .int _)]) rfl ?_
  refine v_aload F dX4_pass_25 0 rfl ?_
  refine v_getN F (id_R (by decide) (by decide) (show j < 4 by omega)) (celD_R (by decide)) rfl uw_X1 1 (by decide) rfl rfl wf_X4_73 dX4_pass_27 ?_
  refine v_iload_n F dX4_pass_30 rfl 3 rfl ?_
  refine v_iald F (id_R (by decide) (by decide) (show j < 4 by omega)) (celD_R (by decide)) rfl (q) (Ix_nI (by omega)) dX4_pass_31 ?_
  refine v_istore F dX4_pass_32 (by decide) (lv' := [(5, .int _), (4, .ref _), (0, .ref _), (1, .int _), (2, .int _), (3, .int _)]) rfl ?_
  refine v_mem (uC_self _ 0) ?_
  refine v_aload F dX4_pass_34 1 rfl ?_
  refine v_getN F (id_R (by decide) (by decide) (show j < 4 by omega)) (heR (by decide)) rfl uw_X1 1 (by decide) rfl rfl wf_X4_73 dX4_pass_36 ?_
  refine v_iload_n F dX4_pass_39 rfl 4 rfl ?_
  refine v_iload_n F dX4_pass_40 rfl 5 rfl ?_
  refine v_iastC F (id_R (by decide) (by decide) (show j < 4 by omega)) (celD_R (by decide)) rfl (q) (Ix_nI (by omega)) (celD_R (by decide)) dX4_pass_41 ?_
  refine v_iload F dX4_pass_42 0 rfl ?_
  exact v_iret F hr dX4_pass_44 rfl rfl rfl
abbrev rm_X4_written : Room := { frames := 3, cells := 0, slots := 0, locals := 64 }
abbrev rx_X4_written : Room := { frames := 8, cells := 1, slots := 6, locals := 125 }
set_option maxHeartbeats 4000000 in
set_option maxRecDepth 100000 in
theorem c_X4_written_0 {X : Cx} {l : Launch} (G : Gx X l) {M : Mem} {lf : Lf} {jc tc : Nat} {ln : Nat → Nat} (hS : Shp (M 0) jc tc ln) {j q : Nat} (hj : j < jc) (hq : q < ln j) : CI X l yX4_written (wsc yX4_written cX4_written 5 (some .int)) rm_X4_written [.ref (X.2.1 5 0 0), .int (nI j), .int (nI q), .int (nI 0)] (M) lf (M 0 4 j q) (M) lf 0 0 := by
  refine CI_of (lv := [(0, .ref _), (1, .int _), (2, .int _), (3, .int _)]) G (by decide) (Nat.le_of_ble_eq_true rfl) rfl (fun p e s m args below meth c F hr => ?_)
  have F : Fx p l s m args meth c cX4_written 5 RX4 X := F
  have h4 := hS.1
  have h12 := hS.2.1
  have h8 := (hS.2.2.2.2 j hj).2.1
  refine v_aload_n F dX4_written_0 rfl 0 rfl ?_
  refine v_iload_n F dX4_written_1 rfl 1 rfl ?_
  refine v_iload_n F dX4_written_2 rfl 2 rfl ?_
  refine v_callVv F (As := [_, _]) (rest := []) rfl (c_X4_testPlace G hS hj hq) Rv_H wm_X4_69 rfl ⟨rfl, rfl, Nat.le_of_ble_eq_true rfl, Nat.le_of_ble_eq_true rfl, Nat.le_of_ble_eq_true rfl, Nat.le_of_ble_eq_true rfl, Nat.le_of_ble_eq_true rfl⟩ dX4_written_3 ?_
  refine v_iload_n F dX4_written_6 rfl 3 rfl ?_
  refine v_iconst F (v := nI 2) dX4_written_7 (by decide) ?_
  refine v_callSv F (As := [_, _]) (rest := []) rfl (c_X4_testWhat G (show 0 < 2 by decide) (by decide)) wm_X4_77 rfl ⟨rfl, rfl, Nat.le_of_ble_eq_true rfl, Nat.le_of_ble_eq_true rfl, Nat.le_of_ble_eq_true rfl, Nat.le_of_ble_eq_true rfl, Nat.le_of_ble_eq_true rfl⟩ dX4_written_8 ?_
  refine v_aload_n F dX4_written_11 rfl 0 rfl ?_
  refine v_get F id_5 rfl rfl uw_X4 0 (by decide) rfl rfl wf_X4_10 dX4_written_12 ?_
  refine v_getN F (id_R (by decide) (by decide) (by decide)) (celD_R (by decide)) rfl uw_X2 0 (by decide) rfl rfl wf_X4_50 dX4_written_15 ?_
  refine v_iload_n F dX4_written_18 rfl 1 rfl ?_
  refine v_aaldJ F (by decide) (j) (Ix_nI (show j < 4 by omega)) dX4_written_19 ?_
  refine v_getN F (id_R (by decide) (by decide) (show j < 4 by omega)) (celD_R (by decide)) rfl uw_X0 0 (by decide) rfl rfl wf_X4_54 dX4_written_20 ?_
  refine v_astore F dX4_written_23 (by decide) (lv' := [(4, .ref _), (0, .ref _), (1, .int _), (2, .int _), (3, .int _)]) rfl ?_
  refine v_iload_n F dX4_written_25 rfl 4 rfl ?_
  refine v_if_ne F (tgt := 39) dX4_written_26 (by decide) (fun h => absurd ((by decide)) h) (fun c26 => ?_)
  refine v_aload F dX4_written_29 0 rfl ?_
  refine v_getN F (id_R (by decide) (by decide) (show j < 4 by omega)) (celD_R (by decide)) rfl uw_X1 0 (by decide) rfl rfl wf_X4_80 dX4_written_31 ?_
  refine v_iload_n F dX4_written_34 rfl 3 rfl ?_
  refine v_iald F (id_R (by decide) (by decide) (show j < 4 by omega)) (celD_R (by decide)) rfl (q) (Ix_nI (by omega)) dX4_written_35 ?_
  refine v_goto F (tgt := 46) dX4_written_36 (by decide) ?_
  exact v_iret F hr dX4_written_46 rfl rfl rfl
set_option maxHeartbeats 4000000 in
set_option maxRecDepth 100000 in
theorem c_X4_written_1 {X : Cx} {l : Launch} (G : Gx X l) {M : Mem} {lf : Lf} {jc tc : Nat} {ln : Nat → Nat} (hS : Shp (M 0) jc tc ln) {j q : Nat} (hj : j < jc) (hq : q < ln j) : CI X l yX4_written (wsc yX4_written cX4_written 5 (some .int)) rm_X4_written [.ref (X.2.1 5 0 0), .int (nI j), .int (nI q), .int (nI 1)] (M) lf (M 0 5 j q) (M) lf 0 0 := by
  refine CI_of (lv := [(0, .ref _), (1, .int _), (2, .int _), (3, .int _)]) G (by decide) (Nat.le_of_ble_eq_true rfl) rfl (fun p e s m args below meth c F hr => ?_)
  have F : Fx p l s m args meth c cX4_written 5 RX4 X := F
  have h4 := hS.1
  have h12 := hS.2.1
  have h8 := (hS.2.2.2.2 j hj).2.1
  refine v_aload_n F dX4_written_0 rfl 0 rfl ?_
  refine v_iload_n F dX4_written_1 rfl 1 rfl ?_
  refine v_iload_n F dX4_written_2 rfl 2 rfl ?_
  refine v_callVv F (As := [_, _]) (rest := []) rfl (c_X4_testPlace G hS hj hq) Rv_H wm_X4_69 rfl ⟨rfl, rfl, Nat.le_of_ble_eq_true rfl, Nat.le_of_ble_eq_true rfl, Nat.le_of_ble_eq_true rfl, Nat.le_of_ble_eq_true rfl, Nat.le_of_ble_eq_true rfl⟩ dX4_written_3 ?_
  refine v_iload_n F dX4_written_6 rfl 3 rfl ?_
  refine v_iconst F (v := nI 2) dX4_written_7 (by decide) ?_
  refine v_callSv F (As := [_, _]) (rest := []) rfl (c_X4_testWhat G (show 1 < 2 by decide) (by decide)) wm_X4_77 rfl ⟨rfl, rfl, Nat.le_of_ble_eq_true rfl, Nat.le_of_ble_eq_true rfl, Nat.le_of_ble_eq_true rfl, Nat.le_of_ble_eq_true rfl, Nat.le_of_ble_eq_true rfl⟩ dX4_written_8 ?_
  refine v_aload_n F dX4_written_11 rfl 0 rfl ?_
  refine v_get F id_5 rfl rfl uw_X4 0 (by decide) rfl rfl wf_X4_10 dX4_written_12 ?_
  refine v_getN F (id_R (by decide) (by decide) (by decide)) (celD_R (by decide)) rfl uw_X2 0 (by decide) rfl rfl wf_X4_50 dX4_written_15 ?_
  refine v_iload_n F dX4_written_18 rfl 1 rfl ?_
  refine v_aaldJ F (by decide) (j) (Ix_nI (show j < 4 by omega)) dX4_written_19 ?_
  refine v_getN F (id_R (by decide) (by decide) (show j < 4 by omega)) (celD_R (by decide)) rfl uw_X0 0 (by decide) rfl rfl wf_X4_54 dX4_written_20 ?_
  refine v_astore F dX4_written_23 (by decide) (lv' := [(4, .ref _), (0, .ref _), (1, .int _), (2, .int _), (3, .int _)]) rfl ?_
  refine v_iload_n F dX4_written_25 rfl 4 rfl ?_
  refine v_if_ne F (tgt := 39) dX4_written_26 (by decide) (fun c26 => ?_) (fun h => absurd h ((by decide)))
  refine v_aload F dX4_written_39 0 rfl ?_
  refine v_getN F (id_R (by decide) (by decide) (show j < 4 by omega)) (celD_R (by decide)) rfl uw_X1 1 (by decide) rfl rfl wf_X4_73 dX4_written_41 ?_
  refine v_iload_n F dX4_written_44 rfl 3 rfl ?_
  refine v_iald F (id_R (by decide) (by decide) (show j < 4 by omega)) (celD_R (by decide)) rfl (q) (Ix_nI (by omega)) dX4_written_45 ?_
  exact v_iret F hr dX4_written_46 rfl rfl rfl
abbrev rm_X4_make : Room := { frames := 1, cells := 0, slots := 0, locals := 22 }
abbrev rx_X4_make : Room := { frames := 6, cells := 1, slots := 6, locals := 82 }
set_option maxHeartbeats 4000000 in
set_option maxRecDepth 100000 in
theorem c_X4_make {X : Cx} {l : Launch} (G : Gx X l) {M : Mem} {lf : Lf} {k n : Nat} (hk : k < 12) (hσ : M 0 0 0 3 = nI k) (h3 : n < 3) : CI X l yX4_make (wsc yX4_make cX4_make 2 (some .int)) rm_X4_make [.ref (X.2.1 5 0 0), .int (nI n)] (M) lf (nI k) (uC M 0 (fAddT (M 0) k (nI n))) lf 0 0 := by
  refine CI_of (lv := [(0, .ref _), (1, .int _)]) G (by decide) (Nat.le_of_ble_eq_true rfl) rfl (fun p e s m args below meth c F hr => ?_)
  have F : Fx p l s m args meth c cX4_make 2 RX4 X := F
  refine v_iload_n F dX4_make_0 rfl 1 rfl ?_
  refine v_if_lt F (tgt := 9) dX4_make_1 (by decide) (fun h => absurd h (nI_pos (by omega))) (fun c1 => ?_)
  refine v_iload_n F dX4_make_4 rfl 1 rfl ?_
  refine v_iconst F (v := nI 3) dX4_make_5 (by decide) ?_
  refine v_icmp_lt F (tgt := 19) dX4_make_6 (by decide) (fun c6 => ?_) (fun h => absurd (nI_lt h3 (by decide)) h)
  refine v_aload_n F dX4_make_19 rfl 0 rfl ?_
  refine v_get F id_5 rfl rfl uw_X4 0 (by decide) rfl rfl wf_X4_10 dX4_make_20 ?_
  refine v_getN F (id_R (by decide) (by decide) (by decide)) (celD_R (by decide)) rfl uw_X2 3 (by decide) rfl rfl wf_X4_85 dX4_make_23 ?_
  refine v_topr (nI k) hσ ?_
  refine v_bipush F (v := nI 12) dX4_make_26 (by decide) ?_
  refine v_icmp_lt F (tgt := 41) dX4_make_28 (by decide) (fun c28 => ?_) (fun h => absurd (nI_lt hk (by decide)) h)
  refine v_aload_n F dX4_make_41 rfl 0 rfl ?_
  refine v_get F id_5 rfl rfl uw_X4 0 (by decide) rfl rfl wf_X4_10 dX4_make_42 ?_
  refine v_iload_n F dX4_make_45 rfl 1 rfl ?_
  refine v_callNi F (As := [_]) (rest := []) rfl (CI_pl (c_X2_addThing G (by decide) hk hσ (nI n))) (Rv_R (by decide)) wm_X4_90 rfl ⟨rfl, rfl, Nat.le_of_ble_eq_true rfl, Nat.le_of_ble_eq_true rfl, Nat.le_of_ble_eq_true rfl, Nat.le_of_ble_eq_true rfl, Nat.le_of_ble_eq_true rfl⟩ dX4_make_46 ?_
  exact v_iret F hr dX4_make_49 rfl rfl rfl
abbrev rm_X4_give : Room := { frames := 2, cells := 0, slots := 0, locals := 42 }
abbrev rx_X4_give : Room := { frames := 7, cells := 1, slots := 6, locals := 103 }
set_option maxHeartbeats 4000000 in
set_option maxRecDepth 100000 in
theorem c_X4_give {X : Cx} {l : Launch} (G : Gx X l) {M : Mem} {lf : Lf} {jc tc : Nat} {ln : Nat → Nat} (hS : Shp (M 0) jc tc ln) {k j hd : Nat} (hk : k < tc) (hj : j < jc) (hh : hd < 2) (hst : M 0 8 k 1 = 0) (hhd : M 0 6 j hd = -1) : CI X l yX4_give (wsc yX4_give cX4_give 4 (some .int)) rm_X4_give [.ref (X.2.1 5 0 0), .int (nI k), .int (nI j), .int (nI hd)] (M) lf (fHeld (fPut (M 0) k (nI j) j hd) j) (uC M 0 (fPut (M 0) k (nI j) j hd)) lf 0 0 := by
  refine CI_of (lv := [(0, .ref _), (1, .int _), (2, .int _), (3, .int _)]) G (by decide) (Nat.le_of_ble_eq_true rfl) rfl (fun p e s m args below meth c F hr => ?_)
  have F : Fx p l s m args meth c cX4_give 4 RX4 X := F
  have h4 := hS.1
  have h12 := hS.2.1
  refine v_aload_n F dX4_give_0 rfl 0 rfl ?_
  refine v_iload_n F dX4_give_1 rfl 1 rfl ?_
  refine v_callVv F (As := [_]) (rest := []) rfl (c_X4_testThing G hS hk) Rv_H wm_X4_93 rfl ⟨rfl, rfl, Nat.le_of_ble_eq_true rfl, Nat.le_of_ble_eq_true rfl, Nat.le_of_ble_eq_true rfl, Nat.le_of_ble_eq_true rfl, Nat.le_of_ble_eq_true rfl⟩ dX4_give_2 ?_
  refine v_aload_n F dX4_give_5 rfl 0 rfl ?_
  refine v_iload_n F dX4_give_6 rfl 2 rfl ?_
  refine v_callVv F (As := [_]) (rest := []) rfl (c_X4_testJuggler G hS hj) Rv_H wm_X4_39 rfl ⟨rfl, rfl, Nat.le_of_ble_eq_true rfl, Nat.le_of_ble_eq_true rfl, Nat.le_of_ble_eq_true rfl, Nat.le_of_ble_eq_true rfl, Nat.le_of_ble_eq_true rfl⟩ dX4_give_7 ?_
  refine v_iload_n F dX4_give_10 rfl 3 rfl ?_
  refine v_if_lt F (tgt := 19) dX4_give_11 (by decide) (fun h => absurd h (nI_pos (by omega))) (fun c11 => ?_)
  refine v_iload_n F dX4_give_14 rfl 3 rfl ?_
  refine v_iconst F (v := nI 2) dX4_give_15 (by decide) ?_
  refine v_icmp_lt F (tgt := 29) dX4_give_16 (by decide) (fun c16 => ?_) (fun h => absurd (nI_lt hh (by decide)) h)
  refine v_aload_n F dX4_give_29 rfl 0 rfl ?_
  refine v_get F id_5 rfl rfl uw_X4 0 (by decide) rfl rfl wf_X4_10 dX4_give_30 ?_
  refine v_getN F (id_R (by decide) (by decide) (by decide)) (celD_R (by decide)) rfl uw_X2 1 (by decide) rfl rfl wf_X4_101 dX4_give_33 ?_
  refine v_iload_n F dX4_give_36 rfl 1 rfl ?_
  refine v_aaldT F (by decide) (k) (Ix_nI (show k < 12 by omega)) dX4_give_37 ?_
  refine v_getN F (id_R (by decide) (by decide) (show k < 12 by omega)) (celD_R (by decide)) rfl uw_X3 1 (by decide) rfl rfl wf_X4_105 dX4_give_38 ?_
  refine v_if_eq F (tgt := 54) dX4_give_41 (by decide) (fun c41 => ?_) (fun h => absurd (hst) h)
  refine v_aload_n F dX4_give_54 rfl 0 rfl ?_
  refine v_get F id_5 rfl rfl uw_X4 0 (by decide) rfl rfl wf_X4_10 dX4_give_55 ?_
  refine v_getN F (id_R (by decide) (by decide) (by decide)) (celD_R (by decide)) rfl uw_X2 0 (by decide) rfl rfl wf_X4_50 dX4_give_58 ?_
  refine v_iload_n F dX4_give_61 rfl 2 rfl ?_
  refine v_aaldJ F (by decide) (j) (Ix_nI (show j < 4 by omega)) dX4_give_62 ?_
  refine v_getN F (id_R (by decide) (by decide) (show j < 4 by omega)) (celD_R (by decide)) rfl uw_X0 1 (by decide) rfl rfl wf_X4_112 dX4_give_63 ?_
  refine v_iload_n F dX4_give_66 rfl 3 rfl ?_
  refine v_iald F (id_R (by decide) (by decide) (show j < 4 by omega)) (celD_R (by decide)) rfl (hd) (Ix_nI hh) dX4_give_67 ?_
  refine v_iconst F (v := (-1)) dX4_give_68 (by decide) ?_
  refine v_icmp_eq F (tgt := 82) dX4_give_69 (by decide) (fun c69 => ?_) (fun h => absurd (hhd) h)
  refine v_aload_n F dX4_give_82 rfl 0 rfl ?_
  refine v_get F id_5 rfl rfl uw_X4 0 (by decide) rfl rfl wf_X4_10 dX4_give_83 ?_
  refine v_iload_n F dX4_give_86 rfl 1 rfl ?_
  refine v_iload_n F dX4_give_87 rfl 2 rfl ?_
  refine v_iload_n F dX4_give_88 rfl 3 rfl ?_
  refine v_callNv F (As := [_, _, _]) (rest := []) rfl (CV_pl (c_X2_putIntoHand G (by decide) (show k < 12 by omega) (nI j) (Ix_nI (show j < 4 by omega)) hh)) (Rv_R (by decide)) wm_X4_117 rfl ⟨rfl, rfl, Nat.le_of_ble_eq_true rfl, Nat.le_of_ble_eq_true rfl, Nat.le_of_ble_eq_true rfl, Nat.le_of_ble_eq_true rfl, Nat.le_of_ble_eq_true rfl⟩ dX4_give_89 ?_
  refine v_aload_n F dX4_give_92 rfl 0 rfl ?_
  refine v_get F id_5 rfl rfl uw_X4 0 (by decide) rfl rfl wf_X4_10 dX4_give_93 ?_
  refine v_getN F (id_R (by decide) (by decide) (by decide)) (heR (by decide)) rfl uw_X2 0 (by decide) rfl rfl wf_X4_50 dX4_give_96 ?_
  refine v_iload_n F dX4_give_99 rfl 2 rfl ?_
  refine v_aaldJ F (by decide) (j) (Ix_nI (show j < 4 by omega)) dX4_give_100 ?_
  refine v_callNi F (As := []) (rest := []) rfl (c_X0_thingsHeld G (by decide) (show j < 4 by omega)) (Rv_J (by decide) (show j < 4 by omega)) wm_X4_120 rfl ⟨rfl, rfl, Nat.le_of_ble_eq_true rfl, Nat.le_of_ble_eq_true rfl, Nat.le_of_ble_eq_true rfl, Nat.le_of_ble_eq_true rfl, Nat.le_of_ble_eq_true rfl⟩ dX4_give_101 ?_
  exact v_iret F hr dX4_give_104 rfl rfl rfl
set_option maxHeartbeats 4000000 in
set_option maxRecDepth 100000 in
theorem x_X4_give_s {X : Cx} {l : Launch} (G : Gx X l) {M : Mem} {lf : Lf} {jc tc : Nat} {ln : Nat → Nat} (hS : Shp (M 0) jc tc ln) {k j hd : Nat} (hk : k < tc) (hj : j < jc) (hh : hd < 2) (hst : ¬ M 0 8 k 1 = 0) : CXi X l yX4_give (wsc yX4_give cX4_give 4 (some .int)) rx_X4_give [.ref (X.2.1 5 0 0), .int (nI k), .int (nI j), .int (nI hd)] (M) lf "java/lang/IllegalStateException" 1 6 := by
  refine CXi_of (lv := [(0, .ref _), (1, .int _), (2, .int _), (3, .int _)]) G (by decide) (Nat.le_of_ble_eq_true rfl) rfl (fun p e s m args below meth c F hxt => ?_)
  have F : Fx p l s m args meth c cX4_give 4 RX4 X := F
  have h4 := hS.1
  have h12 := hS.2.1
  refine v_aload_n F dX4_give_0 rfl 0 rfl ?_
  refine v_iload_n F dX4_give_1 rfl 1 rfl ?_
  refine v_callVv F (As := [_]) (rest := []) rfl (c_X4_testThing G hS hk) Rv_H wm_X4_93 rfl ⟨rfl, rfl, Nat.le_of_ble_eq_true rfl, Nat.le_of_ble_eq_true rfl, Nat.le_of_ble_eq_true rfl, Nat.le_of_ble_eq_true rfl, Nat.le_of_ble_eq_true rfl⟩ dX4_give_2 ?_
  refine v_aload_n F dX4_give_5 rfl 0 rfl ?_
  refine v_iload_n F dX4_give_6 rfl 2 rfl ?_
  refine v_callVv F (As := [_]) (rest := []) rfl (c_X4_testJuggler G hS hj) Rv_H wm_X4_39 rfl ⟨rfl, rfl, Nat.le_of_ble_eq_true rfl, Nat.le_of_ble_eq_true rfl, Nat.le_of_ble_eq_true rfl, Nat.le_of_ble_eq_true rfl, Nat.le_of_ble_eq_true rfl⟩ dX4_give_7 ?_
  refine v_iload_n F dX4_give_10 rfl 3 rfl ?_
  refine v_if_lt F (tgt := 19) dX4_give_11 (by decide) (fun h => absurd h (nI_pos (by omega))) (fun c11 => ?_)
  refine v_iload_n F dX4_give_14 rfl 3 rfl ?_
  refine v_iconst F (v := nI 2) dX4_give_15 (by decide) ?_
  refine v_icmp_lt F (tgt := 29) dX4_give_16 (by decide) (fun c16 => ?_) (fun h => absurd (nI_lt hh (by decide)) h)
  refine v_aload_n F dX4_give_29 rfl 0 rfl ?_
  refine v_get F id_5 rfl rfl uw_X4 0 (by decide) rfl rfl wf_X4_10 dX4_give_30 ?_
  refine v_getN F (id_R (by decide) (by decide) (by decide)) (celD_R (by decide)) rfl uw_X2 1 (by decide) rfl rfl wf_X4_101 dX4_give_33 ?_
  refine v_iload_n F dX4_give_36 rfl 1 rfl ?_
  refine v_aaldT F (by decide) (k) (Ix_nI (show k < 12 by omega)) dX4_give_37 ?_
  refine v_getN F (id_R (by decide) (by decide) (show k < 12 by omega)) (celD_R (by decide)) rfl uw_X3 1 (by decide) rfl rfl wf_X4_105 dX4_give_38 ?_
  refine v_if_eq F (tgt := 54) dX4_give_41 (by decide) (fun h => absurd h (hst)) (fun c41 => ?_)
  exact v_throwi F hxt (E := "java/lang/IllegalStateException") (text := "the thing is not on the floor") rfl exS_s wcl_X4_30 wini_IllegalStateException (by decide +kernel) dX4_give_44 dX4_give_47 dX4_give_48 dX4_give_50 dX4_give_53 (Nat.le_of_ble_eq_true rfl) (Nat.le_of_ble_eq_true rfl) (Nat.le_of_ble_eq_true rfl) (Nat.le_of_ble_eq_true rfl) (Nat.le_of_ble_eq_true rfl) (Nat.le_of_ble_eq_true rfl)
set_option maxHeartbeats 4000000 in
set_option maxRecDepth 100000 in
theorem x_X4_give_o {X : Cx} {l : Launch} (G : Gx X l) {M : Mem} {lf : Lf} {jc tc : Nat} {ln : Nat → Nat} (hS : Shp (M 0) jc tc ln) {k j hd : Nat} (hk : k < tc) (hj : j < jc) (hh : hd < 2) (hst : M 0 8 k 1 = 0) (hhd : ¬ M 0 6 j hd = -1) : CXi X l yX4_give (wsc yX4_give cX4_give 4 (some .int)) rx_X4_give [.ref (X.2.1 5 0 0), .int (nI k), .int (nI j), .int (nI hd)] (M) lf "java/lang/IllegalStateException" 1 6 := by
  refine CXi_of (lv := [(0, .ref _), (1, .int _), (2, .int _), (3, .int _)]) G (by decide) (Nat.le_of_ble_eq_true rfl) rfl (fun p e s m args below meth c F hxt => ?_)
  have F : Fx p l s m args meth c cX4_give 4 RX4 X := F
  have h4 := hS.1
  have h12 := hS.2.1
  refine v_aload_n F dX4_give_0 rfl 0 rfl ?_
  refine v_iload_n F dX4_give_1 rfl 1 rfl ?_
  refine v_callVv F (As := [_]) (rest := []) rfl (c_X4_testThing G hS hk) Rv_H wm_X4_93 rfl ⟨rfl, rfl, Nat.le_of_ble_eq_true rfl, Nat.le_of_ble_eq_true rfl, Nat.le_of_ble_eq_true rfl, Nat.le_of_ble_eq_true rfl, Nat.le_of_ble_eq_true rfl⟩ dX4_give_2 ?_
  refine v_aload_n F dX4_give_5 rfl 0 rfl ?_
  refine v_iload_n F dX4_give_6 rfl 2 rfl ?_
  refine v_callVv F (As := [_]) (rest := []) rfl (c_X4_testJuggler G hS hj) Rv_H wm_X4_39 rfl ⟨rfl, rfl, Nat.le_of_ble_eq_true rfl, Nat.le_of_ble_eq_true rfl, Nat.le_of_ble_eq_true rfl, Nat.le_of_ble_eq_true rfl, Nat.le_of_ble_eq_true rfl⟩ dX4_give_7 ?_
  refine v_iload_n F dX4_give_10 rfl 3 rfl ?_
  refine v_if_lt F (tgt := 19) dX4_give_11 (by decide) (fun h => absurd h (nI_pos (by omega))) (fun c11 => ?_)
  refine v_iload_n F dX4_give_14 rfl 3 rfl ?_
  refine v_iconst F (v := nI 2) dX4_give_15 (by decide) ?_
  refine v_icmp_lt F (tgt := 29) dX4_give_16 (by decide) (fun c16 => ?_) (fun h => absurd (nI_lt hh (by decide)) h)
  refine v_aload_n F dX4_give_29 rfl 0 rfl ?_
  refine v_get F id_5 rfl rfl uw_X4 0 (by decide) rfl rfl wf_X4_10 dX4_give_30 ?_
  refine v_getN F (id_R (by decide) (by decide) (by decide)) (celD_R (by decide)) rfl uw_X2 1 (by decide) rfl rfl wf_X4_101 dX4_give_33 ?_
  refine v_iload_n F dX4_give_36 rfl 1 rfl ?_
  refine v_aaldT F (by decide) (k) (Ix_nI (show k < 12 by omega)) dX4_give_37 ?_
  refine v_getN F (id_R (by decide) (by decide) (show k < 12 by omega)) (celD_R (by decide)) rfl uw_X3 1 (by decide) rfl rfl wf_X4_105 dX4_give_38 ?_
  refine v_if_eq F (tgt := 54) dX4_give_41 (by decide) (fun c41 => ?_) (fun h => absurd (hst) h)
  refine v_aload_n F dX4_give_54 rfl 0 rfl ?_
  refine v_get F id_5 rfl rfl uw_X4 0 (by decide) rfl rfl wf_X4_10 dX4_give_55 ?_
  refine v_getN F (id_R (by decide) (by decide) (by decide)) (celD_R (by decide)) rfl uw_X2 0 (by decide) rfl rfl wf_X4_50 dX4_give_58 ?_
  refine v_iload_n F dX4_give_61 rfl 2 rfl ?_
  refine v_aaldJ F (by decide) (j) (Ix_nI (show j < 4 by omega)) dX4_give_62 ?_
  refine v_getN F (id_R (by decide) (by decide) (show j < 4 by omega)) (celD_R (by decide)) rfl uw_X0 1 (by decide) rfl rfl wf_X4_112 dX4_give_63 ?_
  refine v_iload_n F dX4_give_66 rfl 3 rfl ?_
  refine v_iald F (id_R (by decide) (by decide) (show j < 4 by omega)) (celD_R (by decide)) rfl (hd) (Ix_nI hh) dX4_give_67 ?_
  refine v_iconst F (v := (-1)) dX4_give_68 (by decide) ?_
  refine v_icmp_eq F (tgt := 82) dX4_give_69 (by decide) (fun h => absurd h (hhd)) (fun c69 => ?_)
  exact v_throwi F hxt (E := "java/lang/IllegalStateException") (text := "the hand has a thing") rfl exS_s wcl_X4_30 wini_IllegalStateException (by decide +kernel) dX4_give_72 dX4_give_75 dX4_give_76 dX4_give_78 dX4_give_81 (Nat.le_of_ble_eq_true rfl) (Nat.le_of_ble_eq_true rfl) (Nat.le_of_ble_eq_true rfl) (Nat.le_of_ble_eq_true rfl) (Nat.le_of_ble_eq_true rfl) (Nat.le_of_ble_eq_true rfl)
abbrev rm_X4_thing : Room := { frames := 2, cells := 0, slots := 0, locals := 42 }
abbrev rx_X4_thing : Room := { frames := 7, cells := 1, slots := 6, locals := 103 }
set_option maxHeartbeats 4000000 in
set_option maxRecDepth 100000 in
theorem c_X4_thing {X : Cx} {l : Launch} (G : Gx X l) {M : Mem} {lf : Lf} {jc tc : Nat} {ln : Nat → Nat} (hS : Shp (M 0) jc tc ln) {k : Nat} (hk : k < tc) {q : Nat} (hq : q < 7) : CI X l yX4_thing (wsc yX4_thing cX4_thing 3 (some .int)) rm_X4_thing [.ref (X.2.1 5 0 0), .int (nI k), .int (nI q)] (M) lf (fTellT (M 0) k q) (M) lf 0 0 := by
  refine CI_of (lv := [(0, .ref _), (1, .int _), (2, .int _)]) G (by decide) (Nat.le_of_ble_eq_true rfl) rfl (fun p e s m args below meth c F hr => ?_)
  have F : Fx p l s m args meth c cX4_thing 3 RX4 X := F
  have h4 := hS.1
  have h12 := hS.2.1
  refine v_aload_n F dX4_thing_0 rfl 0 rfl ?_
  refine v_iload_n F dX4_thing_1 rfl 1 rfl ?_
  refine v_callVv F (As := [_]) (rest := []) rfl (c_X4_testThing G hS hk) Rv_H wm_X4_93 rfl ⟨rfl, rfl, Nat.le_of_ble_eq_true rfl, Nat.le_of_ble_eq_true rfl, Nat.le_of_ble_eq_true rfl, Nat.le_of_ble_eq_true rfl, Nat.le_of_ble_eq_true rfl⟩ dX4_thing_2 ?_
  refine v_iload_n F dX4_thing_5 rfl 2 rfl ?_
  refine v_bipush F (v := nI 7) dX4_thing_6 (by decide) ?_
  refine v_callSv F (As := [_, _]) (rest := []) rfl (c_X4_testWhat G hq (by decide)) wm_X4_77 rfl ⟨rfl, rfl, Nat.le_of_ble_eq_true rfl, Nat.le_of_ble_eq_true rfl, Nat.le_of_ble_eq_true rfl, Nat.le_of_ble_eq_true rfl, Nat.le_of_ble_eq_true rfl⟩ dX4_thing_8 ?_
  refine v_aload_n F dX4_thing_11 rfl 0 rfl ?_
  refine v_get F id_5 rfl rfl uw_X4 0 (by decide) rfl rfl wf_X4_10 dX4_thing_12 ?_
  refine v_iload_n F dX4_thing_15 rfl 1 rfl ?_
  refine v_iload_n F dX4_thing_16 rfl 2 rfl ?_
  refine v_callNi F (As := [_, _]) (rest := []) rfl (CI_q (c_X2_tellThing G (by decide) hS hk q hq)) (Rv_R (by decide)) wm_X4_124 rfl ⟨rfl, rfl, Nat.le_of_ble_eq_true rfl, Nat.le_of_ble_eq_true rfl, Nat.le_of_ble_eq_true rfl, Nat.le_of_ble_eq_true rfl, Nat.le_of_ble_eq_true rfl⟩ dX4_thing_17 ?_
  exact v_iret F hr dX4_thing_20 rfl rfl rfl
abbrev rm_X4_juggler : Room := { frames := 2, cells := 0, slots := 0, locals := 46 }
abbrev rx_X4_juggler : Room := { frames := 7, cells := 1, slots := 6, locals := 103 }
set_option maxHeartbeats 4000000 in
set_option maxRecDepth 100000 in
theorem c_X4_juggler {X : Cx} {l : Launch} (G : Gx X l) {M : Mem} {lf : Lf} {jc tc : Nat} {ln : Nat → Nat} (hS : Shp (M 0) jc tc ln) {j : Nat} (hj : j < jc) {q : Nat} (hq : q < 7) : CI X l yX4_juggler (wsc yX4_juggler cX4_juggler 3 (some .int)) rm_X4_juggler [.ref (X.2.1 5 0 0), .int (nI j), .int (nI q)] (M) lf (fTellJ (M 0) tc j q) (M) lf 0 0 := by
  refine CI_of (lv := [(0, .ref _), (1, .int _), (2, .int _)]) G (by decide) (Nat.le_of_ble_eq_true rfl) rfl (fun p e s m args below meth c F hr => ?_)
  have F : Fx p l s m args meth c cX4_juggler 3 RX4 X := F
  have h4 := hS.1
  have h12 := hS.2.1
  refine v_aload_n F dX4_juggler_0 rfl 0 rfl ?_
  refine v_iload_n F dX4_juggler_1 rfl 1 rfl ?_
  refine v_callVv F (As := [_]) (rest := []) rfl (c_X4_testJuggler G hS hj) Rv_H wm_X4_39 rfl ⟨rfl, rfl, Nat.le_of_ble_eq_true rfl, Nat.le_of_ble_eq_true rfl, Nat.le_of_ble_eq_true rfl, Nat.le_of_ble_eq_true rfl, Nat.le_of_ble_eq_true rfl⟩ dX4_juggler_2 ?_
  refine v_iload_n F dX4_juggler_5 rfl 2 rfl ?_
  refine v_bipush F (v := nI 7) dX4_juggler_6 (by decide) ?_
  refine v_callSv F (As := [_, _]) (rest := []) rfl (c_X4_testWhat G hq (by decide)) wm_X4_77 rfl ⟨rfl, rfl, Nat.le_of_ble_eq_true rfl, Nat.le_of_ble_eq_true rfl, Nat.le_of_ble_eq_true rfl, Nat.le_of_ble_eq_true rfl, Nat.le_of_ble_eq_true rfl⟩ dX4_juggler_8 ?_
  refine v_aload_n F dX4_juggler_11 rfl 0 rfl ?_
  refine v_get F id_5 rfl rfl uw_X4 0 (by decide) rfl rfl wf_X4_10 dX4_juggler_12 ?_
  refine v_iload_n F dX4_juggler_15 rfl 1 rfl ?_
  refine v_iload_n F dX4_juggler_16 rfl 2 rfl ?_
  refine v_callNi F (As := [_, _]) (rest := []) rfl (CI_q (c_X2_tellJuggler G (by decide) hS hj q hq)) (Rv_R (by decide)) wm_X4_128 rfl ⟨rfl, rfl, Nat.le_of_ble_eq_true rfl, Nat.le_of_ble_eq_true rfl, Nat.le_of_ble_eq_true rfl, Nat.le_of_ble_eq_true rfl, Nat.le_of_ble_eq_true rfl⟩ dX4_juggler_17 ?_
  exact v_iret F hr dX4_juggler_20 rfl rfl rfl
abbrev rm_X4_go : Room := { frames := 5, cells := 0, slots := 0, locals := 115 }
abbrev rx_X4_go : Room := { frames := 7, cells := 1, slots := 6, locals := 115 }
set_option maxHeartbeats 4000000 in
set_option maxRecDepth 100000 in
theorem c_X4_go {X : Cx} {l : Launch} (G : Gx X l) {M : Mem} {lf : Lf} {jc tc : Nat} {ln : Nat → Nat} (hS : Shp (M 0) jc tc ln) {b n : Nat} (hb : b + n < 2 ^ 31) (hbt : M 0 0 0 4 = nI b) (h1 : 1 ≤ n) (hn : n ≤ 200) : CI X l yX4_go (wsc yX4_go cX4_go 2 (some .int)) rm_X4_go [.ref (X.2.1 5 0 0), .int (nI n)] (M) lf (plR b jc tc ln (M 0) n) (uC M 0 (plL b jc tc ln (M 0) n)) lf 0 0 := by
  refine CI_of (lv := [(0, .ref _), (1, .int _)]) G (by decide) (Nat.le_of_ble_eq_true rfl) rfl (fun p e s m args below meth c F hr => ?_)
  have F : Fx p l s m args meth c cX4_go 2 RX4 X := F
  have h4 := hS.1
  have h12 := hS.2.1
  refine v_iload_n F dX4_go_0 rfl 1 rfl ?_
  refine v_sipush F (v := nI 200) dX4_go_1 (by decide) ?_
  refine v_callSv F (As := [_, _]) (rest := []) rfl (c_X4_testBeats G h1 hn (by decide)) wm_X4_141 rfl ⟨rfl, rfl, Nat.le_of_ble_eq_true rfl, Nat.le_of_ble_eq_true rfl, Nat.le_of_ble_eq_true rfl, Nat.le_of_ble_eq_true rfl, Nat.le_of_ble_eq_true rfl⟩ dX4_go_4 ?_
  refine v_aload_n F dX4_go_7 rfl 0 rfl ?_
  refine v_get F id_5 rfl rfl uw_X4 0 (by decide) rfl rfl wf_X4_10 dX4_go_8 ?_
  refine v_iload_n F dX4_go_11 rfl 1 rfl ?_
  refine v_callNi F (As := [_]) (rest := []) rfl (CI_pl (c_X2_play G (by decide) hS hb hbt)) (Rv_R (by decide)) wm_X4_144 rfl ⟨rfl, rfl, Nat.le_of_ble_eq_true rfl, Nat.le_of_ble_eq_true rfl, Nat.le_of_ble_eq_true rfl, Nat.le_of_ble_eq_true rfl, Nat.le_of_ble_eq_true rfl⟩ dX4_go_12 ?_
  exact v_iret F hr dX4_go_15 rfl rfl rfl
abbrev rm_X4_count : Room := { frames := 2, cells := 0, slots := 0, locals := 44 }
abbrev rx_X4_count : Room := { frames := 7, cells := 1, slots := 6, locals := 103 }
set_option maxHeartbeats 4000000 in
set_option maxRecDepth 100000 in
theorem c_X4_count {X : Cx} {l : Launch} (G : Gx X l) {M : Mem} {lf : Lf} {jc tc : Nat} {ln : Nat → Nat} (hS : Shp (M 0) jc tc ln) {q : Nat} (hq : q < 9) : CI X l yX4_count (wsc yX4_count cX4_count 2 (some .int)) rm_X4_count [.ref (X.2.1 5 0 0), .int (nI q)] (M) lf (fTellC (M 0) tc q) (M) lf 0 0 := by
  refine CI_of (lv := [(0, .ref _), (1, .int _)]) G (by decide) (Nat.le_of_ble_eq_true rfl) rfl (fun p e s m args below meth c F hr => ?_)
  have F : Fx p l s m args meth c cX4_count 2 RX4 X := F
  have h4 := hS.1
  have h12 := hS.2.1
  refine v_iload_n F dX4_count_0 rfl 1 rfl ?_
  refine v_bipush F (v := nI 9) dX4_count_1 (by decide) ?_
  refine v_callSv F (As := [_, _]) (rest := []) rfl (c_X4_testWhat G hq (by decide)) wm_X4_77 rfl ⟨rfl, rfl, Nat.le_of_ble_eq_true rfl, Nat.le_of_ble_eq_true rfl, Nat.le_of_ble_eq_true rfl, Nat.le_of_ble_eq_true rfl, Nat.le_of_ble_eq_true rfl⟩ dX4_count_3 ?_
  refine v_aload_n F dX4_count_6 rfl 0 rfl ?_
  refine v_get F id_5 rfl rfl uw_X4 0 (by decide) rfl rfl wf_X4_10 dX4_count_7 ?_
  refine v_iload_n F dX4_count_10 rfl 1 rfl ?_
  refine v_callNi F (As := [_]) (rest := []) rfl (CI_q (c_X2_tellCount G (by decide) hS q hq)) (Rv_R (by decide)) wm_X4_147 rfl ⟨rfl, rfl, Nat.le_of_ble_eq_true rfl, Nat.le_of_ble_eq_true rfl, Nat.le_of_ble_eq_true rfl, Nat.le_of_ble_eq_true rfl, Nat.le_of_ble_eq_true rfl⟩ dX4_count_11 ?_
  exact v_iret F hr dX4_count_14 rfl rfl rfl
end RT
end
section
/-! ===== a quotient of two ints is a number ===== -/
theorem mean_num (a : Int32) {b : Int32} (hb : ¬ b = 0) : vf_n64 (FP.ddiv (FP.i2d a) (FP.i2d b)) := by
  have h := FP.Core.ddiv_out (FP.Core.i2d_fin a).notNaN (FP.Core.i2d_fin b) (fun z => FP.Core.i2d_ne_zero hb ((FP.Core.zero_bits2 _).mp z))
  have h2 := (FP.Core.ne_nan _).mp ((FP.Core.notNaN_iff _).mp h)
  unfold vf_n64
  rw [UInt64.le_iff_toNat_le, UInt64.toNat_and]
  show _ &&& (2 ^ 63 - 1) ≤ _
  rw [Nat.and_two_pow_sub_one_eq_mod]
  exact h2
end
section
/-! ===== the class: trials, mean, digest ===== -/
section RV
variable {p : Program} {l : Launch} {e : Env} {R : Room} {s : State} {m : MethodId} {args : Array Value} {below : List Frame} {meth : Method} {c : Code} {Q : State → Prop} {X : Cx} {nL : Nat} {ex : va_W} {M : Mem} {lf : Lf} {cells slots : Nat}
abbrev rm_X4_falls : Room := { frames := 4, cells := 0, slots := 0, locals := 92 }
set_option maxHeartbeats 4000000 in
set_option maxRecDepth 100000 in
theorem L_X4_falls (F : Fx p l s m args meth c cX4_falls 2 RX4 X) (G : Gx X l) {σ : Sg} {jc tc : Nat} {ln : Nat → Nat} (hS : Shp σ jc tc ln) {b : Nat} (hb : b + 201 < 2 ^ 31) (hbt : σ 0 0 4 = nI b) (K : ∀ (r : Int32) (τ : Sg) (pc : Nat), decode cX4_falls pc = .ok (.ireturn, 1) → ∀ lv0, r = flF (fFall1 σ b jc tc ln) 200 1 → τ = plL b jc tc ln σ (flN (fFall1 σ b jc tc ln) 200 1) → V p l e rm_X4_falls s m args below meth c Q X 2 ex (uC M 1 τ) lf 0 0 pc lv0 [.int r]) : ∀ (k q : Nat) (τ : Sg), k + q = 201 → 1 ≤ q → τ = plL b jc tc ln σ (q - 1) → flF (fFall1 σ b jc tc ln) 200 1 = flF (fFall1 σ b jc tc ln) k q → flN (fFall1 σ b jc tc ln) 200 1 = flN (fFall1 σ b jc tc ln) k q → V p l e rm_X4_falls s m args below meth c Q X 2 ex (uC M 1 τ) lf 0 0 13 [(1, .int (nI q)), (0, .ref (X.2.1 5 0 0))] [] := by
  intro k
  induction k with
  | zero =>
    intro q τ hq h1 hτ e1 e2
    obtain rfl : q = 201 := by omega
    refine v_iload_n F dX4_falls_13 rfl 0 rfl ?_
    refine v_sipush F (v := nI 200) dX4_falls_14 (by decide) ?_
    refine v_icmp_gt F (tgt := 38) dX4_falls_17 (by decide) (fun c17 => ?_) (fun h => absurd (nI_lt (by decide) (by decide)) h)
    refine v_iconst F (v := (-1)) dX4_falls_38 (by decide) ?_
    refine K _ _ 39 dX4_falls_39 _ (by rw [e1]; rfl) (by rw [e2]; exact hτ)
  | succ k ih =>
    intro q τ hq h1 hτ e1 e2
    have hST : Shp τ jc tc ln := by rw [hτ]; exact Shp_pl hS (q - 1)
    have hBT : τ 0 0 4 = nI (b + (q - 1)) := by rw [hτ]; exact plL_b hbt (q - 1)
    have hf : fBeatR τ (b + (q - 1)) tc = fFall1 σ b jc tc ln q := by rw [hτ]; rfl
    have hn : fBeat τ (b + (q - 1)) jc tc ln = plL b jc tc ln σ q := by
      rw [hτ]
      obtain ⟨z, rfl⟩ : ∃ z, q = z + 1 := ⟨q - 1, by omega⟩
      rfl
    refine v_iload_n F dX4_falls_13 rfl 0 rfl ?_
    refine v_sipush F (v := nI 200) dX4_falls_14 (by decide) ?_
    refine v_icmp_gt F (tgt := 38) dX4_falls_17 (by decide) (fun h => absurd h (nI_nlt (by omega) (by omega))) (fun c17 => ?_)
    refine v_aload_n F dX4_falls_20 rfl 1 rfl ?_
    refine v_get F id_5 rfl rfl uw_X4 1 (by decide) rfl rfl wf_X4_16 dX4_falls_21 ?_
    refine v_callNi F (As := []) (rest := []) rfl (c_X2_playBeat G (by decide) hST (show b + (q - 1) < 2 ^ 31 by omega) hBT) (Rv_R (by decide)) wm_X4_154 rfl ⟨rfl, rfl, Nat.le_of_ble_eq_true rfl, Nat.le_of_ble_eq_true rfl, Nat.le_of_ble_eq_true rfl, Nat.le_of_ble_eq_true rfl, Nat.le_of_ble_eq_true rfl⟩ dX4_falls_24 ?_
    refine v_topr (fFall1 σ b jc tc ln q) hf ?_
    refine v_if_le F (tgt := 32) dX4_falls_27 (by decide) (fun c27 => ?_) (fun c27 => ?_)
    · have := c27
      refine v_iinc F (k := 0) (nI (q + 1)) dX4_falls_32 rfl (iinc_nI q) (by decide) (lv' := [(1, .int _), (0, .ref _)]) rfl ?_
      refine v_goto F (tgt := 13) dX4_falls_35 (by decide) ?_
      refine ih (q + 1) _ (by omega) (by omega) hn ?_ ?_
      · rw [e1, flF, if_pos c27]
      · rw [e2, flN, if_pos c27]
    · have := c27
      refine v_iload_n F dX4_falls_30 rfl 0 rfl ?_
      refine K _ _ 31 dX4_falls_31 _ ?_ ?_
      · rw [e1, flF, if_neg c27]
      · rw [e2, flN, if_neg c27]; exact hn
set_option maxHeartbeats 4000000 in
set_option maxRecDepth 100000 in
theorem c_X4_falls {X : Cx} {l : Launch} (G : Gx X l) {M : Mem} {lf : Lf} {jc tc : Nat} {ln : Nat → Nat} (hS : Shp (M 0) jc tc ln) {b : Nat} (hb : b + 201 < 2 ^ 31) (hbt : M 0 0 0 4 = nI b)  : CI X l yX4_falls (wsc yX4_falls cX4_falls 2 (some .int)) rm_X4_falls [.ref (X.2.1 5 0 0)] (M) lf (flF (fFall1 (fCopyR (M 1) (M 0) jc tc ln) b jc tc ln) 200 1) (uC M 1 (plL b jc tc ln (fCopyR (M 1) (M 0) jc tc ln) (flN (fFall1 (fCopyR (M 1) (M 0) jc tc ln) b jc tc ln) 200 1))) lf 0 0 := by
  refine CI_of (lv := [(0, .ref _)]) G (by decide) (Nat.le_of_ble_eq_true rfl) rfl (fun p e s m args below meth c F hr => ?_)
  have F : Fx p l s m args meth c cX4_falls 2 RX4 X := F
  have h4 := hS.1
  have h12 := hS.2.1
  refine v_mem (uC_self _ 1) ?_
  refine v_aload_n F dX4_falls_0 rfl 0 rfl ?_
  refine v_get F id_5 rfl rfl uw_X4 1 (by decide) rfl rfl wf_X4_16 dX4_falls_1 ?_
  refine v_aload_n F dX4_falls_4 rfl 0 rfl ?_
  refine v_get F id_5 rfl rfl uw_X4 0 (by decide) rfl rfl wf_X4_10 dX4_falls_5 ?_
  refine v_callNv F (As := [_]) (rest := []) rfl (c_X2_copyFrom G (r := 1) (t := 0) (by decide) (by decide) (by decide) hS) (Rv_R (by decide)) wm_X4_150 rfl ⟨rfl, rfl, Nat.le_of_ble_eq_true rfl, Nat.le_of_ble_eq_true rfl, Nat.le_of_ble_eq_true rfl, Nat.le_of_ble_eq_true rfl, Nat.le_of_ble_eq_true rfl⟩ dX4_falls_8 ?_
  refine v_iconst F (v := nI 1) dX4_falls_11 (by decide) ?_
  refine v_istore_n F dX4_falls_12 rfl (by decide) (lv' := [(1, .int _), (0, .ref _)]) rfl ?_
  refine L_X4_falls F G (Shp_copy hS) hb (copy_b hbt) (fun r τ pc hd lv0 h1 h2 => ?_) 200 1 _ rfl (by decide) rfl rfl rfl
  exact v_iret F hr hd h1 (by rw [h2]) rfl
abbrev rm_X4_foresee : Room := { frames := 5, cells := 0, slots := 0, locals := 115 }
abbrev rx_X4_foresee : Room := { frames := 7, cells := 1, slots := 6, locals := 115 }
set_option maxHeartbeats 4000000 in
set_option maxRecDepth 100000 in
theorem c_X4_foresee_0 {X : Cx} {l : Launch} (G : Gx X l) {M : Mem} {lf : Lf} {jc tc : Nat} {ln : Nat → Nat} (hS : Shp (M 0) jc tc ln) {b n : Nat} (hb : b + n < 2 ^ 31) (hbt : M 0 0 0 4 = nI b) (h1 : 1 ≤ n) (hn : n ≤ 200) : CI X l yX4_foresee (wsc yX4_foresee cX4_foresee 4 (some .int)) rm_X4_foresee [.ref (X.2.1 5 0 0), .int (nI n), .int (nI 0)] (M) lf (fIn (plL b jc tc ln (fCopyR (M 1) (M 0) jc tc ln) n) tc 2) (uC M 1 (plL b jc tc ln (fCopyR (M 1) (M 0) jc tc ln) n)) lf 0 0 := by
  refine CI_of (lv := [(0, .ref _), (1, .int _), (2, .int _)]) G (by decide) (Nat.le_of_ble_eq_true rfl) rfl (fun p e s m args below meth c F hr => ?_)
  have F : Fx p l s m args meth c cX4_foresee 4 RX4 X := F
  have h4 := hS.1
  have h12 := hS.2.1
  refine v_iload_n F dX4_foresee_0 rfl 1 rfl ?_
  refine v_sipush F (v := nI 200) dX4_foresee_1 (by decide) ?_
  refine v_callSv F (As := [_, _]) (rest := []) rfl (c_X4_testBeats G h1 hn (by decide)) wm_X4_141 rfl ⟨rfl, rfl, Nat.le_of_ble_eq_true rfl, Nat.le_of_ble_eq_true rfl, Nat.le_of_ble_eq_true rfl, Nat.le_of_ble_eq_true rfl, Nat.le_of_ble_eq_true rfl⟩ dX4_foresee_4 ?_
  refine v_iload_n F dX4_foresee_7 rfl 2 rfl ?_
  refine v_iconst F (v := nI 3) dX4_foresee_8 (by decide) ?_
  refine v_callSv F (As := [_, _]) (rest := []) rfl (c_X4_testWhat G (show 0 < 3 by decide) (by decide)) wm_X4_77 rfl ⟨rfl, rfl, Nat.le_of_ble_eq_true rfl, Nat.le_of_ble_eq_true rfl, Nat.le_of_ble_eq_true rfl, Nat.le_of_ble_eq_true rfl, Nat.le_of_ble_eq_true rfl⟩ dX4_foresee_9 ?_
  refine v_mem (uC_self _ 1) ?_
  refine v_aload_n F dX4_foresee_12 rfl 0 rfl ?_
  refine v_get F id_5 rfl rfl uw_X4 1 (by decide) rfl rfl wf_X4_16 dX4_foresee_13 ?_
  refine v_aload_n F dX4_foresee_16 rfl 0 rfl ?_
  refine v_get F id_5 rfl rfl uw_X4 0 (by decide) rfl rfl wf_X4_10 dX4_foresee_17 ?_
  refine v_callNv F (As := [_]) (rest := []) rfl (c_X2_copyFrom G (r := 1) (t := 0) (by decide) (by decide) (by decide) hS) (Rv_R (by decide)) wm_X4_150 rfl ⟨rfl, rfl, Nat.le_of_ble_eq_true rfl, Nat.le_of_ble_eq_true rfl, Nat.le_of_ble_eq_true rfl, Nat.le_of_ble_eq_true rfl, Nat.le_of_ble_eq_true rfl⟩ dX4_foresee_20 ?_
  refine v_aload_n F dX4_foresee_23 rfl 0 rfl ?_
  refine v_get F id_5 rfl rfl uw_X4 1 (by decide) rfl rfl wf_X4_16 dX4_foresee_24 ?_
  refine v_iload_n F dX4_foresee_27 rfl 1 rfl ?_
  refine v_callNi F (As := [_]) (rest := []) rfl (c_X2_play G (by decide) (Shp_copy hS) hb (copy_b hbt)) (Rv_R (by decide)) wm_X4_144 rfl ⟨rfl, rfl, Nat.le_of_ble_eq_true rfl, Nat.le_of_ble_eq_true rfl, Nat.le_of_ble_eq_true rfl, Nat.le_of_ble_eq_true rfl, Nat.le_of_ble_eq_true rfl⟩ dX4_foresee_28 ?_
  refine v_istore_n F dX4_foresee_31 rfl (by decide) (lv' := [(3, .int _), (0, .ref _), (1, .int _), (2, .int _)]) rfl ?_
  refine v_iload_n F dX4_foresee_32 rfl 3 rfl ?_
  refine v_lookup F (off := 27) (tgt := 60) dX4_foresee_33 (by decide) (by decide) (by decide) ?_
  refine v_aload_n F dX4_foresee_60 rfl 1 rfl ?_
  refine v_get F id_5 rfl rfl uw_X4 1 (by decide) rfl rfl wf_X4_16 dX4_foresee_61 ?_
  refine v_iconst F (v := 2) dX4_foresee_64 (by decide) ?_
  refine v_callNi F (As := [_]) (rest := []) rfl (c_X2_thingsIn G (by decide) (Shp_pl (Shp_copy hS) n) 2) (Rv_R (by decide)) wm_X4_157 rfl ⟨rfl, rfl, Nat.le_of_ble_eq_true rfl, Nat.le_of_ble_eq_true rfl, Nat.le_of_ble_eq_true rfl, Nat.le_of_ble_eq_true rfl, Nat.le_of_ble_eq_true rfl⟩ dX4_foresee_65 ?_
  exact v_iret F hr dX4_foresee_68 rfl rfl rfl
set_option maxHeartbeats 4000000 in
set_option maxRecDepth 100000 in
theorem c_X4_foresee_1 {X : Cx} {l : Launch} (G : Gx X l) {M : Mem} {lf : Lf} {jc tc : Nat} {ln : Nat → Nat} (hS : Shp (M 0) jc tc ln) {b n : Nat} (hb : b + n < 2 ^ 31) (hbt : M 0 0 0 4 = nI b) (h1 : 1 ≤ n) (hn : n ≤ 200) : CI X l yX4_foresee (wsc yX4_foresee cX4_foresee 4 (some .int)) rm_X4_foresee [.ref (X.2.1 5 0 0), .int (nI n), .int (nI 1)] (M) lf (plR b jc tc ln (fCopyR (M 1) (M 0) jc tc ln) n) (uC M 1 (plL b jc tc ln (fCopyR (M 1) (M 0) jc tc ln) n)) lf 0 0 := by
  refine CI_of (lv := [(0, .ref _), (1, .int _), (2, .int _)]) G (by decide) (Nat.le_of_ble_eq_true rfl) rfl (fun p e s m args below meth c F hr => ?_)
  have F : Fx p l s m args meth c cX4_foresee 4 RX4 X := F
  have h4 := hS.1
  have h12 := hS.2.1
  refine v_iload_n F dX4_foresee_0 rfl 1 rfl ?_
  refine v_sipush F (v := nI 200) dX4_foresee_1 (by decide) ?_
  refine v_callSv F (As := [_, _]) (rest := []) rfl (c_X4_testBeats G h1 hn (by decide)) wm_X4_141 rfl ⟨rfl, rfl, Nat.le_of_ble_eq_true rfl, Nat.le_of_ble_eq_true rfl, Nat.le_of_ble_eq_true rfl, Nat.le_of_ble_eq_true rfl, Nat.le_of_ble_eq_true rfl⟩ dX4_foresee_4 ?_
  refine v_iload_n F dX4_foresee_7 rfl 2 rfl ?_
  refine v_iconst F (v := nI 3) dX4_foresee_8 (by decide) ?_
  refine v_callSv F (As := [_, _]) (rest := []) rfl (c_X4_testWhat G (show 1 < 3 by decide) (by decide)) wm_X4_77 rfl ⟨rfl, rfl, Nat.le_of_ble_eq_true rfl, Nat.le_of_ble_eq_true rfl, Nat.le_of_ble_eq_true rfl, Nat.le_of_ble_eq_true rfl, Nat.le_of_ble_eq_true rfl⟩ dX4_foresee_9 ?_
  refine v_mem (uC_self _ 1) ?_
  refine v_aload_n F dX4_foresee_12 rfl 0 rfl ?_
  refine v_get F id_5 rfl rfl uw_X4 1 (by decide) rfl rfl wf_X4_16 dX4_foresee_13 ?_
  refine v_aload_n F dX4_foresee_16 rfl 0 rfl ?_
  refine v_get F id_5 rfl rfl uw_X4 0 (by decide) rfl rfl wf_X4_10 dX4_foresee_17 ?_
  refine v_callNv F (As := [_]) (rest := []) rfl (c_X2_copyFrom G (r := 1) (t := 0) (by decide) (by decide) (by decide) hS) (Rv_R (by decide)) wm_X4_150 rfl ⟨rfl, rfl, Nat.le_of_ble_eq_true rfl, Nat.le_of_ble_eq_true rfl, Nat.le_of_ble_eq_true rfl, Nat.le_of_ble_eq_true rfl, Nat.le_of_ble_eq_true rfl⟩ dX4_foresee_20 ?_
  refine v_aload_n F dX4_foresee_23 rfl 0 rfl ?_
  refine v_get F id_5 rfl rfl uw_X4 1 (by decide) rfl rfl wf_X4_16 dX4_foresee_24 ?_
  refine v_iload_n F dX4_foresee_27 rfl 1 rfl ?_
  refine v_callNi F (As := [_]) (rest := []) rfl (c_X2_play G (by decide) (Shp_copy hS) hb (copy_b hbt)) (Rv_R (by decide)) wm_X4_144 rfl ⟨rfl, rfl, Nat.le_of_ble_eq_true rfl, Nat.le_of_ble_eq_true rfl, Nat.le_of_ble_eq_true rfl, Nat.le_of_ble_eq_true rfl, Nat.le_of_ble_eq_true rfl⟩ dX4_foresee_28 ?_
  refine v_istore_n F dX4_foresee_31 rfl (by decide) (lv' := [(3, .int _), (0, .ref _), (1, .int _), (2, .int _)]) rfl ?_
  refine v_iload_n F dX4_foresee_32 rfl 3 rfl ?_
  refine v_lookup F (off := 36) (tgt := 69) dX4_foresee_33 (by decide) (by decide) (by decide) ?_
  refine v_iload_n F dX4_foresee_69 rfl 0 rfl ?_
  exact v_iret F hr dX4_foresee_70 rfl rfl rfl
set_option maxHeartbeats 4000000 in
set_option maxRecDepth 100000 in
theorem c_X4_foresee_2 {X : Cx} {l : Launch} (G : Gx X l) {M : Mem} {lf : Lf} {jc tc : Nat} {ln : Nat → Nat} (hS : Shp (M 0) jc tc ln) {b n : Nat} (hb : b + n < 2 ^ 31) (hbt : M 0 0 0 4 = nI b) (h1 : 1 ≤ n) (hn : n ≤ 200) : CI X l yX4_foresee (wsc yX4_foresee cX4_foresee 4 (some .int)) rm_X4_foresee [.ref (X.2.1 5 0 0), .int (nI n), .int (nI 2)] (M) lf (sI (fun k => plL b jc tc ln (fCopyR (M 1) (M 0) jc tc ln) n 2 k 3) jc) (uC M 1 (plL b jc tc ln (fCopyR (M 1) (M 0) jc tc ln) n)) lf 0 0 := by
  refine CI_of (lv := [(0, .ref _), (1, .int _), (2, .int _)]) G (by decide) (Nat.le_of_ble_eq_true rfl) rfl (fun p e s m args below meth c F hr => ?_)
  have F : Fx p l s m args meth c cX4_foresee 4 RX4 X := F
  have h4 := hS.1
  have h12 := hS.2.1
  refine v_iload_n F dX4_foresee_0 rfl 1 rfl ?_
  refine v_sipush F (v := nI 200) dX4_foresee_1 (by decide) ?_
  refine v_callSv F (As := [_, _]) (rest := []) rfl (c_X4_testBeats G h1 hn (by decide)) wm_X4_141 rfl ⟨rfl, rfl, Nat.le_of_ble_eq_true rfl, Nat.le_of_ble_eq_true rfl, Nat.le_of_ble_eq_true rfl, Nat.le_of_ble_eq_true rfl, Nat.le_of_ble_eq_true rfl⟩ dX4_foresee_4 ?_
  refine v_iload_n F dX4_foresee_7 rfl 2 rfl ?_
  refine v_iconst F (v := nI 3) dX4_foresee_8 (by decide) ?_
  refine v_callSv F (As := [_, _]) (rest := []) rfl (c_X4_testWhat G (show 2 < 3 by decide) (by decide)) wm_X4_77 rfl ⟨rfl, rfl, Nat.le_of_ble_eq_true rfl, Nat.le_of_ble_eq_true rfl, Nat.le_of_ble_eq_true rfl, Nat.le_of_ble_eq_true rfl, Nat.le_of_ble_eq_true rfl⟩ dX4_foresee_9 ?_
  refine v_mem (uC_self _ 1) ?_
  refine v_aload_n F dX4_foresee_12 rfl 0 rfl ?_
  refine v_get F id_5 rfl rfl uw_X4 1 (by decide) rfl rfl wf_X4_16 dX4_foresee_13 ?_
  refine v_aload_n F dX4_foresee_16 rfl 0 rfl ?_
  refine v_get F id_5 rfl rfl uw_X4 0 (by decide) rfl rfl wf_X4_10 dX4_foresee_17 ?_
  refine v_callNv F (As := [_]) (rest := []) rfl (c_X2_copyFrom G (r := 1) (t := 0) (by decide) (by decide) (by decide) hS) (Rv_R (by decide)) wm_X4_150 rfl ⟨rfl, rfl, Nat.le_of_ble_eq_true rfl, Nat.le_of_ble_eq_true rfl, Nat.le_of_ble_eq_true rfl, Nat.le_of_ble_eq_true rfl, Nat.le_of_ble_eq_true rfl⟩ dX4_foresee_20 ?_
  refine v_aload_n F dX4_foresee_23 rfl 0 rfl ?_
  refine v_get F id_5 rfl rfl uw_X4 1 (by decide) rfl rfl wf_X4_16 dX4_foresee_24 ?_
  refine v_iload_n F dX4_foresee_27 rfl 1 rfl ?_
  refine v_callNi F (As := [_]) (rest := []) rfl (c_X2_play G (by decide) (Shp_copy hS) hb (copy_b hbt)) (Rv_R (by decide)) wm_X4_144 rfl ⟨rfl, rfl, Nat.le_of_ble_eq_true rfl, Nat.le_of_ble_eq_true rfl, Nat.le_of_ble_eq_true rfl, Nat.le_of_ble_eq_true rfl, Nat.le_of_ble_eq_true rfl⟩ dX4_foresee_28 ?_
  refine v_istore_n F dX4_foresee_31 rfl (by decide) (lv' := [(3, .int _), (0, .ref _), (1, .int _), (2, .int _)]) rfl ?_
  refine v_iload_n F dX4_foresee_32 rfl 3 rfl ?_
  refine v_lookup F (off := 38) (tgt := 71) dX4_foresee_33 (by decide) (by decide) (by decide) ?_
  refine v_aload_n F dX4_foresee_71 rfl 1 rfl ?_
  refine v_get F id_5 rfl rfl uw_X4 1 (by decide) rfl rfl wf_X4_16 dX4_foresee_72 ?_
  refine v_callNi F (As := []) (rest := []) rfl (c_X2_allBruises G (by decide) (Shp_pl (Shp_copy hS) n)) (Rv_R (by decide)) wm_X4_160 rfl ⟨rfl, rfl, Nat.le_of_ble_eq_true rfl, Nat.le_of_ble_eq_true rfl, Nat.le_of_ble_eq_true rfl, Nat.le_of_ble_eq_true rfl, Nat.le_of_ble_eq_true rfl⟩ dX4_foresee_75 ?_
  exact v_iret F hr dX4_foresee_78 rfl rfl rfl
abbrev rm_X4_fallenWith : Room := { frames := 5, cells := 0, slots := 0, locals := 115 }
theorem Shp_with {σ ρ : Sg} {b jc tc n j z h : Nat} {ln : Nat → Nat} (hS : Shp σ jc tc ln) : Shp (fWith σ ρ b jc tc ln n j z h) jc tc ln := Shp_u3 (Shp_copy hS) (by decide) (by decide)
theorem with_b {σ ρ : Sg} {b jc tc n j z h : Nat} {ln : Nat → Nat} (hb : σ 0 0 4 = nI b) : fWith σ ρ b jc tc ln n j z h 0 0 4 = nI b := (u3_ne (by omega)).trans (copy_b hb)
set_option maxHeartbeats 4000000 in
set_option maxRecDepth 100000 in
theorem c_X4_fallenWith {X : Cx} {l : Launch} (G : Gx X l) {M : Mem} {lf : Lf} {jc tc : Nat} {ln : Nat → Nat} (hS : Shp (M 0) jc tc ln) {ρ : Sg} {b n : Nat} (hb : b + n < 2 ^ 31) (hbt : M 0 0 0 4 = nI b) {j z h : Nat} (hj : j < jc) (hp : z < 8) : CI X l yX4_fallenWith (wsc yX4_fallenWith cX4_fallenWith 5 (some .int)) rm_X4_fallenWith [.ref (X.2.1 5 0 0), .int (nI j), .int (nI z), .int (nI h), .int (nI n)] (uC M 1 ρ) lf (plR b jc tc ln (fWith (M 0) ρ b jc tc ln n j z h) n) (uC M 1 (plL b jc tc ln (fWith (M 0) ρ b jc tc ln n j z h) n)) lf 0 0 := by
  refine CI_of (lv := [(0, .ref _), (1, .int _), (2, .int _), (3, .int _), (4, .int _)]) G (by decide) (Nat.le_of_ble_eq_true rfl) rfl (fun p e s m args below meth c F hr => ?_)
  have F : Fx p l s m args meth c cX4_fallenWith 5 RX4 X := F
  have h4 := hS.1
  have h12 := hS.2.1
  refine v_aload_n F dX4_fallenWith_0 rfl 0 rfl ?_
  refine v_get F id_5 rfl rfl uw_X4 1 (by decide) rfl rfl wf_X4_16 dX4_fallenWith_1 ?_
  refine v_aload_n F dX4_fallenWith_4 rfl 0 rfl ?_
  refine v_get F id_5 rfl rfl uw_X4 0 (by decide) rfl rfl wf_X4_10 dX4_fallenWith_5 ?_
  refine v_callNv F (As := [_]) (rest := []) rfl (c_X2_copyFrom G (r := 1) (t := 0) (by decide) (by decide) (by decide) hS) (Rv_R (by decide)) wm_X4_150 rfl ⟨rfl, rfl, Nat.le_of_ble_eq_true rfl, Nat.le_of_ble_eq_true rfl, Nat.le_of_ble_eq_true rfl, Nat.le_of_ble_eq_true rfl, Nat.le_of_ble_eq_true rfl⟩ dX4_fallenWith_8 ?_
  refine v_aload_n F dX4_fallenWith_11 rfl 0 rfl ?_
  refine v_get F id_5 rfl rfl uw_X4 1 (by decide) rfl rfl wf_X4_16 dX4_fallenWith_12 ?_
  refine v_getN F (id_R (by decide) (by decide) (by decide)) (heR (by decide)) rfl uw_X2 0 (by decide) rfl rfl wf_X4_50 dX4_fallenWith_15 ?_
  refine v_iload_n F dX4_fallenWith_18 rfl 1 rfl ?_
  refine v_aaldJ F (by decide) (j) (Ix_nI (show j < 4 by omega)) dX4_fallenWith_19 ?_
  refine v_getN F (id_R (by decide) (by decide) (show j < 4 by omega)) (heR (by decide)) rfl uw_X0 0 (by decide) rfl rfl wf_X4_54 dX4_fallenWith_20 ?_
  refine v_getN F (id_R (by decide) (by decide) (show j < 4 by omega)) (heR (by decide)) rfl uw_X1 0 (by decide) rfl rfl wf_X4_80 dX4_fallenWith_23 ?_
  refine v_iload_n F dX4_fallenWith_26 rfl 2 rfl ?_
  refine v_iload_n F dX4_fallenWith_27 rfl 3 rfl ?_
  refine v_iastC F (id_R (by decide) (by decide) (show j < 4 by omega)) (celD_R (by decide)) rfl (z) (Ix_nI (by omega)) (celD_R (by decide)) dX4_fallenWith_28 ?_
  refine v_aload_n F dX4_fallenWith_29 rfl 0 rfl ?_
  refine v_get F id_5 rfl rfl uw_X4 1 (by decide) rfl rfl wf_X4_16 dX4_fallenWith_30 ?_
  refine v_iload F dX4_fallenWith_33 4 rfl ?_
  refine v_callNi F (As := [_]) (rest := []) rfl (c_X2_play G (by decide) (σ := (fWith (M 0) ρ b jc tc ln n j z h)) (Shp_with hS) hb (with_b hbt)) (Rv_R (by decide)) wm_X4_144 rfl ⟨rfl, rfl, Nat.le_of_ble_eq_true rfl, Nat.le_of_ble_eq_true rfl, Nat.le_of_ble_eq_true rfl, Nat.le_of_ble_eq_true rfl, Nat.le_of_ble_eq_true rfl⟩ dX4_fallenWith_35 ?_
  exact v_iret F hr dX4_fallenWith_38 rfl rfl rfl
abbrev rm_X4_advise : Room := { frames := 6, cells := 0, slots := 0, locals := 139 }
abbrev rx_X4_advise : Room := { frames := 7, cells := 1, slots := 6, locals := 139 }
set_option maxHeartbeats 4000000 in
set_option maxRecDepth 100000 in
theorem L1_X4_advise (F : Fx p l s m args meth c cX4_advise 9 RX4 X) (G : Gx X l) {jc tc : Nat} {ln : Nat → Nat} (hS : Shp (M 0) jc tc ln) {b n : Nat} (hb : b + n < 2 ^ 31) (hbt : M 0 0 0 4 = nI b) {j : Nat} (hj : j < jc) {z : Nat} (hp : z < ln j) {W0 : Int32 × Int32 × Sg} (K : ∀ (h : Int32) (fw ad : Int32) (ρ : Sg), (fw, ad, ρ) = W0 → V p l e rm_X4_advise s m args below meth c Q X 9 ex (uC M 1 ρ) lf 0 0 112 [(7, .int h), (6, .int (nI z)), (5, .int (nI (ln j))), (4, .int ad), (3, .int fw), (0, .ref (X.2.1 5 0 0)), (1, .int (nI j)), (2, .int (nI n))] []) : ∀ (k h : Nat) (fw ad : Int32) (ρ : Sg), k + h = 10 → W0 = adI (M 0) b jc tc ln n j z k h fw ad ρ → V p l e rm_X4_advise s m args below meth c Q X 9 ex (uC M 1 ρ) lf 0 0 64 [(7, .int (nI h)), (6, .int (nI z)), (5, .int (nI (ln j))), (4, .int ad), (3, .int fw), (0, .ref (X.2.1 5 0 0)), (1, .int (nI j)), (2, .int (nI n))] [] := by
  have h4 := hS.1
  have h8 := (hS.2.2.2.2 j hj).2.1
  intro k
  induction k with
  | zero =>
    intro h fw ad ρ hq e1
    obtain rfl : h = 10 := by omega
    refine v_iload F dX4_advise_64 0 rfl ?_
    refine v_bipush F (v := nI 9) dX4_advise_66 (by decide) ?_
    refine v_icmp_gt F (tgt := 112) dX4_advise_68 (by decide) (fun c68 => ?_) (fun h => absurd (nI_lt (by decide) (by decide)) h)
    refine v_locs [0, 1, 2, 3, 4, 5, 6, 7] rfl ?_
    exact K _ _ _ _ e1.symm
  | succ k ih =>
    intro h fw ad ρ hq e1
    refine v_iload F dX4_advise_64 0 rfl ?_
    refine v_bipush F (v := nI 9) dX4_advise_66 (by decide) ?_
    refine v_icmp_gt F (tgt := 112) dX4_advise_68 (by decide) (fun h => absurd h (nI_nlt (by omega) (by omega))) (fun c68 => ?_)
    refine v_iload_n F dX4_advise_71 rfl 4 rfl ?_
    refine v_if_le F (tgt := 112) dX4_advise_72 (by decide) (fun c72 => ?_) (fun c72 => ?_)
    · have := c72
      rw [adI, if_pos c72] at e1
      refine v_locs [0, 1, 2, 3, 4, 5, 6, 7] rfl ?_
      exact K _ _ _ _ e1.symm
    · have := c72
      refine v_aload_n F dX4_advise_75 rfl 5 rfl ?_
      refine v_iload_n F dX4_advise_76 rfl 6 rfl ?_
      refine v_iload F dX4_advise_77 1 rfl ?_
      refine v_iload F dX4_advise_79 0 rfl ?_
      refine v_iload_n F dX4_advise_81 rfl 7 rfl ?_
      refine v_callVi F (As := [_, _, _, _]) (rest := []) rfl (c_X4_fallenWith G hS hb hbt (h := h) hj (show z < 8 by omega)) Rv_H wm_X4_163 rfl ⟨rfl, rfl, Nat.le_of_ble_eq_true rfl, Nat.le_of_ble_eq_true rfl, Nat.le_of_ble_eq_true rfl, Nat.le_of_ble_eq_true rfl, Nat.le_of_ble_eq_true rfl⟩ dX4_advise_82 ?_
      refine v_istore F dX4_advise_85 (by decide) (lv' := [(8, .int _), (7, .int _), (6, .int _), (5, .int _), (4, .int _), (3, .int _), (0, .ref _), (1, .int _), (2, .int _)]) rfl ?_
      refine v_iload F dX4_advise_87 0 rfl ?_
      refine v_iload_n F dX4_advise_89 rfl 5 rfl ?_
      refine v_icmp_ge F (tgt := 106) dX4_advise_90 (by decide) (fun c90 => ?_) (fun c90 => ?_)
      · have := c90
        rw [adI, if_neg c72, if_neg (nlt_le c90)] at e1
        refine v_iinc F (k := 1) (nI (h + 1)) dX4_advise_106 rfl (iinc_nI h) (by decide) (lv' := [(7, .int _), (8, .int _), (6, .int _), (5, .int _), (4, .int _), (3, .int _), (0, .ref _), (1, .int _), (2, .int _)]) rfl ?_
        refine v_goto F (tgt := 64) dX4_advise_109 (by decide) ?_
        refine v_locs [0, 2, 3, 4, 5, 6, 7, 8] rfl ?_
        exact ih (h + 1) _ _ _ (by omega) e1
      · have := c90
        rw [adI, if_neg c72, if_pos (lt_of_nle c90)] at e1
        refine v_iload F dX4_advise_93 0 rfl ?_
        refine v_istore_n F dX4_advise_95 rfl (by decide) (lv' := [(3, .int _), (8, .int _), (7, .int _), (6, .int _), (5, .int _), (4, .int _), (0, .ref _), (1, .int _), (2, .int _)]) rfl ?_
        refine v_bipush F (v := nI 10) dX4_advise_96 (by decide) ?_
        refine v_iload F dX4_advise_98 3 rfl ?_
        refine v_imul F dX4_advise_100 ?_
        refine v_iload F dX4_advise_101 2 rfl ?_
        refine v_iadd F dX4_advise_103 ?_
        refine v_istore F dX4_advise_104 (by decide) (lv' := [(4, .int _), (3, .int _), (8, .int _), (7, .int _), (6, .int _), (5, .int _), (0, .ref _), (1, .int _), (2, .int _)]) rfl ?_
        refine v_iinc F (k := 3) (nI (h + 1)) dX4_advise_106 rfl (iinc_nI h) (by decide) (lv' := [(7, .int _), (4, .int _), (3, .int _), (8, .int _), (6, .int _), (5, .int _), (0, .ref _), (1, .int _), (2, .int _)]) rfl ?_
        refine v_goto F (tgt := 64) dX4_advise_109 (by decide) ?_
        refine v_locs [0, 4, 5, 1, 2, 6, 7, 8] rfl ?_
        exact ih (h + 1) _ _ _ (by omega) e1
set_option maxHeartbeats 4000000 in
set_option maxRecDepth 100000 in
theorem L2_X4_advise (F : Fx p l s m args meth c cX4_advise 9 RX4 X) (G : Gx X l) {jc tc : Nat} {ln : Nat → Nat} (hS : Shp (M 0) jc tc ln) {b n : Nat} (hb : b + n < 2 ^ 31) (hbt : M 0 0 0 4 = nI b) {j : Nat} (hj : j < jc) {fw0 : Int32} {ρ0 : Sg} (K : ∀ (z fw ad : Int32) (ρ : Sg), (ad, ρ) = adO (M 0) b jc tc ln n j (ln j) 0 fw0 (-1) ρ0 → V p l e rm_X4_advise s m args below meth c Q X 9 ex (uC M 1 ρ) lf 0 0 118 [(6, .int z), (5, .int (nI (ln j))), (4, .int ad), (3, .int fw), (0, .ref (X.2.1 5 0 0)), (1, .int (nI j)), (2, .int (nI n))] []) : ∀ (k z : Nat) (fw ad : Int32) (ρ : Sg), k + z = ln j → adO (M 0) b jc tc ln n j (ln j) 0 fw0 (-1) ρ0 = adO (M 0) b jc tc ln n j k z fw ad ρ → V p l e rm_X4_advise s m args below meth c Q X 9 ex (uC M 1 ρ) lf 0 0 54 [(6, .int (nI z)), (5, .int (nI (ln j))), (4, .int ad), (3, .int fw), (0, .ref (X.2.1 5 0 0)), (1, .int (nI j)), (2, .int (nI n))] [] := by
  have h4 := hS.1
  have h8 := (hS.2.2.2.2 j hj).2.1
  intro k
  induction k with
  | zero =>
    intro z fw ad ρ hq e1
    obtain rfl : z = ln j := by omega
    refine v_iload F dX4_advise_54 0 rfl ?_
    refine v_iload F dX4_advise_56 1 rfl ?_
    refine v_icmp_ge F (tgt := 118) dX4_advise_58 (by decide) (fun c58 => ?_) (fun h => absurd (nI_le (Nat.le_refl _) (by omega)) h)
    exact K _ _ _ _ e1.symm
  | succ k ih =>
    intro z fw ad ρ hq e1
    refine v_iload F dX4_advise_54 0 rfl ?_
    refine v_iload F dX4_advise_56 1 rfl ?_
    refine v_icmp_ge F (tgt := 118) dX4_advise_58 (by decide) (fun h => absurd h (nI_ge (by omega) (by omega))) (fun c58 => ?_)
    refine v_iconst F (v := nI 0) dX4_advise_61 (by decide) ?_
    refine v_istore F dX4_advise_62 (by decide) (lv' := [(7, .int _), (6, .int _), (5, .int _), (4, .int _), (3, .int _), (0, .ref _), (1, .int _), (2, .int _)]) rfl ?_
    refine L1_X4_advise F G hS hb hbt hj (show z < ln j by omega) (fun h2 fw2 ad2 ρ2 e2 => ?_) 10 0 fw ad ρ rfl rfl
    · skip
      refine v_iinc F (k := 1) (nI (z + 1)) dX4_advise_112 rfl (iinc_nI z) (by decide) (lv' := [(6, .int _), (7, .int _), (5, .int _), (4, .int _), (3, .int _), (0, .ref _), (1, .int _), (2, .int _)]) rfl ?_
      refine v_goto F (tgt := 54) dX4_advise_115 (by decide) ?_
      refine v_locs [0, 2, 3, 4, 5, 6, 7] rfl ?_
      refine ih (z + 1) _ _ _ (by omega) ?_
      rw [e1, adO, ← e2]
set_option maxHeartbeats 4000000 in
set_option maxRecDepth 100000 in
theorem c_X4_advise {X : Cx} {l : Launch} (G : Gx X l) {M : Mem} {lf : Lf} {jc tc : Nat} {ln : Nat → Nat} (hS : Shp (M 0) jc tc ln) {b n : Nat} (hb : b + n < 2 ^ 31) (hbt : M 0 0 0 4 = nI b) {j : Nat} (hj : j < jc) (h1 : 1 ≤ n) (hn : n ≤ 60) : CI X l yX4_advise (wsc yX4_advise cX4_advise 9 (some .int)) rm_X4_advise [.ref (X.2.1 5 0 0), .int (nI j), .int (nI n)] (M) lf ((adO (M 0) b jc tc ln n j (ln j) 0 (plR b jc tc ln (fCopyR (M 1) (M 0) jc tc ln) n) (-1) (plL b jc tc ln (fCopyR (M 1) (M 0) jc tc ln) n)).1) (uC M 1 (adO (M 0) b jc tc ln n j (ln j) 0 (plR b jc tc ln (fCopyR (M 1) (M 0) jc tc ln) n) (-1) (plL b jc tc ln (fCopyR (M 1) (M 0) jc tc ln) n)).2) lf 0 0 := by
  refine CI_of (lv := [(0, .ref _), (1, .int _), (2, .int _)]) G (by decide) (Nat.le_of_ble_eq_true rfl) rfl (fun p e s m args below meth c F hr => ?_)
  have F : Fx p l s m args meth c cX4_advise 9 RX4 X := F
  have h4 := hS.1
  have h12 := hS.2.1
  refine v_aload_n F dX4_advise_0 rfl 0 rfl ?_
  refine v_iload_n F dX4_advise_1 rfl 1 rfl ?_
  refine v_callVv F (As := [_]) (rest := []) rfl (c_X4_testJuggler G hS hj) Rv_H wm_X4_39 rfl ⟨rfl, rfl, Nat.le_of_ble_eq_true rfl, Nat.le_of_ble_eq_true rfl, Nat.le_of_ble_eq_true rfl, Nat.le_of_ble_eq_true rfl, Nat.le_of_ble_eq_true rfl⟩ dX4_advise_2 ?_
  refine v_iload_n F dX4_advise_5 rfl 2 rfl ?_
  refine v_bipush F (v := nI 60) dX4_advise_6 (by decide) ?_
  refine v_callSv F (As := [_, _]) (rest := []) rfl (c_X4_testBeats G h1 hn (by decide)) wm_X4_141 rfl ⟨rfl, rfl, Nat.le_of_ble_eq_true rfl, Nat.le_of_ble_eq_true rfl, Nat.le_of_ble_eq_true rfl, Nat.le_of_ble_eq_true rfl, Nat.le_of_ble_eq_true rfl⟩ dX4_advise_8 ?_
  refine v_mem (uC_self _ 1) ?_
  refine v_aload_n F dX4_advise_11 rfl 0 rfl ?_
  refine v_get F id_5 rfl rfl uw_X4 1 (by decide) rfl rfl wf_X4_16 dX4_advise_12 ?_
  refine v_aload_n F dX4_advise_15 rfl 0 rfl ?_
  refine v_get F id_5 rfl rfl uw_X4 0 (by decide) rfl rfl wf_X4_10 dX4_advise_16 ?_
  refine v_callNv F (As := [_]) (rest := []) rfl (c_X2_copyFrom G (r := 1) (t := 0) (by decide) (by decide) (by decide) hS) (Rv_R (by decide)) wm_X4_150 rfl ⟨rfl, rfl, Nat.le_of_ble_eq_true rfl, Nat.le_of_ble_eq_true rfl, Nat.le_of_ble_eq_true rfl, Nat.le_of_ble_eq_true rfl, Nat.le_of_ble_eq_true rfl⟩ dX4_advise_19 ?_
  refine v_aload_n F dX4_advise_22 rfl 0 rfl ?_
  refine v_get F id_5 rfl rfl uw_X4 1 (by decide) rfl rfl wf_X4_16 dX4_advise_23 ?_
  refine v_iload_n F dX4_advise_26 rfl 2 rfl ?_
  refine v_callNi F (As := [_]) (rest := []) rfl (c_X2_play G (by decide) (Shp_copy hS) hb (copy_b hbt)) (Rv_R (by decide)) wm_X4_144 rfl ⟨rfl, rfl, Nat.le_of_ble_eq_true rfl, Nat.le_of_ble_eq_true rfl, Nat.le_of_ble_eq_true rfl, Nat.le_of_ble_eq_true rfl, Nat.le_of_ble_eq_true rfl⟩ dX4_advise_27 ?_
  refine v_istore_n F dX4_advise_30 rfl (by decide) (lv' := [(3, .int _), (0, .ref _), (1, .int _), (2, .int _)]) rfl ?_
  refine v_iconst F (v := (-1)) dX4_advise_31 (by decide) ?_
  refine v_istore F dX4_advise_32 (by decide) (lv' := [(4, .int _), (3, .int _), (0, .ref _), (1, .int _), (2, .int _)]) rfl ?_
  refine v_aload_n F dX4_advise_34 rfl 2 rfl ?_
  refine v_get F id_5 rfl rfl uw_X4 0 (by decide) rfl rfl wf_X4_10 dX4_advise_35 ?_
  refine v_getN F (id_R (by decide) (by decide) (by decide)) ((heO (by decide)).trans ((celD_R (by decide)))) rfl uw_X2 0 (by decide) rfl rfl wf_X4_50 dX4_advise_38 ?_
  refine v_iload_n F dX4_advise_41 rfl 3 rfl ?_
  refine v_aaldJ F (by decide) (j) (Ix_nI (show j < 4 by omega)) dX4_advise_42 ?_
  refine v_getN F (id_R (by decide) (by decide) (show j < 4 by omega)) ((heO (by decide)).trans ((celD_R (by decide)))) rfl uw_X0 0 (by decide) rfl rfl wf_X4_54 dX4_advise_43 ?_
  refine v_getN F (id_R (by decide) (by decide) (show j < 4 by omega)) ((heO (by decide)).trans ((celD_R (by decide)))) rfl uw_X1 2 (by decide) rfl rfl wf_X4_60 dX4_advise_46 ?_
  refine v_topr (nI (ln j)) (hS.2.2.2.2 j hj).2.2 ?_
  refine v_istore F dX4_advise_49 (by decide) (lv' := [(5, .int _), (4, .int _), (3, .int _), (0, .ref _), (1, .int _), (2, .int _)]) rfl ?_
  refine v_iconst F (v := nI 0) dX4_advise_51 (by decide) ?_
  refine v_istore F dX4_advise_52 (by decide) (lv' := [(6, .int _), (5, .int _), (4, .int _), (3, .int _), (0, .ref _), (1, .int _), (2, .int _)]) rfl ?_
  refine v_locs [0, 1, 2, 3, 4, 5, 6] rfl ?_
  refine L2_X4_advise F G hS hb hbt hj (fun z fw ad ρ e3 => ?_) (ln j) 0 _ _ _ (Nat.add_zero (ln j)) rfl
  refine v_iload F dX4_advise_118 2 rfl ?_
  exact v_iret F hr dX4_advise_120 (by rw [← e3]) (by rw [← e3]) rfl
abbrev rm_X4_mean : Room := { frames := 1, cells := 0, slots := 0, locals := 22 }
def fMean (σ : Sg) (tc : Nat) : UInt64 := if σ 0 0 4 = 0 then FP.dconst0 else FP.ddiv (FP.i2d (sI (fun k => σ 8 k 6) tc)) (FP.i2d (σ 0 0 4))
set_option maxHeartbeats 4000000 in
set_option maxRecDepth 100000 in
theorem c_X4_mean {X : Cx} {l : Launch} (G : Gx X l) {M : Mem} {lf : Lf} {jc tc : Nat} {ln : Nat → Nat} (hS : Shp (M 0) jc tc ln)  : CD X l yX4_mean (wsc yX4_mean cX4_mean 1 (some .double)) rm_X4_mean [.ref (X.2.1 5 0 0)] (M) lf (fMean (M 0) tc) (M) lf 0 0 := by
  refine CD_of (lv := [(0, .ref _)]) G (by decide) (Nat.le_of_ble_eq_true rfl) rfl (fun p e s m args below meth c F hr => ?_)
  have F : Fx p l s m args meth c cX4_mean 1 RX4 X := F
  have h4 := hS.1
  have h12 := hS.2.1
  refine v_aload_n F dX4_mean_0 rfl 0 rfl ?_
  refine v_get F id_5 rfl rfl uw_X4 0 (by decide) rfl rfl wf_X4_10 dX4_mean_1 ?_
  refine v_getN F (id_R (by decide) (by decide) (by decide)) (celD_R (by decide)) rfl uw_X2 4 (by decide) rfl rfl wf_X4_167 dX4_mean_4 ?_
  refine v_if_ne F (tgt := 12) dX4_mean_7 (by decide) (fun c7 => ?_) (fun c7 => ?_)
  · have := c7
    refine v_aload_n F dX4_mean_12 rfl 0 rfl ?_
    refine v_get F id_5 rfl rfl uw_X4 0 (by decide) rfl rfl wf_X4_10 dX4_mean_13 ?_
    refine v_callNi F (As := []) (rest := []) rfl (CI_q (c_X2_allThrown G (by decide) hS)) (Rv_R (by decide)) wm_X4_170 rfl ⟨rfl, rfl, Nat.le_of_ble_eq_true rfl, Nat.le_of_ble_eq_true rfl, Nat.le_of_ble_eq_true rfl, Nat.le_of_ble_eq_true rfl, Nat.le_of_ble_eq_true rfl⟩ dX4_mean_16 ?_
    refine v_i2d F dX4_mean_19 ?_
    refine v_aload_n F dX4_mean_20 rfl 0 rfl ?_
    refine v_get F id_5 rfl rfl uw_X4 0 (by decide) rfl rfl wf_X4_10 dX4_mean_21 ?_
    refine v_getN F (id_R (by decide) (by decide) (by decide)) (celD_R (by decide)) rfl uw_X2 4 (by decide) rfl rfl wf_X4_167 dX4_mean_24 ?_
    refine v_i2d F dX4_mean_27 ?_
    refine v_ddiv F dX4_mean_28 (mean_num _ c7) ?_
    exact v_dret F hr dX4_mean_29 (by rw [fMean, if_neg c7]) rfl rfl
  · have := c7
    refine v_dconst0 F dX4_mean_10 ?_
    exact v_dret F hr dX4_mean_11 (by rw [fMean, if_pos c7]) rfl rfl
abbrev rm_X4_digest : Room := { frames := 2, cells := 0, slots := 0, locals := 46 }
set_option maxHeartbeats 4000000 in
set_option maxRecDepth 100000 in
theorem L1_X4_digest (F : Fx p l s m args meth c cX4_digest 5 RX4 X) (G : Gx X l) {jc tc : Nat} {ln : Nat → Nat} (hS : Shp (M 0) jc tc ln) (K : V p l e rm_X4_digest s m args below meth c Q X 5 ex (M) lf 0 0 34 [(3, .int (nI 9)), (1, .long (dgL (fTellC (M 0) tc) 953 9)), (0, .ref (X.2.1 5 0 0))] []) : ∀ (k q : Nat), k + q = 9 → V p l e rm_X4_digest s m args below meth c Q X 5 ex (M) lf 0 0 6 [(3, .int (nI q)), (1, .long (dgL (fTellC (M 0) tc) 953 q)), (0, .ref (X.2.1 5 0 0))] [] := by
  intro k
  induction k with
  | zero =>
    intro q hq
    obtain rfl : q = 9 := by omega
    refine v_iload_n F dX4_digest_6 rfl 0 rfl ?_
    refine v_bipush F (v := nI 9) dX4_digest_7 (by decide) ?_
    refine v_icmp_ge F (tgt := 34) dX4_digest_9 (by decide) (fun c9 => ?_) (fun h => absurd (nI_le (Nat.le_refl _) (by omega)) h)
    exact K
  | succ k ih =>
    intro q hq
    refine v_iload_n F dX4_digest_6 rfl 0 rfl ?_
    refine v_bipush F (v := nI 9) dX4_digest_7 (by decide) ?_
    refine v_icmp_ge F (tgt := 34) dX4_digest_9 (by decide) (fun h => absurd h (nI_ge (by omega) (by omega))) (fun c9 => ?_)
    refine v_lload_n F dX4_digest_12 rfl 1 rfl ?_
    refine v_ldc2 F wk_X4_175 dX4_digest_13 ?_
    refine v_lmul F dX4_digest_16 ?_
    refine v_aload_n F dX4_digest_17 rfl 2 rfl ?_
    refine v_get F id_5 rfl rfl uw_X4 0 (by decide) rfl rfl wf_X4_10 dX4_digest_18 ?_
    refine v_iload_n F dX4_digest_21 rfl 0 rfl ?_
    refine v_callNi F (As := [_]) (rest := [.long _]) rfl (CI_q (c_X2_tellCount G (by decide) hS q (by omega))) (Rv_R (by decide)) wm_X4_147 rfl ⟨rfl, rfl, Nat.le_of_ble_eq_true rfl, Nat.le_of_ble_eq_true rfl, Nat.le_of_ble_eq_true rfl, Nat.le_of_ble_eq_true rfl, Nat.le_of_ble_eq_true rfl⟩ dX4_digest_22 ?_
    refine v_i2l F dX4_digest_25 ?_
    refine v_ladd F dX4_digest_26 ?_
    refine v_lstore_n F dX4_digest_27 rfl (by decide) (lv' := [(1, .long _), (3, .int _), (0, .ref _)]) rfl ?_
    refine v_iinc F (k := 1) (nI (q + 1)) dX4_digest_28 rfl (iinc_nI q) (by decide) (lv' := [(3, .int _), (1, .long _), (0, .ref _)]) rfl ?_
    refine v_goto F (tgt := 6) dX4_digest_31 (by decide) ?_
    exact v_locs [0, 1, 2] rfl (ih (q + 1) (by omega))
set_option maxHeartbeats 4000000 in
set_option maxRecDepth 100000 in
theorem L2i_X4_digest (F : Fx p l s m args meth c cX4_digest 5 RX4 X) (G : Gx X l) {jc tc : Nat} {ln : Nat → Nat} (hS : Shp (M 0) jc tc ln) {d : Int64} {q : Nat} (hq0 : q < jc) (K : V p l e rm_X4_digest s m args below meth c Q X 5 ex (M) lf 0 0 81 [(4, .int (nI 7)), (3, .int (nI q)), (1, .long (dgL (fTellJ (M 0) tc q) d 7)), (0, .ref (X.2.1 5 0 0))] []) : ∀ (k a : Nat), k + a = 7 → V p l e rm_X4_digest s m args below meth c Q X 5 ex (M) lf 0 0 50 [(4, .int (nI a)), (3, .int (nI q)), (1, .long (dgL (fTellJ (M 0) tc q) d a)), (0, .ref (X.2.1 5 0 0))] [] := by
  intro k
  induction k with
  | zero =>
    intro a ha
    obtain rfl : a = 7 := by omega
    refine v_iload F dX4_digest_50 0 rfl ?_
    refine v_bipush F (v := nI 7) dX4_digest_52 (by decide) ?_
    refine v_icmp_ge F (tgt := 81) dX4_digest_54 (by decide) (fun c54 => ?_) (fun h => absurd (nI_le (Nat.le_refl _) (by omega)) h)
    exact K
  | succ k ih =>
    intro a ha
    refine v_iload F dX4_digest_50 0 rfl ?_
    refine v_bipush F (v := nI 7) dX4_digest_52 (by decide) ?_
    refine v_icmp_ge F (tgt := 81) dX4_digest_54 (by decide) (fun h => absurd h (nI_ge (by omega) (by omega))) (fun c54 => ?_)
    refine v_lload_n F dX4_digest_57 rfl 2 rfl ?_
    refine v_ldc2 F wk_X4_175 dX4_digest_58 ?_
    refine v_lmul F dX4_digest_61 ?_
    refine v_aload_n F dX4_digest_62 rfl 3 rfl ?_
    refine v_get F id_5 rfl rfl uw_X4 0 (by decide) rfl rfl wf_X4_10 dX4_digest_63 ?_
    refine v_iload_n F dX4_digest_66 rfl 1 rfl ?_
    refine v_iload F dX4_digest_67 0 rfl ?_
    refine v_callNi F (As := [_, _]) (rest := [.long _]) rfl (CI_q (c_X2_tellJuggler G (by decide) hS hq0 a (by omega))) (Rv_R (by decide)) wm_X4_128 rfl ⟨rfl, rfl, Nat.le_of_ble_eq_true rfl, Nat.le_of_ble_eq_true rfl, Nat.le_of_ble_eq_true rfl, Nat.le_of_ble_eq_true rfl, Nat.le_of_ble_eq_true rfl⟩ dX4_digest_69 ?_
    refine v_i2l F dX4_digest_72 ?_
    refine v_ladd F dX4_digest_73 ?_
    refine v_lstore_n F dX4_digest_74 rfl (by decide) (lv' := [(1, .long _), (4, .int _), (3, .int _), (0, .ref _)]) rfl ?_
    refine v_iinc F (k := 1) (nI (a + 1)) dX4_digest_75 rfl (iinc_nI a) (by decide) (lv' := [(4, .int _), (1, .long _), (3, .int _), (0, .ref _)]) rfl ?_
    refine v_goto F (tgt := 50) dX4_digest_78 (by decide) ?_
    exact v_locs [0, 2, 1, 3] rfl (ih (a + 1) (by omega))
set_option maxHeartbeats 4000000 in
set_option maxRecDepth 100000 in
theorem L3i_X4_digest (F : Fx p l s m args meth c cX4_digest 5 RX4 X) (G : Gx X l) {jc tc : Nat} {ln : Nat → Nat} (hS : Shp (M 0) jc tc ln) {d : Int64} {q : Nat} (hq0 : q < tc) (K : V p l e rm_X4_digest s m args below meth c Q X 5 ex (M) lf 0 0 151 [(4, .int (nI 7)), (3, .int (nI q)), (1, .long (dgL (fTellT (M 0) q) d 7)), (0, .ref (X.2.1 5 0 0))] []) : ∀ (k a : Nat), k + a = 7 → V p l e rm_X4_digest s m args below meth c Q X 5 ex (M) lf 0 0 120 [(4, .int (nI a)), (3, .int (nI q)), (1, .long (dgL (fTellT (M 0) q) d a)), (0, .ref (X.2.1 5 0 0))] [] := by
  intro k
  induction k with
  | zero =>
    intro a ha
    obtain rfl : a = 7 := by omega
    refine v_iload F dX4_digest_120 0 rfl ?_
    refine v_bipush F (v := nI 7) dX4_digest_122 (by decide) ?_
    refine v_icmp_ge F (tgt := 151) dX4_digest_124 (by decide) (fun c124 => ?_) (fun h => absurd (nI_le (Nat.le_refl _) (by omega)) h)
    exact K
  | succ k ih =>
    intro a ha
    refine v_iload F dX4_digest_120 0 rfl ?_
    refine v_bipush F (v := nI 7) dX4_digest_122 (by decide) ?_
    refine v_icmp_ge F (tgt := 151) dX4_digest_124 (by decide) (fun h => absurd h (nI_ge (by omega) (by omega))) (fun c124 => ?_)
    refine v_lload_n F dX4_digest_127 rfl 2 rfl ?_
    refine v_ldc2 F wk_X4_175 dX4_digest_128 ?_
    refine v_lmul F dX4_digest_131 ?_
    refine v_aload_n F dX4_digest_132 rfl 3 rfl ?_
    refine v_get F id_5 rfl rfl uw_X4 0 (by decide) rfl rfl wf_X4_10 dX4_digest_133 ?_
    refine v_iload_n F dX4_digest_136 rfl 1 rfl ?_
    refine v_iload F dX4_digest_137 0 rfl ?_
    refine v_callNi F (As := [_, _]) (rest := [.long _]) rfl (CI_q (c_X2_tellThing G (by decide) hS hq0 a (by omega))) (Rv_R (by decide)) wm_X4_124 rfl ⟨rfl, rfl, Nat.le_of_ble_eq_true rfl, Nat.le_of_ble_eq_true rfl, Nat.le_of_ble_eq_true rfl, Nat.le_of_ble_eq_true rfl, Nat.le_of_ble_eq_true rfl⟩ dX4_digest_139 ?_
    refine v_i2l F dX4_digest_142 ?_
    refine v_ladd F dX4_digest_143 ?_
    refine v_lstore_n F dX4_digest_144 rfl (by decide) (lv' := [(1, .long _), (4, .int _), (3, .int _), (0, .ref _)]) rfl ?_
    refine v_iinc F (k := 1) (nI (a + 1)) dX4_digest_145 rfl (iinc_nI a) (by decide) (lv' := [(4, .int _), (1, .long _), (3, .int _), (0, .ref _)]) rfl ?_
    refine v_goto F (tgt := 120) dX4_digest_148 (by decide) ?_
    exact v_locs [0, 2, 1, 3] rfl (ih (a + 1) (by omega))
set_option maxHeartbeats 4000000 in
set_option maxRecDepth 100000 in
theorem L2_X4_digest (F : Fx p l s m args meth c cX4_digest 5 RX4 X) (G : Gx X l) {jc tc : Nat} {ln : Nat → Nat} (hS : Shp (M 0) jc tc ln) {d : Int64} (K : V p l e rm_X4_digest s m args below meth c Q X 5 ex (M) lf 0 0 104 [(3, .int (nI jc)), (1, .long (dgJ (M 0) tc ln d jc)), (0, .ref (X.2.1 5 0 0))] []) : ∀ (k q : Nat), k + q = jc → V p l e rm_X4_digest s m args below meth c Q X 5 ex (M) lf 0 0 36 [(3, .int (nI q)), (1, .long (dgJ (M 0) tc ln d q)), (0, .ref (X.2.1 5 0 0))] [] := by
  have h4 := hS.1
  intro k
  induction k with
  | zero =>
    intro q hq
    obtain rfl : q = jc := by omega
    refine v_iload_n F dX4_digest_36 rfl 0 rfl ?_
    refine v_aload_n F dX4_digest_37 rfl 2 rfl ?_
    refine v_get F id_5 rfl rfl uw_X4 0 (by decide) rfl rfl wf_X4_10 dX4_digest_38 ?_
    refine v_getN F (id_R (by decide) (by decide) (by decide)) (celD_R (by decide)) rfl uw_X2 2 (by decide) rfl rfl wf_X4_26 dX4_digest_41 ?_
    refine v_topr (nI q) hS.2.2.1 ?_
    refine v_icmp_ge F (tgt := 104) dX4_digest_44 (by decide) (fun c44 => ?_) (fun h => absurd (nI_le (Nat.le_refl _) (by omega)) h)
    exact K
  | succ k ih =>
    intro q hq
    have hp := hS.2.2.2.2 q (by omega)
    refine v_iload_n F dX4_digest_36 rfl 0 rfl ?_
    refine v_aload_n F dX4_digest_37 rfl 2 rfl ?_
    refine v_get F id_5 rfl rfl uw_X4 0 (by decide) rfl rfl wf_X4_10 dX4_digest_38 ?_
    refine v_getN F (id_R (by decide) (by decide) (by decide)) (celD_R (by decide)) rfl uw_X2 2 (by decide) rfl rfl wf_X4_26 dX4_digest_41 ?_
    refine v_topr (nI jc) hS.2.2.1 ?_
    refine v_icmp_ge F (tgt := 104) dX4_digest_44 (by decide) (fun h => absurd h (nI_ge (by omega) (by omega))) (fun c44 => ?_)
    refine v_iconst F (v := nI 0) dX4_digest_47 (by decide) ?_
    refine v_istore F dX4_digest_48 (by decide) (lv' := [(4, .int _), (3, .int _), (1, .long _), (0, .ref _)]) rfl ?_
    refine L2i_X4_digest F G hS (show q < jc by omega) ?_ 7 0 rfl
    · skip
      refine v_aload_n F dX4_digest_81 rfl 3 rfl ?_
      refine v_get F id_5 rfl rfl uw_X4 0 (by decide) rfl rfl wf_X4_10 dX4_digest_82 ?_
      refine v_getN F (id_R (by decide) (by decide) (by decide)) (celD_R (by decide)) rfl uw_X2 0 (by decide) rfl rfl wf_X4_50 dX4_digest_85 ?_
      refine v_iload_n F dX4_digest_88 rfl 1 rfl ?_
      refine v_aaldJ F (by decide) (q) (Ix_nI (by omega)) dX4_digest_89 ?_
      refine v_getN F (id_R (by decide) (by decide) (show q < 4 by omega)) (celD_R (by decide)) rfl uw_X0 0 (by decide) rfl rfl wf_X4_54 dX4_digest_90 ?_
      refine v_lload_n F dX4_digest_93 rfl 2 rfl ?_
      refine v_callNl F (As := [_]) (rest := []) rfl (CL_q (c_X1_addTo G (by decide) (show q < 4 by omega) hp.2.1 hp.2.2 _)) (Rv_P (by decide) (show q < 4 by omega)) wm_X4_177 rfl ⟨rfl, rfl, Nat.le_of_ble_eq_true rfl, Nat.le_of_ble_eq_true rfl, Nat.le_of_ble_eq_true rfl, Nat.le_of_ble_eq_true rfl, Nat.le_of_ble_eq_true rfl⟩ dX4_digest_94 ?_
      refine v_lstore_n F dX4_digest_97 rfl (by decide) (lv' := [(1, .long _), (4, .int _), (3, .int _), (0, .ref _)]) rfl ?_
      refine v_iinc F (k := 2) (nI (q + 1)) dX4_digest_98 rfl (iinc_nI q) (by decide) (lv' := [(3, .int _), (1, .long _), (4, .int _), (0, .ref _)]) rfl ?_
      refine v_goto F (tgt := 36) dX4_digest_101 (by decide) ?_
      exact v_locs [0, 1, 3] rfl (ih (q + 1) (by omega))
set_option maxHeartbeats 4000000 in
set_option maxRecDepth 100000 in
theorem L3_X4_digest (F : Fx p l s m args meth c cX4_digest 5 RX4 X) (G : Gx X l) {jc tc : Nat} {ln : Nat → Nat} (hS : Shp (M 0) jc tc ln) {d : Int64} (K : V p l e rm_X4_digest s m args below meth c Q X 5 ex (M) lf 0 0 157 [(3, .int (nI tc)), (1, .long (dgT (M 0) d tc)), (0, .ref (X.2.1 5 0 0))] []) : ∀ (k q : Nat), k + q = tc → V p l e rm_X4_digest s m args below meth c Q X 5 ex (M) lf 0 0 106 [(3, .int (nI q)), (1, .long (dgT (M 0) d q)), (0, .ref (X.2.1 5 0 0))] [] := by
  have h12 := hS.2.1
  intro k
  induction k with
  | zero =>
    intro q hq
    obtain rfl : q = tc := by omega
    refine v_iload_n F dX4_digest_106 rfl 0 rfl ?_
    refine v_aload_n F dX4_digest_107 rfl 2 rfl ?_
    refine v_get F id_5 rfl rfl uw_X4 0 (by decide) rfl rfl wf_X4_10 dX4_digest_108 ?_
    refine v_getN F (id_R (by decide) (by decide) (by decide)) (celD_R (by decide)) rfl uw_X2 3 (by decide) rfl rfl wf_X4_85 dX4_digest_111 ?_
    refine v_topr (nI q) hS.2.2.2.1 ?_
    refine v_icmp_ge F (tgt := 157) dX4_digest_114 (by decide) (fun c114 => ?_) (fun h => absurd (nI_le (Nat.le_refl _) (by omega)) h)
    exact K
  | succ k ih =>
    intro q hq
    refine v_iload_n F dX4_digest_106 rfl 0 rfl ?_
    refine v_aload_n F dX4_digest_107 rfl 2 rfl ?_
    refine v_get F id_5 rfl rfl uw_X4 0 (by decide) rfl rfl wf_X4_10 dX4_digest_108 ?_
    refine v_getN F (id_R (by decide) (by decide) (by decide)) (celD_R (by decide)) rfl uw_X2 3 (by decide) rfl rfl wf_X4_85 dX4_digest_111 ?_
    refine v_topr (nI tc) hS.2.2.2.1 ?_
    refine v_icmp_ge F (tgt := 157) dX4_digest_114 (by decide) (fun h => absurd h (nI_ge (by omega) (by omega))) (fun c114 => ?_)
    refine v_iconst F (v := nI 0) dX4_digest_117 (by decide) ?_
    refine v_istore F dX4_digest_118 (by decide) (lv' := [(4, .int _), (3, .int _), (1, .long _), (0, .ref _)]) rfl ?_
    refine L3i_X4_digest F G hS (show q < tc by omega) ?_ 7 0 rfl
    · skip
      refine v_iinc F (k := 1) (nI (q + 1)) dX4_digest_151 rfl (iinc_nI q) (by decide) (lv' := [(3, .int _), (4, .int _), (1, .long _), (0, .ref _)]) rfl ?_
      refine v_goto F (tgt := 106) dX4_digest_154 (by decide) ?_
      exact v_locs [0, 2, 3] rfl (ih (q + 1) (by omega))
set_option maxHeartbeats 4000000 in
set_option maxRecDepth 100000 in
theorem c_X4_digest {X : Cx} {l : Launch} (G : Gx X l) {M : Mem} {lf : Lf} {jc tc : Nat} {ln : Nat → Nat} (hS : Shp (M 0) jc tc ln)  : CL X l yX4_digest (wsc yX4_digest cX4_digest 5 (some .long)) rm_X4_digest [.ref (X.2.1 5 0 0)] (M) lf (fDigest (M 0) jc tc ln) (M) lf 0 0 := by
  refine CL_of (lv := [(0, .ref _)]) G (by decide) (Nat.le_of_ble_eq_true rfl) rfl (fun p e s m args below meth c F hr => ?_)
  have F : Fx p l s m args meth c cX4_digest 5 RX4 X := F
  have h4 := hS.1
  have h12 := hS.2.1
  refine v_ldc2 F wk_X4_173 dX4_digest_0 ?_
  refine v_lstore_n F dX4_digest_3 rfl (by decide) (lv' := [(1, .long _), (0, .ref _)]) rfl ?_
  refine v_iconst F (v := nI 0) dX4_digest_4 (by decide) ?_
  refine v_istore_n F dX4_digest_5 rfl (by decide) (lv' := [(3, .int _), (1, .long _), (0, .ref _)]) rfl ?_
  refine L1_X4_digest F G hS ?_ 9 0 rfl
  · skip
    refine v_iconst F (v := nI 0) dX4_digest_34 (by decide) ?_
    refine v_istore_n F dX4_digest_35 rfl (by decide) (lv' := [(3, .int _), (1, .long _), (0, .ref _)]) rfl ?_
    refine v_locs [0, 1, 2] rfl ?_
    refine L2_X4_digest F G hS ?_ jc 0 (Nat.add_zero jc)
    · skip
      refine v_iconst F (v := nI 0) dX4_digest_104 (by decide) ?_
      refine v_istore_n F dX4_digest_105 rfl (by decide) (lv' := [(3, .int _), (1, .long _), (0, .ref _)]) rfl ?_
      refine v_locs [0, 1, 2] rfl ?_
      refine L3_X4_digest F G hS ?_ tc 0 (Nat.add_zero tc)
      · skip
        refine v_lload_n F dX4_digest_157 rfl 1 rfl ?_
        exact v_lret F hr dX4_digest_158 rfl rfl rfl
end RV
end
section
/-! ===== lemmas of rings ===== -/
section PU
variable {σ σ' ρ : Sg} {jc tc b k i hd : Nat} {ln : Nat → Nat}
theorem nI_m1 {k : Nat} (h : k < 2 ^ 31) : ¬ nI k = -1 := fun z => nI_pos h (by rw [z]; decide)
theorem nI_inj {a b : Nat} (ha : a < 2 ^ 31) (hb : b < 2 ^ 31) (h : nI a = nI b) : a = b := (nI_eq ha hb).mp h
theorem sI_eq {f g : Nat → Int32} : ∀ {n : Nat}, (∀ j, j < n → f j = g j) → sI f n = sI g n
  | 0, _ => rfl
  | n + 1, h => by
    show sI f n + f n = sI g n + g n
    rw [sI_eq (fun j hj => h j (by omega)), h n (by omega)]
theorem sI_inc {f g : Nat → Int32} {k : Nat} (hk : f k = g k + 1) (h : ∀ j, j ≠ k → f j = g j) : ∀ {n : Nat}, k < n → sI f n = sI g n + 1
  | 0, z => absurd z (Nat.not_lt_zero k)
  | n + 1, z => by
    show sI f n + f n = sI g n + g n + 1
    by_cases y : n = k
    · subst y
      rw [sI_eq (fun j hj => h j (by omega)), hk, Int32.add_assoc]
    · rw [sI_inc hk h (show k < n by omega), h n y, Int32.add_assoc, Int32.add_assoc, Int32.add_comm 1]
theorem u3_u3 (σ : Sg) (k i j : Nat) (v w : Int32) : u3 (u3 σ k i j v) k i j w = u3 σ k i j w := by
  funext a x c
  rw [u3_eq, u3_eq, u3_eq]
  split <;> rfl
theorem u3_self (σ : Sg) (k i j : Nat) : u3 σ k i j (σ k i j) = σ := by
  funext a x c
  rw [u3_eq]
  split
  · rename_i z
    obtain ⟨rfl, rfl, rfl⟩ := z
    rfl
  · rfl
def Alk (σ σ' : Sg) (jc tc : Nat) (ln : Nat → Nat) : Prop := (∀ c, 2 ≤ c → c ≤ 4 → σ' 0 0 c = σ 0 0 c) ∧ (∀ i, i < jc → (∀ c, 2 ≤ c → c ≤ 4 → σ' 2 i c = σ 2 i c) ∧ σ' 3 i 2 = σ 3 i 2 ∧ (∀ h, h < 2 → σ' 6 i h = σ 6 i h) ∧ ∀ p, p < ln i → σ' 4 i p = σ 4 i p ∧ σ' 5 i p = σ 5 i p) ∧ ∀ k, k < tc → ∀ c, c < 8 → σ' 8 k c = σ 8 k c
theorem fCopyT_8 {m a c : Nat} (h : c < 8) : fCopyT σ ρ m 8 a c = if a = m then ρ 8 m c else σ 8 a c := by
  unfold fCopyT
  simp only [u3_eq]
  have : c = 0 ∨ c = 1 ∨ c = 2 ∨ c = 3 ∨ c = 4 ∨ c = 5 ∨ c = 6 ∨ c = 7 := by omega
  rcases this with rfl | rfl | rfl | rfl | rfl | rfl | rfl | rfl <;> simp
theorem cpTL_8 {c : Nat} (h : c < 8) : ∀ n, k < n → cpTL ρ σ n 8 k c = ρ 8 k c
  | 0, z => absurd z (Nat.not_lt_zero k)
  | n + 1, z => by
    show fCopyT (cpTL ρ σ n) ρ n 8 k c = ρ 8 k c
    rw [fCopyT_8 h]
    by_cases y : k = n
    · rw [if_pos y, y]
    · rw [if_neg y]
      exact cpTL_8 h n (by omega)
theorem cpPL_at {a : Nat} (h : a = 4 ∨ a = 5) {p : Nat} : ∀ n, p < n → cpPL i ρ σ n a i p = ρ a i p
  | 0, z => absurd z (Nat.not_lt_zero p)
  | n + 1, z => by
    show u3 (u3 (cpPL i ρ σ n) 4 i n (ρ 4 i n)) 5 i n (ρ 5 i n) a i p = ρ a i p
    by_cases y : p = n
    · subst y
      rcases h with rfl | rfl
      · rw [u3_ne (by omega), u3_at]
      · rw [u3_at]
    · rw [u3_ne (by omega), u3_ne (by omega)]
      exact cpPL_at h n (by omega)
theorem cpPL_i {a x c : Nat} (h : x ≠ i) : ∀ n, cpPL i ρ σ n a x c = σ a x c
  | 0 => rfl
  | n + 1 => by
    show u3 (u3 (cpPL i ρ σ n) 4 i n (ρ 4 i n)) 5 i n (ρ 5 i n) a x c = σ a x c
    rw [u3_ne (by omega), u3_ne (by omega)]
    exact cpPL_i h n
theorem fCopyJ_i {n a x c : Nat} (h : x ≠ i) : fCopyJ σ ρ i n a x c = σ a x c := by
  unfold fCopyJ fCopyP
  rw [u3_ne (by omega), u3_ne (by omega), u3_ne (by omega), u3_ne (by omega), u3_ne (by omega), cpPL_i h, u3_ne (by omega)]
theorem fCopyJ_at {n a c : Nat} (h : (a = 2 ∧ 2 ≤ c ∧ c ≤ 4) ∨ (a = 3 ∧ c = 2) ∨ (a = 6 ∧ c < 2) ∨ ((a = 4 ∨ a = 5) ∧ c < n)) : fCopyJ σ ρ i n a i c = ρ a i c := by
  unfold fCopyJ fCopyP
  rcases h with ⟨rfl, h1, h2⟩ | ⟨rfl, rfl⟩ | ⟨rfl, h1⟩ | ⟨h1, h2⟩
  · have : c = 2 ∨ c = 3 ∨ c = 4 := by omega
    rcases this with rfl | rfl | rfl <;> simp [u3_eq]
  · rw [u3_ne (by omega), u3_ne (by omega), u3_ne (by omega), u3_ne (by omega), u3_ne (by omega), cpPL_k (by omega) (by omega), u3_at]
  · have : c = 0 ∨ c = 1 := by omega
    rcases this with rfl | rfl <;> simp [u3_eq]
  · rw [u3_ne (by omega), u3_ne (by omega), u3_ne (by omega), u3_ne (by omega), u3_ne (by omega)]
    exact cpPL_at h1 n h2
theorem cpJL_at {a c : Nat} (h : (a = 2 ∧ 2 ≤ c ∧ c ≤ 4) ∨ (a = 3 ∧ c = 2) ∨ (a = 6 ∧ c < 2) ∨ ((a = 4 ∨ a = 5) ∧ c < ln i)) : ∀ n, i < n → cpJL ρ ln σ n a i c = ρ a i c
  | 0, z => absurd z (Nat.not_lt_zero i)
  | n + 1, z => by
    show fCopyJ (cpJL ρ ln σ n) ρ n (ln n) a i c = ρ a i c
    by_cases y : i = n
    · subst y
      exact fCopyJ_at h
    · rw [fCopyJ_i y]
      exact cpJL_at h n (by omega)
theorem Alk_copy : Alk ρ (fCopyR σ ρ jc tc ln) jc tc ln := by
  refine ⟨fun c h1 h2 => fCopyR_0 (by omega), fun i hi => ⟨fun c h1 h2 => ?_, ?_, fun h hh => ?_, fun p hp => ⟨?_, ?_⟩⟩, fun k hk c hc => cpTL_8 hc tc hk⟩
  all_goals
    unfold fCopyR
    rw [cpTL_k (by decide), cpJL_at (by omega) jc hi]
theorem cI_eq {f g : Nat → Bool} : ∀ {n : Nat}, (∀ j, j < n → f j = g j) → cI f n = cI g n
  | 0, _ => rfl
  | n + 1, h => by
    show (if f n = true then cI f n + 1 else cI f n) = if g n = true then cI g n + 1 else cI g n
    rw [cI_eq (fun j hj => h j (by omega)), h n (by omega)]
theorem dnR_n : ∀ n, ∃ d, d ≤ n ∧ dnR hd σ n = nI d
  | 0 => ⟨0, Nat.le_refl 0, rfl⟩
  | n + 1 => by
    obtain ⟨d, h1, h2⟩ := dnR_n n
    have : fDown1r (dnL hd σ n) n hd = 0 ∨ fDown1r (dnL hd σ n) n hd = 1 := by
      unfold fDown1r
      split
      · exact Or.inl rfl
      · split
        · exact Or.inl rfl
        · split
          · exact Or.inr rfl
          · exact Or.inl rfl
    show ∃ d, d ≤ n + 1 ∧ dnR hd σ n + fDown1r (dnL hd σ n) n hd = nI d
    rcases this with z | z
    · exact ⟨d, by omega, by rw [z, Int32.add_zero]; exact h2⟩
    · exact ⟨d + 1, by omega, by rw [z, h2, nI_1]⟩
theorem plR_n : ∀ n, ∃ d, d ≤ n * tc ∧ plR b jc tc ln σ n = nI d
  | 0 => ⟨0, Nat.zero_le _, rfl⟩
  | n + 1 => by
    obtain ⟨d, h1, h2⟩ := plR_n n
    obtain ⟨d2, h3, h4⟩ := dnR_n (hd := (b + n) % 2) (σ := plL b jc tc ln σ n) tc
    refine ⟨d + d2, by rw [Nat.succ_mul]; omega, ?_⟩
    show plR b jc tc ln σ n + dnR ((b + n) % 2) (plL b jc tc ln σ n) tc = _
    rw [h2, h4, nI_add]
theorem sI_zero {f : Nat → Int32} {n : Nat} : ∀ m, (∀ j, n ≤ j → j < n + m → f j = 0) → sI f (n + m) = sI f n
  | 0, _ => rfl
  | m + 1, h => by
    show sI f (n + m) + f (n + m) = sI f n
    rw [h (n + m) (by omega) (by omega), Int32.add_zero]
    exact sI_zero m (fun j h1 h2 => h j h1 (by omega))
theorem sI_cut {f g : Nat → Int32} {n m : Nat} (hn : n ≤ m) (h0 : ∀ j, n ≤ j → j < m → f j = 0) (h : ∀ j, j < n → f j = g j) : sI f m = sI g n := by
  obtain ⟨d, rfl⟩ : ∃ d, m = n + d := ⟨m - n, by omega⟩
  rw [sI_zero d h0, sI_eq h]
end PU
end
section
/-! ===== what a ring keeps to, and a step of it ===== -/
def hv (x : Int32) : Int32 := if x < 0 then 0 else 1
theorem hv_m : hv (-1) = 0 := by decide
theorem hv_n {k : Nat} (h : k < 2 ^ 31) : hv (nI k) = 1 := if_neg (nI_pos h)
def sThr (σ : Sg) (tc : Nat) : Int32 := sI (fun k => σ 8 k 6) tc
def sFel (σ : Sg) (tc : Nat) : Int32 := sI (fun k => σ 8 k 7) tc
def sCau (σ : Sg) (jc : Nat) : Int32 := sI (fun i => σ 2 i 4) jc
def sBru (σ : Sg) (jc : Nat) : Int32 := sI (fun i => σ 2 i 3) jc
def hamF (σ : Sg) (k : Nat) : Int32 := if σ 8 k 0 = 1 then σ 8 k 7 else 0
def sHam (σ : Sg) (tc : Nat) : Int32 := sI (hamF σ) tc
def atF (σ : Sg) (x : Int32) (k : Nat) : Int32 := if σ 8 k 1 = x then 1 else 0
def sAt (σ : Sg) (tc : Nat) (x : Int32) : Int32 := sI (atF σ x) tc
def hanF (σ : Sg) (i : Nat) : Int32 := hv (σ 6 i 0) + hv (σ 6 i 1)
def sHan (σ : Sg) (jc : Nat) : Int32 := sI (hanF σ) jc
def Sm (σ : Sg) (jc tc : Nat) : Prop := sThr σ tc = sCau σ jc + sFel σ tc + sAt σ tc 2 ∧ sBru σ jc = sHam σ tc ∧ sHan σ jc = sAt σ tc 1
def Pat (σ : Sg) (jc : Nat) (ln : Nat → Nat) : Prop := ∀ i, i < jc → ∀ p, p < ln i → ∃ h t, h ≤ 9 ∧ t < jc ∧ σ 4 i p = nI h ∧ σ 5 i p = nI t
def Hnd (σ : Sg) (jc tc : Nat) : Prop := ∀ i h, i < jc → h < 2 → σ 6 i h = -1 ∨ ∃ k, k < tc ∧ σ 6 i h = nI k ∧ σ 8 k 1 = 1 ∧ σ 8 k 2 = nI i ∧ σ 8 k 3 = nI h
def tAt (σ : Sg) (jc lo hi k : Nat) : Prop := (σ 8 k 1 = 0 ∧ σ 8 k 2 = -1 ∧ σ 8 k 3 = -1) ∨ (σ 8 k 1 = 1 ∧ ∃ i h, i < jc ∧ h < 2 ∧ σ 8 k 2 = nI i ∧ σ 8 k 3 = nI h ∧ σ 6 i h = nI k) ∨ (σ 8 k 1 = 2 ∧ σ 8 k 3 = -1 ∧ ∃ i d, i < jc ∧ σ 8 k 2 = nI i ∧ lo ≤ d ∧ d ≤ hi ∧ σ 8 k 4 = nI d) ∨ (σ 8 k 1 = 3 ∧ σ 8 k 2 = -1 ∧ σ 8 k 3 = -1)
def tEg (σ : Sg) (k : Nat) : Prop := (σ 8 k 0 = 0 ∨ σ 8 k 0 = 1 ∨ σ 8 k 0 = 2) ∧ (σ 8 k 1 = 3 → σ 8 k 0 = 2 ∧ σ 8 k 7 = 1) ∧ (¬ σ 8 k 1 = 3 → σ 8 k 0 = 2 → σ 8 k 7 = 0)
def Tng (σ : Sg) (jc tc : Nat) (lo : Nat → Nat) (hi : Nat) : Prop := ∀ k, k < tc → tAt σ jc (lo k) hi k ∧ tEg σ k
def Fre (σ : Sg) (jc tc : Nat) : Prop := (∀ i, jc ≤ i → i < 4 → σ 6 i 0 = -1 ∧ σ 6 i 1 = -1 ∧ σ 2 i 3 = 0 ∧ σ 2 i 4 = 0) ∧ ∀ k, tc ≤ k → k < 12 → σ 8 k 1 = 0 ∧ σ 8 k 2 = -1 ∧ σ 8 k 3 = -1 ∧ σ 8 k 6 = 0 ∧ σ 8 k 7 = 0
def Iv (σ : Sg) (jc tc b : Nat) (ln lo : Nat → Nat) (hi : Nat) : Prop := Shp σ jc tc ln ∧ σ 0 0 4 = nI b ∧ Pat σ jc ln ∧ Hnd σ jc tc ∧ Tng σ jc tc lo hi ∧ Fre σ jc tc ∧ Sm σ jc tc
section IVS
variable {σ σ' : Sg} {jc tc b k i hd hi : Nat} {ln lo : Nat → Nat}
theorem Iv_lo {lo' : Nat → Nat} {hi' : Nat} (I : Iv σ jc tc b ln lo hi) (h1 : ∀ k, k < tc → lo' k ≤ lo k) (h2 : hi ≤ hi') : Iv σ jc tc b ln lo' hi' := by
  obtain ⟨i1, i2, i3, i4, i5, i6, i7⟩ := I
  refine ⟨i1, i2, i3, i4, fun k hk => ⟨?_, (i5 k hk).2⟩, i6, i7⟩
  rcases (i5 k hk).1 with z | z | ⟨z1, z2, i, d, z3, z4, z5, z6, z7⟩ | z
  · exact Or.inl z
  · exact Or.inr (Or.inl z)
  · exact Or.inr (Or.inr (Or.inl ⟨z1, z2, i, d, z3, z4, Nat.le_trans (h1 k hk) z5, Nat.le_trans z6 h2, z7⟩))
  · exact Or.inr (Or.inr (Or.inr z))
theorem st01 {x : Int32} (h : x = 2) : ¬ x = 0 ∧ ¬ x = 1 ∧ ¬ x = 3 := by rw [h]; decide
theorem st12 {x : Int32} (h : x = 1) : ¬ x = 0 ∧ ¬ x = 2 ∧ ¬ x = 3 := by rw [h]; decide
theorem st02 {x : Int32} (h : x = 0) : ¬ x = 1 ∧ ¬ x = 2 ∧ ¬ x = 3 := by rw [h]; decide
/-- a thing that is not changed, in a ring whose hands change elsewhere -/
theorem tAt_of {lo0 : Nat} (h : tAt σ jc lo0 hi k) (h8 : ∀ c, σ' 8 k c = σ 8 k c) (h6 : ∀ i h, i < jc → h < 2 → σ 6 i h = nI k → σ' 6 i h = nI k) : tAt σ' jc lo0 hi k := by
  unfold tAt
  rw [h8, h8, h8, h8]
  rcases h with h | ⟨h, i, a, h1, h2, h3, h4, h9⟩ | h | h
  · exact Or.inl h
  · exact Or.inr (Or.inl ⟨h, i, a, h1, h2, h3, h4, h6 i a h1 h2 h9⟩)
  · exact Or.inr (Or.inr (Or.inl h))
  · exact Or.inr (Or.inr (Or.inr h))
theorem tEg_of (h : tEg σ k) (h8 : ∀ c, σ' 8 k c = σ 8 k c) : tEg σ' k := by
  unfold tEg
  rw [h8, h8, h8]
  exact h
-- caught
theorem Iv_catch (I : Iv σ jc tc b ln lo hi) (hk : k < tc) (hi0 : i < jc) (hh : hd < 2) (h2 : σ 8 k 1 = 2) (h6 : σ 6 i hd = -1) (e6 : ∀ a c, σ' 6 a c = if a = i ∧ c = hd then nI k else σ 6 a c) (e8 : ∀ a c, a ≠ k → σ' 8 a c = σ 8 a c) (e80 : σ' 8 k 0 = σ 8 k 0) (e81 : σ' 8 k 1 = 1) (e82 : σ' 8 k 2 = nI i) (e83 : σ' 8 k 3 = nI hd) (e86 : σ' 8 k 6 = σ 8 k 6) (e87 : σ' 8 k 7 = σ 8 k 7) (e2 : ∀ a c, c ≠ 4 → σ' 2 a c = σ 2 a c) (e24 : ∀ a, σ' 2 a 4 = if a = i then σ 2 i 4 + 1 else σ 2 a 4) (e0 : ∀ a x c, a = 0 ∨ a = 3 ∨ a = 4 ∨ a = 5 → σ' a x c = σ a x c) : Iv σ' jc tc b ln lo hi ∧ sFel σ' tc = sFel σ tc := by
  obtain ⟨i1, i2, i3, i4, i5, ⟨i6, i6'⟩, s1, s2, s3⟩ := I
  have hj4 := i1.1
  have ht12 := i1.2.1
  have a1 : sThr σ' tc = sThr σ tc := sI_eq (fun j _ => by
    show σ' 8 j 6 = σ 8 j 6
    by_cases z : j = k
    · rw [z, e86]
    · exact e8 j 6 z)
  have a2 : sFel σ' tc = sFel σ tc := sI_eq (fun j _ => by
    show σ' 8 j 7 = σ 8 j 7
    by_cases z : j = k
    · rw [z, e87]
    · exact e8 j 7 z)
  have a3 : sCau σ' jc = sCau σ jc + 1 := sI_inc (k := i) (by show σ' 2 i 4 = σ 2 i 4 + 1; rw [e24, if_pos rfl]) (fun j hj => by show σ' 2 j 4 = σ 2 j 4; rw [e24, if_neg hj]) hi0
  have a4 : sBru σ' jc = sBru σ jc := sI_eq (fun j _ => e2 j 3 (by decide))
  have a5 : sHam σ' tc = sHam σ tc := sI_eq (fun j _ => by
    show hamF σ' j = hamF σ j
    unfold hamF
    by_cases z : j = k
    · rw [z, e80, e87]
    · rw [e8 j 0 z, e8 j 7 z])
  have a6 : sAt σ tc 2 = sAt σ' tc 2 + 1 := sI_inc (k := k) (by unfold atF; rw [h2, e81]; decide) (fun j hj => by unfold atF; rw [e8 j 1 hj]) hk
  have a7 : sAt σ' tc 1 = sAt σ tc 1 + 1 := sI_inc (k := k) (by unfold atF; rw [h2, e81]; decide) (fun j hj => by unfold atF; rw [e8 j 1 hj]) hk
  have a8 : sHan σ' jc = sHan σ jc + 1 := by
    refine sI_inc (k := i) ?_ (fun j hj => by unfold hanF; rw [e6, e6, if_neg (fun z => hj z.1), if_neg (fun z => hj z.1)]) hi0
    unfold hanF
    rw [e6, e6]
    rcases (show hd = 0 ∨ hd = 1 by omega) with rfl | rfl
    · rw [if_pos ⟨rfl, rfl⟩, if_neg (fun z => absurd z.2 (by decide)), h6, hv_m, hv_n (by omega), Int32.zero_add, Int32.add_comm]
    · rw [if_neg (fun z => absurd z.2 (by decide)), if_pos ⟨rfl, rfl⟩, h6, hv_m, hv_n (by omega), Int32.add_zero]
  refine ⟨⟨Shp_of i1 (fun a x c z => e0 a x c (by omega)), (e0 0 0 4 (Or.inl rfl)).trans i2, fun a ha p hp => ?_, fun a h ha hh2 => ?_, fun k2 hk2 => ?_, ⟨fun a ha ha4 => ?_, fun k2 h1 h2 => ?_⟩, ?_, ?_, ?_⟩, a2⟩
  · rw [e0 4 a p (by omega), e0 5 a p (by omega)]
    exact i3 a ha p hp
  · rw [e6]
    by_cases z : a = i ∧ h = hd
    · obtain ⟨rfl, rfl⟩ := z
      exact Or.inr ⟨k, hk, by rw [if_pos ⟨rfl, rfl⟩], e81, e82, e83⟩
    · rw [if_neg z]
      rcases i4 a h ha hh2 with y | ⟨k2, y1, y2, y3, y4, y5⟩
      · exact Or.inl y
      · have hne : k2 ≠ k := fun z => by rw [z, h2] at y3; exact absurd y3 (by decide)
        exact Or.inr ⟨k2, y1, y2, by rw [e8 _ _ hne]; exact y3, by rw [e8 _ _ hne]; exact y4, by rw [e8 _ _ hne]; exact y5⟩
  · by_cases z : k2 = k
    · subst z
      refine ⟨Or.inr (Or.inl ⟨e81, i, hd, hi0, hh, e82, e83, by rw [e6, if_pos ⟨rfl, rfl⟩]⟩), ?_⟩
      obtain ⟨g1, g2, g3⟩ := (i5 k2 hk2).2
      refine ⟨by rw [e80]; exact g1, fun y => absurd (e81.symm.trans y) (by decide), fun _ y => ?_⟩
      rw [e87]
      rw [e80] at y
      exact g3 (st01 h2).2.2 y
    · refine ⟨tAt_of (i5 k2 hk2).1 (fun c => e8 _ _ z) (fun a h ha hh2 y => ?_), tEg_of (i5 k2 hk2).2 (fun c => e8 _ _ z)⟩
      rw [e6]
      by_cases z2 : a = i ∧ h = hd
      · obtain ⟨rfl, rfl⟩ := z2
        rw [h6] at y
        exact absurd y.symm (nI_m1 (by omega))
      · rw [if_neg z2]; exact y
  · have hne : a ≠ i := by omega
    rw [e6, e6, e2 a 3 (by decide), e24, if_neg (fun z => hne z.1), if_neg (fun z => hne z.1), if_neg hne]
    exact i6 a ha ha4
  · have hne : k2 ≠ k := by omega
    rw [e8 _ _ hne, e8 _ _ hne, e8 _ _ hne, e8 _ _ hne, e8 _ _ hne]
    exact i6' k2 h1 h2
  · rw [a1, a2, a3, s1, a6]; ac_rfl
  · rw [a4, a5, s2]
  · rw [a8, a7, s3]
-- missed
theorem Iv_miss (I : Iv σ jc tc b ln lo hi) (hk : k < tc) (hi0 : i < jc) (h2 : σ 8 k 1 = 2) (e6 : ∀ a c, σ' 6 a c = σ 6 a c) (e8 : ∀ a c, a ≠ k → σ' 8 a c = σ 8 a c) (e80 : σ' 8 k 0 = σ 8 k 0) (e81 : σ' 8 k 1 = if σ 8 k 0 = 2 then 3 else 0) (e82 : σ' 8 k 2 = -1) (e83 : σ' 8 k 3 = σ 8 k 3) (e86 : σ' 8 k 6 = σ 8 k 6) (e87 : σ' 8 k 7 = σ 8 k 7 + 1) (e2 : ∀ a c, c ≠ 3 → σ' 2 a c = σ 2 a c) (e23 : ∀ a, σ' 2 a 3 = if a = i ∧ σ 8 k 0 = 1 then σ 2 i 3 + 1 else σ 2 a 3) (e0 : ∀ a x c, a = 0 ∨ a = 3 ∨ a = 4 ∨ a = 5 → σ' a x c = σ a x c) : Iv σ' jc tc b ln lo hi ∧ sFel σ' tc = sFel σ tc + 1 := by
  obtain ⟨i1, i2, i3, i4, i5, ⟨i6, i6'⟩, s1, s2, s3⟩ := I
  have hj4 := i1.1
  have ht12 := i1.2.1
  have s0 := st01 h2
  have h3 : σ 8 k 3 = -1 := by
    rcases (i5 k hk).1 with z | z | z | z
    · exact absurd z.1 s0.1
    · exact absurd z.1 s0.2.1
    · exact z.2.1
    · exact absurd z.1 s0.2.2
  have n2 : ¬ σ' 8 k 1 = 2 := by rw [e81]; split <;> decide
  have n1 : ¬ σ' 8 k 1 = 1 := by rw [e81]; split <;> decide
  have a1 : sThr σ' tc = sThr σ tc := sI_eq (fun j _ => by
    show σ' 8 j 6 = σ 8 j 6
    by_cases z : j = k
    · rw [z, e86]
    · exact e8 j 6 z)
  have a2 : sFel σ' tc = sFel σ tc + 1 := sI_inc (k := k) e87 (fun j hj => e8 j 7 hj) hk
  have a3 : sCau σ' jc = sCau σ jc := sI_eq (fun j _ => e2 j 4 (by decide))
  have a45 : sBru σ' jc = sHam σ' tc := by
    by_cases y : σ 8 k 0 = 1
    · have a4 : sBru σ' jc = sBru σ jc + 1 := sI_inc (k := i) (by show σ' 2 i 3 = σ 2 i 3 + 1; rw [e23, if_pos ⟨rfl, y⟩]) (fun j hj => by show σ' 2 j 3 = σ 2 j 3; rw [e23, if_neg (fun z => hj z.1)]) hi0
      have a5 : sHam σ' tc = sHam σ tc + 1 := sI_inc (k := k) (by unfold hamF; rw [e80, e87, if_pos y, if_pos y]) (fun j hj => by unfold hamF; rw [e8 j 0 hj, e8 j 7 hj]) hk
      rw [a4, a5, s2]
    · have a4 : sBru σ' jc = sBru σ jc := sI_eq (fun j _ => by show σ' 2 j 3 = σ 2 j 3; rw [e23, if_neg (fun z => y z.2)])
      have a5 : sHam σ' tc = sHam σ tc := sI_eq (fun j _ => by
        show hamF σ' j = hamF σ j
        unfold hamF
        by_cases z : j = k
        · rw [z, e80, if_neg y, if_neg y]
        · rw [e8 j 0 z, e8 j 7 z])
      rw [a4, a5, s2]
  have a6 : sAt σ tc 2 = sAt σ' tc 2 + 1 := sI_inc (k := k) (by unfold atF; rw [if_pos h2, if_neg n2]; decide) (fun j hj => by unfold atF; rw [e8 j 1 hj]) hk
  have a7 : sAt σ' tc 1 = sAt σ tc 1 := sI_eq (fun j _ => by
    show atF σ' 1 j = atF σ 1 j
    unfold atF
    by_cases z : j = k
    · rw [z, if_neg n1, if_neg s0.2.1]
    · rw [e8 j 1 z])
  have a8 : sHan σ' jc = sHan σ jc := sI_eq (fun j _ => by show hanF σ' j = hanF σ j; unfold hanF; rw [e6, e6])
  refine ⟨⟨Shp_of i1 (fun a x c z => e0 a x c (by omega)), (e0 0 0 4 (Or.inl rfl)).trans i2, fun a ha p hp => ?_, fun a h ha hh2 => ?_, fun k2 hk2 => ?_, ⟨fun a ha ha4 => ?_, fun k2 h1 h2 => ?_⟩, ?_, a45, ?_⟩, a2⟩
  · rw [e0 4 a p (by omega), e0 5 a p (by omega)]
    exact i3 a ha p hp
  · rw [e6]
    rcases i4 a h ha hh2 with y | ⟨k2, y1, y2, y3, y4, y5⟩
    · exact Or.inl y
    · have hne : k2 ≠ k := fun z => by rw [z, h2] at y3; exact absurd y3 (by decide)
      exact Or.inr ⟨k2, y1, y2, by rw [e8 _ _ hne]; exact y3, by rw [e8 _ _ hne]; exact y4, by rw [e8 _ _ hne]; exact y5⟩
  · by_cases z : k2 = k
    · subst z
      obtain ⟨g1, g2, g3⟩ := (i5 k2 hk2).2
      by_cases y : σ 8 k2 0 = 2
      · rw [if_pos y] at e81
        exact ⟨Or.inr (Or.inr (Or.inr ⟨e81, e82, e83.trans h3⟩)), by rw [e80]; exact g1, fun _ => ⟨e80.trans y, by rw [e87, g3 s0.2.2 y]; rfl⟩, fun w => absurd e81 w⟩
      · rw [if_neg y] at e81
        exact ⟨Or.inl ⟨e81, e82, e83.trans h3⟩, by rw [e80]; exact g1, fun w => absurd (e81.symm.trans w) (by decide), fun _ w => absurd (e80.symm.trans w) y⟩
    · exact ⟨tAt_of (i5 k2 hk2).1 (fun c => e8 _ _ z) (fun a h ha hh2 y => (e6 a h).trans y), tEg_of (i5 k2 hk2).2 (fun c => e8 _ _ z)⟩
  · have hne : a ≠ i := by omega
    rw [e6, e6, e2 a 4 (by decide), e23, if_neg (fun z => hne z.1)]
    exact i6 a ha ha4
  · have hne : k2 ≠ k := by omega
    rw [e8 _ _ hne, e8 _ _ hne, e8 _ _ hne, e8 _ _ hne, e8 _ _ hne]
    exact i6' k2 h1 h2
  · rw [a1, a2, a3, s1, a6]; ac_rfl
  · rw [a8, a7, s3]
-- thrown
theorem Iv_fly {t d : Nat} (I : Iv σ jc tc b ln lo hi) (hk : k < tc) (hi0 : i < jc) (hh : hd < 2) (h1 : σ 8 k 1 = 1) (hw : σ 8 k 2 = nI i) (hw3 : σ 8 k 3 = nI hd) (h6 : σ 6 i hd = nI k) (ht : t < jc) (hlo : lo k ≤ d) (hhi : d ≤ hi) (e6 : ∀ a c, σ' 6 a c = if a = i ∧ c = hd then -1 else σ 6 a c) (e8 : ∀ a c, a ≠ k → σ' 8 a c = σ 8 a c) (e80 : σ' 8 k 0 = σ 8 k 0) (e81 : σ' 8 k 1 = 2) (e82 : σ' 8 k 2 = nI t) (e83 : σ' 8 k 3 = -1) (e84 : σ' 8 k 4 = nI d) (e86 : σ' 8 k 6 = σ 8 k 6 + 1) (e87 : σ' 8 k 7 = σ 8 k 7) (e0 : ∀ a x c, a = 0 ∨ a = 2 ∨ a = 3 ∨ a = 4 ∨ a = 5 → σ' a x c = σ a x c) : Iv σ' jc tc b ln lo hi ∧ sFel σ' tc = sFel σ tc := by
  obtain ⟨i1, i2, i3, i4, i5, ⟨i6, i6'⟩, s1, s2, s3⟩ := I
  have hj4 := i1.1
  have ht12 := i1.2.1
  have s0 := st12 h1
  have a1 : sThr σ' tc = sThr σ tc + 1 := sI_inc (k := k) e86 (fun j hj => e8 j 6 hj) hk
  have a2 : sFel σ' tc = sFel σ tc := sI_eq (fun j _ => by
    show σ' 8 j 7 = σ 8 j 7
    by_cases z : j = k
    · rw [z, e87]
    · exact e8 j 7 z)
  have a3 : sCau σ' jc = sCau σ jc := sI_eq (fun j _ => e0 2 j 4 (by omega))
  have a4 : sBru σ' jc = sBru σ jc := sI_eq (fun j _ => e0 2 j 3 (by omega))
  have a5 : sHam σ' tc = sHam σ tc := sI_eq (fun j _ => by
    show hamF σ' j = hamF σ j
    unfold hamF
    by_cases z : j = k
    · rw [z, e80, e87]
    · rw [e8 j 0 z, e8 j 7 z])
  have a6 : sAt σ' tc 2 = sAt σ tc 2 + 1 := sI_inc (k := k) (by unfold atF; rw [h1, e81]; decide) (fun j hj => by unfold atF; rw [e8 j 1 hj]) hk
  have a7 : sAt σ tc 1 = sAt σ' tc 1 + 1 := sI_inc (k := k) (by unfold atF; rw [h1, e81]; decide) (fun j hj => by unfold atF; rw [e8 j 1 hj]) hk
  have a8 : sHan σ jc = sHan σ' jc + 1 := by
    refine sI_inc (k := i) ?_ (fun j hj => by unfold hanF; rw [e6, e6, if_neg (fun z => hj z.1), if_neg (fun z => hj z.1)]) hi0
    unfold hanF
    rw [e6, e6]
    rcases (show hd = 0 ∨ hd = 1 by omega) with rfl | rfl
    · rw [if_pos ⟨rfl, rfl⟩, if_neg (fun z => absurd z.2 (by decide)), h6, hv_m, hv_n (by omega), Int32.zero_add, Int32.add_comm]
    · rw [if_neg (fun z => absurd z.2 (by decide)), if_pos ⟨rfl, rfl⟩, h6, hv_m, hv_n (by omega), Int32.add_zero]
  refine ⟨⟨Shp_of i1 (fun a x c z => e0 a x c (by omega)), (e0 0 0 4 (Or.inl rfl)).trans i2, fun a ha p hp => ?_, fun a h ha hh2 => ?_, fun k2 hk2 => ?_, ⟨fun a ha ha4 => ?_, fun k2 h1 h2 => ?_⟩, ?_, ?_, ?_⟩, a2⟩
  · rw [e0 4 a p (by omega), e0 5 a p (by omega)]
    exact i3 a ha p hp
  · rw [e6]
    by_cases z : a = i ∧ h = hd
    · rw [if_pos z]; exact Or.inl rfl
    · rw [if_neg z]
      rcases i4 a h ha hh2 with y | ⟨k2, y1, y2, y3, y4, y5⟩
      · exact Or.inl y
      · have hne : k2 ≠ k := fun w => by
          rw [w] at y4 y5
          rw [hw] at y4
          rw [hw3] at y5
          exact z ⟨(nI_inj (by omega) (by omega) y4).symm, (nI_inj (by omega) (by omega) y5).symm⟩
        exact Or.inr ⟨k2, y1, y2, by rw [e8 _ _ hne]; exact y3, by rw [e8 _ _ hne]; exact y4, by rw [e8 _ _ hne]; exact y5⟩
  · by_cases z : k2 = k
    · subst z
      obtain ⟨g1, g2, g3⟩ := (i5 k2 hk2).2
      refine ⟨Or.inr (Or.inr (Or.inl ⟨e81, e83, t, d, ht, e82, hlo, hhi, e84⟩)), by rw [e80]; exact g1, fun w => absurd (e81.symm.trans w) (by decide), fun _ w => ?_⟩
      rw [e87]
      rw [e80] at w
      exact g3 s0.2.2 w
    · refine ⟨tAt_of (i5 k2 hk2).1 (fun c => e8 _ _ z) (fun a h ha hh2 y => ?_), tEg_of (i5 k2 hk2).2 (fun c => e8 _ _ z)⟩
      rw [e6, if_neg (fun w => ?_)]
      · exact y
      · obtain ⟨rfl, rfl⟩ := w
        rw [h6] at y
        exact z (nI_inj (by omega) (by omega) y).symm
  · have hne : a ≠ i := by omega
    rw [e6, e6, e0 2 a 3 (by omega), e0 2 a 4 (by omega), if_neg (fun z => hne z.1), if_neg (fun z => hne z.1)]
    exact i6 a ha ha4
  · have hne : k2 ≠ k := by omega
    rw [e8 _ _ hne, e8 _ _ hne, e8 _ _ hne, e8 _ _ hne, e8 _ _ hne]
    exact i6' k2 h1 h2
  · rw [a1, a2, a3, s1, a6]; ac_rfl
  · rw [a4, a5, s2]
  · have := a8.symm.trans (s3.trans a7)
    exact (Int32.add_left_inj 1).mp this
-- given
theorem Iv_put (I : Iv σ jc tc b ln lo hi) (hk : k < tc) (hi0 : i < jc) (hh : hd < 2) (h0 : σ 8 k 1 = 0) (h6 : σ 6 i hd = -1) (e6 : ∀ a c, σ' 6 a c = if a = i ∧ c = hd then nI k else σ 6 a c) (e8 : ∀ a c, a ≠ k → σ' 8 a c = σ 8 a c) (e80 : σ' 8 k 0 = σ 8 k 0) (e81 : σ' 8 k 1 = 1) (e82 : σ' 8 k 2 = nI i) (e83 : σ' 8 k 3 = nI hd) (e86 : σ' 8 k 6 = σ 8 k 6) (e87 : σ' 8 k 7 = σ 8 k 7) (e0 : ∀ a x c, a = 0 ∨ a = 2 ∨ a = 3 ∨ a = 4 ∨ a = 5 → σ' a x c = σ a x c) : Iv σ' jc tc b ln lo hi := by
  obtain ⟨i1, i2, i3, i4, i5, ⟨i6, i6'⟩, s1, s2, s3⟩ := I
  have hj4 := i1.1
  have ht12 := i1.2.1
  have s0 := st02 h0
  have a1 : sThr σ' tc = sThr σ tc := sI_eq (fun j _ => by
    show σ' 8 j 6 = σ 8 j 6
    by_cases z : j = k
    · rw [z, e86]
    · exact e8 j 6 z)
  have a2 : sFel σ' tc = sFel σ tc := sI_eq (fun j _ => by
    show σ' 8 j 7 = σ 8 j 7
    by_cases z : j = k
    · rw [z, e87]
    · exact e8 j 7 z)
  have a3 : sCau σ' jc = sCau σ jc := sI_eq (fun j _ => e0 2 j 4 (by omega))
  have a4 : sBru σ' jc = sBru σ jc := sI_eq (fun j _ => e0 2 j 3 (by omega))
  have a5 : sHam σ' tc = sHam σ tc := sI_eq (fun j _ => by
    show hamF σ' j = hamF σ j
    unfold hamF
    by_cases z : j = k
    · rw [z, e80, e87]
    · rw [e8 j 0 z, e8 j 7 z])
  have a6 : sAt σ' tc 2 = sAt σ tc 2 := sI_eq (fun j _ => by
    show atF σ' 2 j = atF σ 2 j
    unfold atF
    by_cases z : j = k
    · rw [z, e81, h0]; decide
    · rw [e8 j 1 z])
  have a7 : sAt σ' tc 1 = sAt σ tc 1 + 1 := sI_inc (k := k) (by unfold atF; rw [h0, e81]; decide) (fun j hj => by unfold atF; rw [e8 j 1 hj]) hk
  have a8 : sHan σ' jc = sHan σ jc + 1 := by
    refine sI_inc (k := i) ?_ (fun j hj => by unfold hanF; rw [e6, e6, if_neg (fun z => hj z.1), if_neg (fun z => hj z.1)]) hi0
    unfold hanF
    rw [e6, e6]
    rcases (show hd = 0 ∨ hd = 1 by omega) with rfl | rfl
    · rw [if_pos ⟨rfl, rfl⟩, if_neg (fun z => absurd z.2 (by decide)), h6, hv_m, hv_n (by omega), Int32.zero_add, Int32.add_comm]
    · rw [if_neg (fun z => absurd z.2 (by decide)), if_pos ⟨rfl, rfl⟩, h6, hv_m, hv_n (by omega), Int32.add_zero]
  refine ⟨Shp_of i1 (fun a x c z => e0 a x c (by omega)), (e0 0 0 4 (Or.inl rfl)).trans i2, fun a ha p hp => ?_, fun a h ha hh2 => ?_, fun k2 hk2 => ?_, ⟨fun a ha ha4 => ?_, fun k2 h1 h2 => ?_⟩, ?_, ?_, ?_⟩
  · rw [e0 4 a p (by omega), e0 5 a p (by omega)]
    exact i3 a ha p hp
  · rw [e6]
    by_cases z : a = i ∧ h = hd
    · obtain ⟨rfl, rfl⟩ := z
      exact Or.inr ⟨k, hk, by rw [if_pos ⟨rfl, rfl⟩], e81, e82, e83⟩
    · rw [if_neg z]
      rcases i4 a h ha hh2 with y | ⟨k2, y1, y2, y3, y4, y5⟩
      · exact Or.inl y
      · have hne : k2 ≠ k := fun z => by rw [z, h0] at y3; exact absurd y3 (by decide)
        exact Or.inr ⟨k2, y1, y2, by rw [e8 _ _ hne]; exact y3, by rw [e8 _ _ hne]; exact y4, by rw [e8 _ _ hne]; exact y5⟩
  · by_cases z : k2 = k
    · subst z
      refine ⟨Or.inr (Or.inl ⟨e81, i, hd, hi0, hh, e82, e83, by rw [e6, if_pos ⟨rfl, rfl⟩]⟩), ?_⟩
      obtain ⟨g1, g2, g3⟩ := (i5 k2 hk2).2
      refine ⟨by rw [e80]; exact g1, fun y => absurd (e81.symm.trans y) (by decide), fun _ y => ?_⟩
      rw [e87]
      rw [e80] at y
      exact g3 s0.2.2 y
    · refine ⟨tAt_of (i5 k2 hk2).1 (fun c => e8 _ _ z) (fun a h ha hh2 y => ?_), tEg_of (i5 k2 hk2).2 (fun c => e8 _ _ z)⟩
      rw [e6]
      by_cases z2 : a = i ∧ h = hd
      · obtain ⟨rfl, rfl⟩ := z2
        rw [h6] at y
        exact absurd y.symm (nI_m1 (by omega))
      · rw [if_neg z2]; exact y
  · have hne : a ≠ i := by omega
    rw [e6, e6, e0 2 a 3 (by omega), e0 2 a 4 (by omega), if_neg (fun z => hne z.1), if_neg (fun z => hne z.1)]
    exact i6 a ha ha4
  · have hne : k2 ≠ k := by omega
    rw [e8 _ _ hne, e8 _ _ hne, e8 _ _ hne, e8 _ _ hne, e8 _ _ hne]
    exact i6' k2 h1 h2
  · rw [a1, a2, a3, s1, a6]
  · rw [a4, a5, s2]
  · rw [a8, a7, s3]
end IVS
end
section
/-! ===== a beat keeps it ===== -/
section IVB
variable {σ σ' : Sg} {jc tc b k i hd hi : Nat} {ln lo : Nat → Nat}
theorem fIn_s {x : Int32} : ∀ n, fIn σ n x = sAt σ n x
  | 0 => rfl
  | n + 1 => by
    show (if decide (σ 8 n 1 = x) = true then fIn σ n x + 1 else fIn σ n x) = sAt σ n x + atF σ x n
    rw [fIn_s n]
    unfold atF
    by_cases h : σ 8 n 1 = x
    · rw [if_pos (by rw [decide_eq_true h]), if_pos h]
    · rw [if_neg (by rw [decide_eq_false h]; decide), if_neg h, Int32.add_zero]
/-- a thing in the air is told when it comes down -/
theorem tAt_air {lo0 : Nat} (h : tAt σ jc lo0 hi k) (h2 : σ 8 k 1 = 2) : σ 8 k 3 = -1 ∧ ∃ i d, i < jc ∧ σ 8 k 2 = nI i ∧ lo0 ≤ d ∧ d ≤ hi ∧ σ 8 k 4 = nI d := by
  have s0 := st01 h2
  rcases h with z | z | z | z
  · exact absurd z.1 s0.1
  · exact absurd z.1 s0.2.1
  · exact z.2
  · exact absurd z.1 s0.2.2
theorem tAt_hand {lo0 : Nat} (h : tAt σ jc lo0 hi k) (h1 : σ 8 k 1 = 1) : ∃ i h, i < jc ∧ h < 2 ∧ σ 8 k 2 = nI i ∧ σ 8 k 3 = nI h ∧ σ 6 i h = nI k := by
  have s0 := st12 h1
  rcases h with z | z | z | z
  · exact absurd z.1 s0.1
  · exact z.2
  · exact absurd z.1 s0.2.1
  · exact absurd z.1 s0.2.2
/-- one thing that may come down -/
theorem Iv_dn1 (hb : b + 10 < 2 ^ 31) (I : Iv σ jc tc b ln (fun j => if j < k then b + 1 else b) (b + 9)) (hk : k < tc) : Iv (fDown1 σ k (b % 2)) jc tc b ln (fun j => if j < k + 1 then b + 1 else b) (b + 9) ∧ sFel (fDown1 σ k (b % 2)) tc = sFel σ tc + fDown1r σ k (b % 2) ∧ ∀ i h, i < jc → h < 2 → ¬ σ 6 i h = -1 → fDown1 σ k (b % 2) 6 i h = σ 6 i h := by
  have h4 := I.1.1
  have h12 := I.1.2.1
  have hh : b % 2 < 2 := Nat.mod_lt b (by decide)
  have hT : tAt σ jc (if k < k then b + 1 else b) (b + 9) k := (I.2.2.2.2.1 k hk).1
  rw [if_neg (Nat.lt_irrefl k)] at hT
  -- the others
  have key : ∀ τ : Sg, Iv τ jc tc b ln (fun j => if j < k then b + 1 else b) (b + 9) → (¬ τ 8 k 1 = 2 ∨ ∃ d, b < d ∧ d ≤ b + 9 ∧ τ 8 k 4 = nI d) → Iv τ jc tc b ln (fun j => if j < k + 1 then b + 1 else b) (b + 9) := by
    intro τ J hd
    obtain ⟨i1, i2, i3, i4, i5, i6, i7⟩ := J
    refine ⟨i1, i2, i3, i4, fun j hj => ⟨?_, (i5 j hj).2⟩, i6, i7⟩
    have q : tAt τ jc (if j < k then b + 1 else b) (b + 9) j := (i5 j hj).1
    show tAt τ jc (if j < k + 1 then b + 1 else b) (b + 9) j
    by_cases z : j = k
    · subst z
      rw [if_neg (Nat.lt_irrefl j)] at q
      rw [if_pos (Nat.lt_succ_self j)]
      rcases q with y | y | ⟨y1, y2, i, d, y3, y4, y5, y6, y7⟩ | y
      · exact Or.inl y
      · exact Or.inr (Or.inl y)
      · rcases hd with w | ⟨d2, w1, w2, w3⟩
        · exact absurd y1 w
        · exact Or.inr (Or.inr (Or.inl ⟨y1, y2, i, d2, y3, y4, w1, w2, w3⟩))
      · exact Or.inr (Or.inr (Or.inr y))
    · have e : (if j < k + 1 then b + 1 else b) = if j < k then b + 1 else b := by
        by_cases w : j < k
        · rw [if_pos w, if_pos (by omega)]
        · rw [if_neg w, if_neg (by omega)]
      rw [e]
      exact q
  by_cases y : σ 8 k 1 = 2 ∧ σ 8 k 4 = nI b
  · obtain ⟨w3, i, d, hi, w2, d1, d2, d3⟩ := tAt_air hT y.1
    have hc : (nI i).toNatClampNeg = i := nI_clamp (by omega)
    have f0 : ¬ fDown σ k (σ 0 0 4) = 0 := by
      unfold fDown
      rw [I.2.1, if_pos y]; decide
    have f1 : ¬ fHasJ σ (nI i) = 0 := by rw [hasJ_1 I.1.2.2.1 hi h4]; decide
    unfold fDown1 fDown1r
    rw [if_neg f0, if_neg f0, w2, if_neg f1, if_neg f1, hc]
    by_cases z : σ 6 i (b % 2) = -1 ∧ ¬ σ 2 i 2 + 2 < σ 8 k 5
    · have f2 : ¬ fCan σ i (σ 8 k 5) (b % 2) = 0 := by
        unfold fCan
        rw [if_pos z]; decide
      rw [if_neg f2, if_neg f2]
      have C := Iv_catch (σ' := u3 (fPut σ k (nI i) i (b % 2)) 2 i 4 (fPut σ k (nI i) i (b % 2) 2 i 4 + 1)) I hk hi hh y.1 z.1 (by intro a c; simp [fPut, u3_eq]) (by intro a c ha; simp [fPut, u3_eq, ha]) (by simp [fPut, u3_eq]) (by simp [fPut, u3_eq]) (by simp [fPut, u3_eq]) (by simp [fPut, u3_eq]) (by simp [fPut, u3_eq]) (by simp [fPut, u3_eq]) (by intro a c hc; simp [fPut, u3_eq, hc]) (by intro a; simp [fPut, u3_eq]) (by intro a x c ha; rcases ha with rfl | rfl | rfl | rfl <;> simp [fPut, u3_eq])
      refine ⟨key _ C.1 (Or.inl (by simp [fPut, u3_eq])), by rw [C.2, Int32.add_zero], fun a h ha hh2 hne => ?_⟩
      have : ¬ (a = i ∧ h = b % 2) := fun q => hne (by rw [q.1, q.2]; exact z.1)
      simp only [fPut, u3_eq]
      simp [this]
    · have f2 : fCan σ i (σ 8 k 5) (b % 2) = 0 := by
        unfold fCan
        rw [if_neg z]
      rw [if_pos f2, if_pos f2]
      have C := Iv_miss (σ' := fMiss σ i k) I hk hi y.1 (by intro a c; unfold fMiss fFall; split <;> simp [u3_eq]) (by intro a c ha; unfold fMiss fFall; split <;> simp [u3_eq, ha]) (by unfold fMiss fFall; split <;> simp [u3_eq]) (by unfold fMiss fFall; split <;> simp [u3_eq]) (by unfold fMiss fFall; split <;> simp [u3_eq]) (by unfold fMiss fFall; split <;> simp [u3_eq]) (by unfold fMiss fFall; split <;> simp [u3_eq]) (by unfold fMiss fFall; split <;> simp [u3_eq]) (by intro a c hc; unfold fMiss fFall; split <;> simp [u3_eq, hc]) (by intro a; unfold fMiss fFall; split <;> rename_i u <;> simp [u3_eq, u]) (by intro a x c ha; unfold fMiss fFall; rcases ha with rfl | rfl | rfl | rfl <;> split <;> simp [u3_eq])
      refine ⟨key _ C.1 (Or.inl ?_), C.2, fun a h ha hh2 hne => ?_⟩
      · unfold fMiss fFall
        split <;> simp only [u3_eq] <;> simp <;> split <;> decide
      · unfold fMiss fFall
        split <;> simp [u3_eq]
  · have f0 : fDown σ k (σ 0 0 4) = 0 := by
      unfold fDown
      rw [I.2.1, if_neg y]
    unfold fDown1 fDown1r
    rw [if_pos f0, if_pos f0]
    refine ⟨key _ I ?_, (Int32.add_zero _).symm, fun _ _ _ _ _ => rfl⟩
    by_cases z : σ 8 k 1 = 2
    · obtain ⟨w3, i, d, hi, w2, d1, d2, d3⟩ := tAt_air hT z
      refine Or.inr ⟨d, ?_, d2, d3⟩
      rcases Nat.lt_or_ge b d with w | w
      · exact w
      · have : d = b := by omega
        rw [this] at d3
        exact absurd ⟨z, d3⟩ y
    · exact Or.inl z
theorem Iv_dn (hb : b + 10 < 2 ^ 31) (I : Iv σ jc tc b ln (fun _ => b) (b + 9)) : ∀ n, n ≤ tc → Iv (dnL (b % 2) σ n) jc tc b ln (fun j => if j < n then b + 1 else b) (b + 9) ∧ sFel (dnL (b % 2) σ n) tc = sFel σ tc + dnR (b % 2) σ n ∧ ∀ i h, i < jc → h < 2 → ¬ σ 6 i h = -1 → dnL (b % 2) σ n 6 i h = σ 6 i h
  | 0, _ => ⟨Iv_lo I (fun k _ => by rw [if_neg (Nat.not_lt_zero k)]; exact Nat.le_refl b) (Nat.le_refl _), (Int32.add_zero _).symm, fun _ _ _ _ _ => rfl⟩
  | n + 1, h => by
    obtain ⟨h1, h2, h3⟩ := Iv_dn hb I n (by omega)
    obtain ⟨g1, g2, g3⟩ := Iv_dn1 hb h1 (show n < tc by omega)
    refine ⟨g1, ?_, fun a c ha hc hne => (g3 a c ha hc (by rw [h3 a c ha hc hne]; exact hne)).trans (h3 a c ha hc hne)⟩
    show sFel (fDown1 (dnL (b % 2) σ n) n (b % 2)) tc = sFel σ tc + (dnR (b % 2) σ n + fDown1r (dnL (b % 2) σ n) n (b % 2))
    rw [g2, h2, Int32.add_assoc]
/-- how long a thing is in the air -/
theorem fAir_n {kd : Int32} {h : Nat} (h1 : 1 ≤ h) (h9 : h ≤ 9) : ∃ d, 1 ≤ d ∧ d ≤ 10 ∧ fAir kd (nI h) = nI d := by
  unfold fAir
  split
  · rename_i z
    have h3 : 3 ≤ h := by
      rcases Nat.lt_or_ge h 3 with w | w
      · exact absurd (show nI h < 3 from nI_lt w (by decide)) z.2
      · exact w
    obtain ⟨c, rfl⟩ : ∃ c, h = c + 1 := ⟨h - 1, by omega⟩
    exact ⟨c, by omega, by omega, nI_pred c⟩
  · split
    · exact ⟨h + 1, by omega, by omega, nI_1 h⟩
    · exact ⟨h, h1, by omega, rfl⟩
theorem Iv_throw (hb : b + 10 < 2 ^ 31) (I : Iv σ jc tc b ln (fun _ => b + 1) (b + 10)) (hj : i < jc) : Iv (fThrow σ i (b % ln i) (b % 2)) jc tc b ln (fun _ => b + 1) (b + 10) ∧ sFel (fThrow σ i (b % ln i) (b % 2)) tc = sFel σ tc ∧ ∀ a h, a < jc → h < 2 → ¬ (a = i ∧ h = b % 2 ∧ ¬ σ 4 i (b % ln i) ≤ 0) → fThrow σ i (b % ln i) (b % 2) 6 a h = σ 6 a h := by
  have h4 := I.1.1
  have h12 := I.1.2.1
  have hh : b % 2 < 2 := Nat.mod_lt b (by decide)
  obtain ⟨l1, l8, l3⟩ := I.1.2.2.2.2 i hj
  obtain ⟨h, t, g1, g2, g3, g4⟩ := I.2.2.1 i hj (b % ln i) (Nat.mod_lt b l1)
  unfold fThrow
  rcases I.2.2.2.1 i (b % 2) hj hh with y | ⟨k, y1, y2, y3, y4, y5⟩
  · have f0 : fHasT σ (σ 6 i (b % 2)) = 0 := by
      unfold fHasT
      rw [y]
      exact if_neg (fun z => z.1 (by decide))
    rw [if_pos f0]
    exact ⟨I, rfl, fun _ _ _ _ _ => rfl⟩
  · have f0 : ¬ fHasT σ (σ 6 i (b % 2)) = 0 := by rw [y2, hasT_1 I.1.2.2.2.1 y1 h12]; decide
    rw [if_neg f0]
    by_cases z : σ 4 i (b % ln i) ≤ 0
    · rw [if_pos z]
      exact ⟨I, rfl, fun _ _ _ _ _ => rfl⟩
    · rw [if_neg z]
      have h1 : 1 ≤ h := by
        rcases Nat.lt_or_ge 0 h with w | w
        · exact w
        · have : h = 0 := by omega
          rw [g3, this] at z
          exact absurd (show nI 0 ≤ 0 by decide) z
      obtain ⟨d, d1, d2, d3⟩ := fAir_n (kd := σ 8 k 0) h1 g1
      rw [y2, nI_clamp (show k < 2 ^ 31 by omega)]
      have C := Iv_fly (σ' := u3 (fFly σ k (σ 5 i (b % ln i)) (σ 4 i (b % ln i)) (σ 0 0 4)) 6 i (b % 2) (-1)) (t := t) (d := b + d) I y1 hj hh y3 y4 y5 y2 g2 (by omega) (by omega) (by intro a c; simp [fFly, u3_eq]) (by intro a c ha; simp [fFly, u3_eq, ha]) (by simp [fFly, u3_eq]) (by simp [fFly, u3_eq]) (by simp [fFly, u3_eq]; exact g4) (by simp [fFly, u3_eq]) (by simp [fFly, u3_eq]; rw [g3, I.2.1, d3, nI_add]) (by simp [fFly, u3_eq]) (by simp [fFly, u3_eq]) (by intro a x c ha; rcases ha with rfl | rfl | rfl | rfl | rfl <;> simp [fFly, u3_eq])
      refine ⟨C.1, C.2, fun a h ha hh2 hne => ?_⟩
      have : ¬ (a = i ∧ h = b % 2) := fun q => hne ⟨q.1, q.2, z⟩
      simp only [fFly, u3_eq]
      simp [this]
theorem Iv_th (hb : b + 10 < 2 ^ 31) (I : Iv σ jc tc b ln (fun _ => b + 1) (b + 10)) : ∀ n, n ≤ jc → Iv (thL b ln σ n) jc tc b ln (fun _ => b + 1) (b + 10) ∧ sFel (thL b ln σ n) tc = sFel σ tc ∧ ∀ a h, a < jc → h < 2 → ¬ (h = b % 2 ∧ ¬ σ 4 a (b % ln a) ≤ 0) → thL b ln σ n 6 a h = σ 6 a h
  | 0, _ => ⟨I, rfl, fun _ _ _ _ _ => rfl⟩
  | n + 1, h => by
    obtain ⟨h1, h2, h3⟩ := Iv_th hb I n (by omega)
    obtain ⟨g1, g2, g3⟩ := Iv_throw hb h1 (show n < jc by omega)
    refine ⟨g1, g2.trans h2, fun a c ha hc hne => (g3 a c ha hc (fun w => hne ?_)).trans (h3 a c ha hc hne)⟩
    obtain ⟨rfl, w2, w3⟩ := w
    rw [thL_k (by decide) (by decide)] at w3
    exact ⟨w2, w3⟩
theorem sFel_u {v : Int32} : sFel (u3 σ 0 0 4 v) tc = sFel σ tc := sI_eq (fun j _ => u3_ne (by omega))
theorem Iv_b {b' : Nat} (I : Iv σ jc tc b ln lo hi) : Iv (u3 σ 0 0 4 (nI b')) jc tc b' ln lo hi := by
  obtain ⟨i1, i2, i3, i4, i5, i6, i7⟩ := I
  have e : ∀ a x c, a ≠ 0 → u3 σ 0 0 4 (nI b') a x c = σ a x c := fun a x c h => u3_ne (fun z => h z.1)
  refine ⟨Shp_of i1 (fun a x c z => u3_ne (by omega)), u3_at _ _ _ _ _, ?_, ?_, ?_, ?_, ?_⟩
  · intro a ha p hp
    rw [e _ _ _ (by decide), e _ _ _ (by decide)]
    exact i3 a ha p hp
  · intro a h ha hh
    rw [e _ _ _ (by decide)]
    rcases i4 a h ha hh with y | ⟨k, y1, y2, y3, y4, y5⟩
    · exact Or.inl y
    · exact Or.inr ⟨k, y1, y2, (e _ _ _ (by decide)).trans y3, (e _ _ _ (by decide)).trans y4, (e _ _ _ (by decide)).trans y5⟩
  · intro k hk
    exact ⟨tAt_of (i5 k hk).1 (fun c => e _ _ _ (by decide)) (fun a h _ _ y => (e _ _ _ (by decide)).trans y), tEg_of (i5 k hk).2 (fun c => e _ _ _ (by decide))⟩
  · refine ⟨fun a h1 h2 => ?_, fun k h1 h2 => ?_⟩
    · rw [e _ _ _ (by decide), e _ _ _ (by decide), e _ _ _ (by decide), e _ _ _ (by decide)]
      exact i6.1 a h1 h2
    · rw [e _ _ _ (by decide), e _ _ _ (by decide), e _ _ _ (by decide), e _ _ _ (by decide), e _ _ _ (by decide)]
      exact i6.2 k h1 h2
  · have q : ∀ x y, x ≠ 0 → (u3 σ 0 0 4 (nI b')) x y = σ x y := fun x y hx => funext (fun c => e x y c hx)
    unfold Sm sThr sCau sFel sAt sBru sHam sHan hamF hanF
    have q2 : (fun k => atF (u3 σ 0 0 4 (nI b')) 2 k) = fun k => atF σ 2 k := funext (fun k => by unfold atF; rw [q 8 k (by decide)])
    have q1 : (fun k => atF (u3 σ 0 0 4 (nI b')) 1 k) = fun k => atF σ 1 k := funext (fun k => by unfold atF; rw [q 8 k (by decide)])
    simp only [q 8 _ (by decide), q 2 _ (by decide), q 6 _ (by decide)]
    refine ⟨?_, i7.2.1, ?_⟩
    · exact i7.1.trans (congrArg (fun f => sCau σ jc + sFel σ tc + sI f tc) q2.symm)
    · exact i7.2.2.trans (congrArg (fun f => sI f tc) q1.symm)
/-- a ring at the beat b -/
abbrev RI (σ : Sg) (jc tc b : Nat) (ln : Nat → Nat) : Prop := Iv σ jc tc b ln (fun _ => b) (b + 9)
theorem RI_beat (hb : b + 10 < 2 ^ 31) (I : RI σ jc tc b ln) : RI (fBeat σ b jc tc ln) jc tc (b + 1) ln ∧ sFel (fBeat σ b jc tc ln) tc = sFel σ tc + fBeatR σ b tc ∧ ∀ a h, a < jc → h < 2 → ¬ σ 6 a h = -1 → ¬ (h = b % 2 ∧ ¬ σ 4 a (b % ln a) ≤ 0) → fBeat σ b jc tc ln 6 a h = σ 6 a h := by
  obtain ⟨h1, h2, h3⟩ := Iv_dn hb I tc (Nat.le_refl tc)
  have h1' := Iv_lo (lo' := fun _ => b + 1) (hi' := b + 10) h1 (fun k hk => by rw [if_pos hk]; exact Nat.le_refl _) (by omega)
  obtain ⟨g1, g2, g3⟩ := Iv_th hb h1' jc (Nat.le_refl jc)
  refine ⟨?_, ?_, fun a h ha hh hne hno => ?_⟩
  · have := Iv_b (b' := b + 1) g1
    exact Iv_lo this (fun _ _ => Nat.le_refl _) (by omega)
  · show sFel (u3 _ 0 0 4 _) tc = _
    rw [sFel_u, g2, h2]
    rfl
  · show u3 _ 0 0 4 _ 6 a h = _
    rw [u3_ne (by omega), g3 a h ha hh (fun w => hno ⟨w.1, fun u => w.2 ?_⟩), h3 a h ha hh hne]
    rw [dnL_k (by decide) (by decide) (by decide)]
    exact u
theorem RI_play : ∀ n, b + n + 10 < 2 ^ 31 → RI σ jc tc b ln → RI (plL b jc tc ln σ n) jc tc (b + n) ln ∧ sFel (plL b jc tc ln σ n) tc = sFel σ tc + plR b jc tc ln σ n ∧ ∀ a h, a < jc → h < 2 → ¬ σ 6 a h = -1 → (∀ x, x < n → ¬ (h = (b + x) % 2 ∧ ¬ σ 4 a ((b + x) % ln a) ≤ 0)) → plL b jc tc ln σ n 6 a h = σ 6 a h
  | 0, _, I => ⟨I, (Int32.add_zero _).symm, fun _ _ _ _ _ _ => rfl⟩
  | n + 1, hb, I => by
    obtain ⟨h1, h2, h3⟩ := RI_play n (by omega) I
    obtain ⟨g1, g2, g3⟩ := RI_beat (show b + n + 10 < 2 ^ 31 by omega) h1
    refine ⟨g1, ?_, fun a h ha hh hne hno => ?_⟩
    · show sFel (fBeat (plL b jc tc ln σ n) (b + n) jc tc ln) tc = sFel σ tc + (plR b jc tc ln σ n + fBeatR (plL b jc tc ln σ n) (b + n) tc)
      rw [g2, h2, Int32.add_assoc]
    · have e := h3 a h ha hh hne (fun x hx => hno x (by omega))
      refine (g3 a h ha hh (by rw [e]; exact hne) (fun w => hno n (by omega) ⟨w.1, fun u => w.2 ?_⟩)).trans e
      rw [plL_k (by decide) (by decide) (by decide) (by omega)]
      exact u
end IVB
end
section
/-! ===== rings that are alike where it counts play alike ===== -/
section ALK
variable {σ σ' ρ : Sg} {jc tc b k i hd n j : Nat} {ln : Nat → Nat}
theorem Alk_rfl : Alk σ σ jc tc ln := ⟨fun _ _ _ => rfl, fun _ _ => ⟨fun _ _ _ => rfl, rfl, fun _ _ => rfl, fun _ _ => ⟨rfl, rfl⟩⟩, fun _ _ _ _ => rfl⟩
theorem Alk_u3 (A : Alk σ σ' jc tc ln) (a x c : Nat) (v : Int32) : Alk (u3 σ a x c v) (u3 σ' a x c v) jc tc ln := by
  obtain ⟨a0, aj, at'⟩ := A
  refine ⟨fun c h1 h2 => ?_, fun i hi => ⟨fun c h1 h2 => ?_, ?_, fun h hh => ?_, fun p hp => ⟨?_, ?_⟩⟩, fun k hk c hc => ?_⟩
  all_goals
    rw [u3_eq, u3_eq]
    split
    · rfl
  · exact a0 c h1 h2
  · exact (aj i hi).1 c h1 h2
  · exact (aj i hi).2.1
  · exact (aj i hi).2.2.1 h hh
  · exact ((aj i hi).2.2.2 p hp).1
  · exact ((aj i hi).2.2.2 p hp).2
  · exact at' k hk c hc
theorem Alk_fall (A : Alk σ σ' jc tc ln) (hk : k < tc) : Alk (fFall σ k) (fFall σ' k) jc tc ln := by
  unfold fFall
  rw [A.2.2 k hk 0 (by omega), A.2.2 k hk 7 (by omega)]
  exact Alk_u3 (Alk_u3 (Alk_u3 A _ _ _ _) _ _ _ _) _ _ _ _
theorem Alk_miss (A : Alk σ σ' jc tc ln) (hk : k < tc) (hi : i < jc) : Alk (fMiss σ i k) (fMiss σ' i k) jc tc ln := by
  unfold fMiss
  rw [A.2.2 k hk 0 (by omega)]
  split
  · rw [(A.2.1 i hi).1 3 (by omega) (by omega)]
    exact Alk_fall (Alk_u3 A _ _ _ _) hk
  · exact Alk_fall A hk
theorem Alk_put (A : Alk σ σ' jc tc ln) (to : Int32) : Alk (fPut σ k to j hd) (fPut σ' k to j hd) jc tc ln := by
  unfold fPut
  exact Alk_u3 (Alk_u3 (Alk_u3 (Alk_u3 A _ _ _ _) _ _ _ _) _ _ _ _) _ _ _ _
theorem Alk_dn1 (S : Shp σ jc tc ln) (A : Alk σ σ' jc tc ln) (hk : k < tc) (hh : hd < 2) : Alk (fDown1 σ k hd) (fDown1 σ' k hd) jc tc ln ∧ fDown1r σ' k hd = fDown1r σ k hd := by
  have e1 : fDown σ' k (σ' 0 0 4) = fDown σ k (σ 0 0 4) := by
    unfold fDown
    rw [A.2.2 k hk 1 (by omega), A.2.2 k hk 4 (by omega), A.1 4 (by omega) (by omega)]
  have e2 : σ' 8 k 2 = σ 8 k 2 := A.2.2 k hk 2 (by omega)
  have e3 : ∀ x, fHasJ σ' x = fHasJ σ x := fun x => by
    unfold fHasJ
    rw [A.1 2 (by omega) (by omega)]
  have e5 : σ' 8 k 5 = σ 8 k 5 := A.2.2 k hk 5 (by omega)
  unfold fDown1 fDown1r
  rw [e1, e2, e3, e5]
  by_cases f0 : fDown σ k (σ 0 0 4) = 0
  · simp only [if_pos f0]
    exact ⟨A, trivial⟩
  · simp only [if_neg f0]
    by_cases f1 : fHasJ σ (σ 8 k 2) = 0
    · simp only [if_pos f1]
      exact ⟨A, trivial⟩
    · simp only [if_neg f1]
      have ix := (fHasJ_ix S.2.2.1 S.1 f1).2.2
      generalize (σ 8 k 2).toNatClampNeg = i at ix
      have e4 : fCan σ' i (σ 8 k 5) hd = fCan σ i (σ 8 k 5) hd := by
        unfold fCan
        rw [(A.2.1 i ix).2.2.1 hd hh, (A.2.1 i ix).1 2 (by omega) (by omega)]
      rw [e4]
      by_cases f2 : fCan σ i (σ 8 k 5) hd = 0
      · simp only [if_pos f2]
        exact ⟨Alk_miss A hk ix, trivial⟩
      · simp only [if_neg f2]
        have B : Alk (fPut σ k (σ 8 k 2) i hd) (fPut σ' k (σ 8 k 2) i hd) jc tc ln := Alk_put A _
        rw [(B.2.1 i ix).1 4 (by omega) (by omega)]
        exact ⟨Alk_u3 B _ _ _ _, trivial⟩
theorem Alk_dn (S : Shp σ jc tc ln) (A : Alk σ σ' jc tc ln) (hh : hd < 2) : ∀ n, n ≤ tc → Alk (dnL hd σ n) (dnL hd σ' n) jc tc ln ∧ dnR hd σ' n = dnR hd σ n
  | 0, _ => ⟨A, rfl⟩
  | n + 1, h => by
    obtain ⟨h1, h2⟩ := Alk_dn S A hh n (by omega)
    obtain ⟨g1, g2⟩ := Alk_dn1 (Shp_dn S n) h1 (show n < tc by omega) hh
    refine ⟨g1, ?_⟩
    show dnR hd σ' n + fDown1r (dnL hd σ' n) n hd = dnR hd σ n + fDown1r (dnL hd σ n) n hd
    rw [h2, g2]
theorem Alk_throw {q : Nat} (S : Shp σ jc tc ln) (A : Alk σ σ' jc tc ln) (hi : i < jc) (hq : q < ln i) (hh : hd < 2) : Alk (fThrow σ i q hd) (fThrow σ' i q hd) jc tc ln := by
  have e1 : ∀ x, fHasT σ' x = fHasT σ x := fun x => by
    unfold fHasT
    rw [A.1 3 (by omega) (by omega)]
  unfold fThrow
  rw [(A.2.1 i hi).2.2.1 hd hh, e1, ((A.2.1 i hi).2.2.2 q hq).1, ((A.2.1 i hi).2.2.2 q hq).2, A.1 4 (by omega) (by omega)]
  by_cases f0 : fHasT σ (σ 6 i hd) = 0
  · simp only [if_pos f0]
    exact A
  · simp only [if_neg f0]
    have ix := (fHasT_ix S.2.2.2.1 S.2.1 f0).2.2
    generalize (σ 6 i hd).toNatClampNeg = k at ix
    split
    · exact A
    · unfold fFly
      rw [A.2.2 k ix 0 (by omega), A.2.2 k ix 6 (by omega)]
      exact Alk_u3 (Alk_u3 (Alk_u3 (Alk_u3 (Alk_u3 (Alk_u3 (Alk_u3 A _ _ _ _) _ _ _ _) _ _ _ _) _ _ _ _) _ _ _ _) _ _ _ _) _ _ _ _
theorem Alk_th (S : Shp σ jc tc ln) (A : Alk σ σ' jc tc ln) : ∀ n, n ≤ jc → Alk (thL b ln σ n) (thL b ln σ' n) jc tc ln
  | 0, _ => A
  | n + 1, h => Alk_throw (Shp_th S n) (Alk_th S A n (by omega)) (show n < jc by omega) (Nat.mod_lt b (S.2.2.2.2 n (by omega)).1) (Nat.mod_lt b (by decide))
theorem Alk_beat (S : Shp σ jc tc ln) (A : Alk σ σ' jc tc ln) : Alk (fBeat σ b jc tc ln) (fBeat σ' b jc tc ln) jc tc ln ∧ fBeatR σ' b tc = fBeatR σ b tc := by
  obtain ⟨h1, h2⟩ := Alk_dn S A (Nat.mod_lt b (by decide : 0 < 2)) tc (Nat.le_refl tc)
  exact ⟨Alk_u3 (Alk_th (Shp_dn S tc) h1 jc (Nat.le_refl jc)) _ _ _ _, h2⟩
theorem Alk_play (S : Shp σ jc tc ln) (A : Alk σ σ' jc tc ln) : ∀ n, Alk (plL b jc tc ln σ n) (plL b jc tc ln σ' n) jc tc ln ∧ plR b jc tc ln σ' n = plR b jc tc ln σ n
  | 0 => ⟨A, rfl⟩
  | n + 1 => by
    obtain ⟨h1, h2⟩ := Alk_play S A n
    obtain ⟨g1, g2⟩ := Alk_beat (Shp_pl S n) h1
    refine ⟨g1, ?_⟩
    show plR b jc tc ln σ' n + fBeatR (plL b jc tc ln σ' n) (b + n) tc = plR b jc tc ln σ n + fBeatR (plL b jc tc ln σ n) (b + n) tc
    rw [h2, g2]
theorem Alk_in (A : Alk σ σ' jc tc ln) (x : Int32) : fIn σ' tc x = fIn σ tc x := cI_eq (fun k hk => by rw [A.2.2 k hk 1 (by omega)])
-- falls
/-- what falls in the beat x from now on -/
def rB (σ : Sg) (b jc tc : Nat) (ln : Nat → Nat) (x : Nat) : Int32 := fBeatR (plL b jc tc ln σ x) (b + x) tc
theorem rB_alk (S : Shp σ jc tc ln) (A : Alk σ σ' jc tc ln) (x : Nat) : rB σ' b jc tc ln x = rB σ b jc tc ln x := (Alk_beat (Shp_pl S x) (Alk_play S A x).1).2
theorem flF_spec {f : Nat → Int32} : ∀ k q, (flF f k q = -1 ∧ ∀ x, q ≤ x → x < q + k → f x ≤ 0) ∨ ∃ x, q ≤ x ∧ x < q + k ∧ flF f k q = nI x ∧ ¬ f x ≤ 0 ∧ ∀ y, q ≤ y → y < x → f y ≤ 0
  | 0, q => Or.inl ⟨rfl, fun x h1 h2 => by omega⟩
  | k + 1, q => by
    unfold flF
    by_cases z : f q ≤ 0
    · rw [if_pos z]
      rcases flF_spec k (q + 1) with ⟨h1, h2⟩ | ⟨x, h1, h2, h3, h4, h5⟩
      · refine Or.inl ⟨h1, fun x g1 g2 => ?_⟩
        by_cases y : x = q
        · rw [y]; exact z
        · exact h2 x (by omega) (by omega)
      · refine Or.inr ⟨x, by omega, by omega, h3, h4, fun y g1 g2 => ?_⟩
        by_cases w : y = q
        · rw [w]; exact z
        · exact h5 y (by omega) g2
    · rw [if_neg z]
      exact Or.inr ⟨q, Nat.le_refl q, by omega, rfl, z, fun y g1 g2 => by omega⟩
theorem plR_pos (h12 : tc ≤ 12) : ∀ n, n ≤ 1000 → ∃ d, d ≤ n * 12 ∧ plR b jc tc ln σ n = nI d ∧ (0 < d ↔ ∃ x, x < n ∧ ¬ rB σ b jc tc ln x ≤ 0)
  | 0, _ => ⟨0, Nat.le_refl _, rfl, fun h => absurd h (Nat.lt_irrefl 0), fun ⟨x, h, _⟩ => absurd h (Nat.not_lt_zero x)⟩
  | n + 1, hn => by
    obtain ⟨d, h1, h2, h3⟩ := plR_pos h12 n (by omega)
    obtain ⟨d2, g1, g2⟩ := dnR_n (hd := (b + n) % 2) (σ := plL b jc tc ln σ n) tc
    have g3 : rB σ b jc tc ln n = nI d2 := g2
    refine ⟨d + d2, by omega, ?_, ?_⟩
    · show plR b jc tc ln σ n + rB σ b jc tc ln n = _
      rw [h2, g3, nI_add]
    · have e : ¬ rB σ b jc tc ln n ≤ 0 ↔ 0 < d2 := by
        rw [g3]
        constructor
        · intro z
          rcases Nat.lt_or_ge 0 d2 with w | w
          · exact w
          · have : d2 = 0 := by omega
            rw [this] at z
            exact absurd (show nI 0 ≤ 0 by decide) z
        · exact fun w => nI_nle w (by omega)
      constructor
      · intro w
        by_cases z : 0 < d2
        · exact ⟨n, by omega, e.mpr z⟩
        · obtain ⟨x, x1, x2⟩ := h3.mp (by omega)
          exact ⟨x, by omega, x2⟩
      · rintro ⟨x, x1, x2⟩
        by_cases z : x = n
        · subst z
          have := e.mp x2
          omega
        · have := h3.mpr ⟨x, by omega, x2⟩
          omega
/-- the first fall and how many fall are told alike -/
theorem falls_e (S : Shp σ jc tc ln) (A : Alk σ σ' jc tc ln) (h1 : 1 ≤ n) (h200 : n ≤ 200) : (0 < flF (fFall1 σ' b jc tc ln) 200 1 ∧ flF (fFall1 σ' b jc tc ln) 200 1 ≤ nI n) ↔ 0 < plR b jc tc ln σ n := by
  obtain ⟨d, d1, d2, d3⟩ := plR_pos (b := b) (jc := jc) (ln := ln) (σ := σ) S.2.1 n (by omega)
  have ef : ∀ x, fFall1 σ' b jc tc ln (x + 1) = rB σ b jc tc ln x := fun x => rB_alk S A x
  have e0 : 0 < plR b jc tc ln σ n ↔ 0 < d := by
    rw [d2]
    show nI 0 < nI d ↔ 0 < d
    exact nI_ltI (by decide) (by omega)
  rw [e0, d3]
  rcases flF_spec (f := fFall1 σ' b jc tc ln) 200 1 with ⟨g1, g2⟩ | ⟨x, x1, x2, x3, x4, x5⟩
  · rw [g1]
    constructor
    · exact fun z => absurd z.1 (by decide)
    · rintro ⟨y, y1, y2⟩
      exact absurd ((ef y) ▸ g2 (y + 1) (by omega) (by omega)) y2
  · rw [x3]
    have q1 : (0 : Int32) < nI x := nI_lt (a := 0) (by omega) (by omega)
    obtain ⟨y, rfl⟩ : ∃ y, x = y + 1 := ⟨x - 1, by omega⟩
    constructor
    · rintro ⟨-, z⟩
      have := (nI_leI (by omega) (by omega)).mp z
      exact ⟨y, by omega, by rw [← ef]; exact x4⟩
    · rintro ⟨w, w1, w2⟩
      refine ⟨q1, (nI_leI (by omega) (by omega)).mpr ?_⟩
      rcases Nat.lt_or_ge w y with z | z
      · exact absurd ((ef w) ▸ x5 (w + 1) (by omega) (by omega)) w2
      · omega
-- advise
theorem Alk_with {p h : Nat} (hp : p < ln j) (hj : j < jc) (e : σ 4 j p = nI h) : Alk σ (fWith σ ρ b jc tc ln n j p h) jc tc ln := by
  obtain ⟨a0, aj, at'⟩ := Alk_copy (ρ := σ) (σ := ρ) (jc := jc) (tc := tc) (ln := ln)
  unfold fWith
  refine ⟨fun c h1 h2 => ?_, fun i hi => ⟨fun c h1 h2 => ?_, ?_, fun h hh => ?_, fun q hq => ⟨?_, ?_⟩⟩, fun k hk c hc => ?_⟩
  · rw [u3_ne (by omega)]; exact a0 c h1 h2
  · rw [u3_ne (by omega)]; exact (aj i hi).1 c h1 h2
  · rw [u3_ne (by omega)]; exact (aj i hi).2.1
  · rw [u3_ne (by omega)]; exact (aj i hi).2.2.1 h hh
  · rw [u3_eq]
    split
    · rename_i z
      obtain ⟨-, rfl, rfl⟩ := z
      exact e.symm
    · exact ((aj i hi).2.2.2 q hq).1
  · rw [u3_ne (by omega)]; exact ((aj i hi).2.2.2 q hq).2
  · rw [u3_ne (by omega)]; exact at' k hk c hc
/-- an advice that may stand -/
def AdOk (σ : Sg) (j : Nat) (ln : Nat → Nat) (ad : Int32) : Prop := ad = -1 ∨ ∃ p h, p < ln j ∧ h ≤ 9 ∧ ad = nI (10 * p + h) ∧ ¬ σ 4 j p = nI h
theorem adI_ok {p : Nat} (S : Shp σ jc tc ln) (hp : p < ln j) (hj : j < jc) : ∀ (k h : Nat) (fw ad : Int32) (ρ : Sg), h + k = 10 → fw ≤ plR b jc tc ln σ n → AdOk σ j ln ad → (adI σ b jc tc ln n j p k h fw ad ρ).1 ≤ plR b jc tc ln σ n ∧ AdOk σ j ln (adI σ b jc tc ln n j p k h fw ad ρ).2.1
  | 0, _, fw, ad, ρ, _, h1, h2 => ⟨h1, h2⟩
  | k + 1, h, fw, ad, ρ, hk, h1, h2 => by
    unfold adI
    split
    · exact ⟨h1, h2⟩
    · split
      · rename_i z
        refine adI_ok S hp hj k (h + 1) _ _ _ (by omega) (Int32.le_of_lt (Int32.lt_of_lt_of_le z h1)) (Or.inr ⟨p, h, hp, by omega, ?_, fun e => ?_⟩)
        · rw [show (10 : Int32) = nI 10 from rfl, pk_mul, nI_add]
        · have := (Alk_play (b := b) S (Alk_with (ρ := ρ) (b := b) (n := n) hp hj e) n).2
          rw [this] at z
          exact Int32.lt_irrefl (Int32.lt_of_lt_of_le z h1)
      · exact adI_ok S hp hj k (h + 1) _ _ _ (by omega) h1 h2
theorem adO_ok (S : Shp σ jc tc ln) (hj : j < jc) : ∀ (k p : Nat) (fw ad : Int32) (ρ : Sg), p + k = ln j → fw ≤ plR b jc tc ln σ n → AdOk σ j ln ad → AdOk σ j ln (adO σ b jc tc ln n j k p fw ad ρ).1
  | 0, _, fw, ad, ρ, _, h1, h2 => h2
  | k + 1, p, fw, ad, ρ, hk, h1, h2 => by
    obtain ⟨g1, g2⟩ := adI_ok (b := b) (n := n) S (show p < ln j by omega) hj 10 0 fw ad ρ rfl h1 h2
    exact adO_ok S hj k (p + 1) _ _ _ (by omega) g1 g2
/-- the advice itself -/
theorem advise_ok (S : Shp σ jc tc ln) (hj : j < jc) : AdOk σ j ln (adO σ b jc tc ln n j (ln j) 0 (plR b jc tc ln (fCopyR ρ σ jc tc ln) n) (-1) (plL b jc tc ln (fCopyR ρ σ jc tc ln) n)).1 :=
  adO_ok S hj (ln j) 0 _ _ _ (Nat.zero_add _) (by rw [(Alk_play (b := b) S Alk_copy n).2]; exact Int32.le_refl _) (Or.inl rfl)
end ALK
end
section
/-! ===== every call keeps it ===== -/
section STC
variable {σ σ' ρ : Sg} {jc tc b k i hd n j : Nat} {ln : Nat → Nat}
def lnSet (ln : Nat → Nat) (j n : Nat) : Nat → Nat := fun i => if i = j then n else ln i
theorem lnSet_at : lnSet ln j n j = n := if_pos rfl
theorem lnSet_ne (h : i ≠ j) : lnSet ln j n i = ln i := if_neg h
theorem fAddJ_e {j : Nat} {sk : Int32} (a x c : Nat) : fAddJ σ j sk a x c = if a = 0 ∧ x = 0 ∧ c = 2 then nI j + 1 else if a = 5 ∧ x = j ∧ c = 0 then nI j else if a = 4 ∧ x = j ∧ c = 0 then 0 else if a = 3 ∧ x = j ∧ c = 2 then nI 1 else if a = 2 ∧ x = j ∧ c = 2 then sk else σ a x c := by
  unfold fAddJ fWrite wrL wrL
  rw [u3_eq, u3_eq, u3_eq, u3_eq, u3_eq]
  rfl
theorem sI_last {f : Nat → Int32} {n : Nat} (h : f n = 0) : sI f (n + 1) = sI f n := by
  show sI f n + f n = sI f n
  rw [h, Int32.add_zero]
theorem RI_come (I : RI σ jc tc b ln) (hj : jc < 4) (x : Int32) : RI (fAddJ σ jc x) (jc + 1) tc b (lnSet ln jc 1) := by
  obtain ⟨⟨s4, s12, sJ, sT, sL⟩, i2, i3, i4, i5, ⟨f1, f2⟩, m1, m2, m3⟩ := I
  have e8 : ∀ a c, fAddJ σ jc x 8 a c = σ 8 a c := fun a c => by rw [fAddJ_e]; simp
  have e8f : ∀ a, fAddJ σ jc x 8 a = σ 8 a := fun a => funext (fun c => e8 a c)
  have e6 : ∀ a c, fAddJ σ jc x 6 a c = σ 6 a c := fun a c => by rw [fAddJ_e]; simp
  have e2 : ∀ a c, c ≠ 2 → fAddJ σ jc x 2 a c = σ 2 a c := fun a c hc => by rw [fAddJ_e]; simp [hc]
  obtain ⟨z1, z2, z3, z4⟩ := f1 jc (Nat.le_refl jc) hj
  refine ⟨⟨by omega, s12, ?_, ?_, fun i hi => ?_⟩, ?_, fun i hi p hp => ?_, fun i h hi hh => ?_, fun k hk => ?_, ⟨fun i hi h4 => ?_, fun k hk h12 => ?_⟩, ?_, ?_, ?_⟩
  · rw [fAddJ_e]; simp [nI_1]
  · rw [fAddJ_e]; simpa using sT
  · unfold lnSet
    rw [fAddJ_e]
    by_cases z : i = jc
    · subst z; simp
    · have := sL i (by omega)
      simpa [z] using this
  · rw [fAddJ_e]; simpa using i2
  · unfold lnSet at hp
    by_cases z : i = jc
    · subst z
      have hp0 : p = 0 := by simpa using hp
      subst hp0
      exact ⟨0, i, by omega, by omega, by rw [fAddJ_e]; simp; rfl, by rw [fAddJ_e]; simp⟩
    · have hp2 : p < ln i := by simpa [z] using hp
      obtain ⟨h, t, h9, ht, b1, b2⟩ := i3 i (by omega) p hp2
      exact ⟨h, t, h9, by omega, by rw [fAddJ_e]; simpa [z] using b1, by rw [fAddJ_e]; simpa [z] using b2⟩
  · rw [e6]
    by_cases z : i = jc
    · subst z
      rcases (show h = 0 ∨ h = 1 by omega) with rfl | rfl
      · exact Or.inl z1
      · exact Or.inl z2
    · rcases i4 i h (by omega) hh with y | ⟨k, y1, y2, y3, y4, y5⟩
      · exact Or.inl y
      · exact Or.inr ⟨k, y1, y2, by rw [e8]; exact y3, by rw [e8]; exact y4, by rw [e8]; exact y5⟩
  · refine ⟨?_, tEg_of (i5 k hk).2 (fun c => e8 k c)⟩
    unfold tAt
    rw [e8, e8, e8, e8]
    rcases (i5 k hk).1 with z | ⟨z, i, h, hi, hh, z2, z3, z4⟩ | ⟨z, z9, i, d, hi, z2⟩ | z
    · exact Or.inl z
    · exact Or.inr (Or.inl ⟨z, i, h, by omega, hh, z2, z3, by rw [e6]; exact z4⟩)
    · exact Or.inr (Or.inr (Or.inl ⟨z, z9, i, d, by omega, z2⟩))
    · exact Or.inr (Or.inr (Or.inr z))
  · rw [e6, e6, e2 i 3 (by decide), e2 i 4 (by decide)]
    exact f1 i (by omega) h4
  · rw [e8, e8, e8, e8, e8]
    exact f2 k hk h12
  · have a3 : sCau (fAddJ σ jc x) (jc + 1) = sCau σ jc := (sI_last (by show fAddJ σ jc x 2 jc 4 = 0; rw [e2 jc 4 (by decide)]; exact z4)).trans (sI_eq (fun i _ => e2 i 4 (by decide)))
    have a1 : sThr (fAddJ σ jc x) tc = sThr σ tc := sI_eq (fun i _ => e8 i 6)
    have a2 : sFel (fAddJ σ jc x) tc = sFel σ tc := sI_eq (fun i _ => e8 i 7)
    have a6 : sAt (fAddJ σ jc x) tc 2 = sAt σ tc 2 := sI_eq (fun i _ => by show atF _ _ _ = atF _ _ _; unfold atF; rw [e8])
    rw [a1, a2, a3, a6]; exact m1
  · have a4 : sBru (fAddJ σ jc x) (jc + 1) = sBru σ jc := (sI_last (by show fAddJ σ jc x 2 jc 3 = 0; rw [e2 jc 3 (by decide)]; exact z3)).trans (sI_eq (fun i _ => e2 i 3 (by decide)))
    have a5 : sHam (fAddJ σ jc x) tc = sHam σ tc := sI_eq (fun i _ => by show hamF _ _ = hamF _ _; unfold hamF; rw [e8, e8])
    rw [a4, a5]; exact m2
  · have a8 : sHan (fAddJ σ jc x) (jc + 1) = sHan σ jc := (sI_last (by unfold hanF; rw [e6, e6, z1, z2]; decide)).trans (sI_eq (fun i _ => by show hanF _ _ = hanF _ _; unfold hanF; rw [e6, e6]))
    have a7 : sAt (fAddJ σ jc x) tc 1 = sAt σ tc 1 := sI_eq (fun i _ => by show atF _ _ _ = atF _ _ _; unfold atF; rw [e8])
    rw [a8, a7]; exact m3
/-- where only patterns change -/
theorem RI_pat0 {ln' : Nat → Nat} (I : RI σ jc tc b ln) (S : Shp σ' jc tc ln') (P : Pat σ' jc ln') (e : ∀ a x c, a ≠ 3 → a ≠ 4 → a ≠ 5 → σ' a x c = σ a x c) : RI σ' jc tc b ln' := by
  obtain ⟨i1, i2, i3, i4, i5, ⟨f1, f2⟩, m1, m2, m3⟩ := I
  have e8 : ∀ a c, σ' 8 a c = σ 8 a c := fun a c => e 8 a c (by decide) (by decide) (by decide)
  have e6 : ∀ a c, σ' 6 a c = σ 6 a c := fun a c => e 6 a c (by decide) (by decide) (by decide)
  have e2 : ∀ a c, σ' 2 a c = σ 2 a c := fun a c => e 2 a c (by decide) (by decide) (by decide)
  refine ⟨S, (e 0 0 4 (by decide) (by decide) (by decide)).trans i2, P, fun i h hi hh => ?_, fun k hk => ⟨tAt_of (i5 k hk).1 (fun c => e8 k c) (fun a h _ _ y => (e6 a h).trans y), tEg_of (i5 k hk).2 (fun c => e8 k c)⟩, ⟨fun i hi h4 => ?_, fun k hk h12 => ?_⟩, ?_, ?_, ?_⟩
  · rw [e6]
    rcases i4 i h hi hh with y | ⟨k, y1, y2, y3, y4, y5⟩
    · exact Or.inl y
    · exact Or.inr ⟨k, y1, y2, by rw [e8]; exact y3, by rw [e8]; exact y4, by rw [e8]; exact y5⟩
  · rw [e6, e6, e2, e2]
    exact f1 i hi h4
  · rw [e8, e8, e8, e8, e8]
    exact f2 k hk h12
  · have a3 : sCau σ' jc = sCau σ jc := sI_eq (fun i _ => e2 i 4)
    have a1 : sThr σ' tc = sThr σ tc := sI_eq (fun i _ => e8 i 6)
    have a2 : sFel σ' tc = sFel σ tc := sI_eq (fun i _ => e8 i 7)
    have a6 : sAt σ' tc 2 = sAt σ tc 2 := sI_eq (fun i _ => by show atF _ _ _ = atF _ _ _; unfold atF; rw [e8])
    rw [a1, a2, a3, a6]; exact m1
  · have a4 : sBru σ' jc = sBru σ jc := sI_eq (fun i _ => e2 i 3)
    have a5 : sHam σ' tc = sHam σ tc := sI_eq (fun i _ => by show hamF _ _ = hamF _ _; unfold hamF; rw [e8, e8])
    rw [a4, a5]; exact m2
  · have a8 : sHan σ' jc = sHan σ jc := sI_eq (fun i _ => by show hanF _ _ = hanF _ _; unfold hanF; rw [e6, e6])
    have a7 : sAt σ' tc 1 = sAt σ tc 1 := sI_eq (fun i _ => by show atF _ _ _ = atF _ _ _; unfold atF; rw [e8])
    rw [a8, a7]; exact m3
theorem wrL_hi {a c : Nat} {ow : Int32} : ∀ (n : Nat) (d : Int32) (σ : Sg), n ≤ c → wrL i ow n d σ a i c = σ a i c
  | 0, _, _, _ => rfl
  | n + 1, d, σ, h => by
    show wrL i ow n (d / 10) (u3 (u3 σ 4 i n (d - d / 10 * 10)) 5 i n ow) a i c = σ a i c
    rw [wrL_hi n _ _ (by omega), u3_ne (by omega), u3_ne (by omega)]
theorem wrL_i {a x c : Nat} {ow : Int32} (hx : x ≠ i) : ∀ (n : Nat) (d : Int32) (σ : Sg), wrL i ow n d σ a x c = σ a x c
  | 0, _, _ => rfl
  | n + 1, d, σ => by
    show wrL i ow n (d / 10) (u3 (u3 σ 4 i n (d - d / 10 * 10)) 5 i n ow) a x c = σ a x c
    rw [wrL_i hx n, u3_ne (by omega), u3_ne (by omega)]
theorem wr_one {p : Nat} : ∀ (n d : Nat) (σ : Sg), d < 2 ^ 31 → p < n → ∃ h, h ≤ 9 ∧ wrL j (nI j) n (nI d) σ 4 j p = nI h ∧ wrL j (nI j) n (nI d) σ 5 j p = nI j
  | 0, _, _, _, z => absurd z (Nat.not_lt_zero p)
  | n + 1, d, σ, hd, z => by
    have e1 : nI d / 10 = nI (d / 10) := pk_div hd (by decide) (by decide)
    have e2 : nI d - nI d / 10 * 10 = nI (d % 10) := pk_rem hd (by decide) (by decide)
    have w : ∀ a c, wrL j (nI j) (n + 1) (nI d) σ a j c = wrL j (nI j) n (nI (d / 10)) (u3 (u3 σ 4 j n (nI (d % 10))) 5 j n (nI j)) a j c := fun a c => by
      show wrL j (nI j) n (nI d / 10) (u3 (u3 σ 4 j n (nI d - nI d / 10 * 10)) 5 j n (nI j)) a j c = _
      rw [e2, e1]
    rw [w, w]
    by_cases y : p = n
    · subst y
      refine ⟨d % 10, by omega, ?_, ?_⟩
      · rw [wrL_hi _ _ _ (Nat.le_refl _), u3_ne (by omega), u3_at]
      · rw [wrL_hi _ _ _ (Nat.le_refl _), u3_at]
    · exact wr_one n (d / 10) _ (by omega) (by omega)
theorem RI_pat (I : RI σ jc tc b ln) {d : Nat} (hj : j < jc) (h1 : 1 ≤ n) (h8 : n ≤ 8) (hd : d < 2 ^ 31) : RI (fWrite σ j (nI j) n (nI d)) jc tc b (lnSet ln j n) := by
  have er : ∀ a x c, a ≠ 3 → a ≠ 4 → a ≠ 5 → fWrite σ j (nI j) n (nI d) a x c = σ a x c := fun a x c h3 h4 h5 => fWrite_k h3 h4 h5
  have ei : ∀ a x c, x ≠ j → fWrite σ j (nI j) n (nI d) a x c = σ a x c := fun a x c hx => by
    unfold fWrite
    rw [wrL_i hx, u3_ne (by omega)]
  have e3 : fWrite σ j (nI j) n (nI d) 3 j 2 = nI n := by
    unfold fWrite
    rw [wrL_k (by decide) (by decide), u3_at]
  obtain ⟨s4, s12, sJ, sT, sL⟩ := I.1
  refine RI_pat0 I ⟨s4, s12, (er _ _ _ (by decide) (by decide) (by decide)).trans sJ, (er _ _ _ (by decide) (by decide) (by decide)).trans sT, fun i hi => ?_⟩ (fun i hi p hp => ?_) er
  · by_cases z : i = j
    · subst z; rw [lnSet_at]; exact ⟨h1, h8, e3⟩
    · rw [lnSet_ne z, ei _ _ _ z]; exact sL i hi
  · by_cases z : i = j
    · subst z
      rw [lnSet_at] at hp
      obtain ⟨h, h9, b1, b2⟩ := wr_one (j := i) n d (u3 σ 3 i 2 (nI n)) hd hp
      exact ⟨h, i, h9, hi, b1, b2⟩
    · rw [lnSet_ne z] at hp
      rw [ei _ _ _ z, ei _ _ _ z]
      exact I.2.2.1 i hi p hp
/-- the last throw of a pattern that is written goes to oneself -/
theorem pat_own (h1 : 1 ≤ n) {d : Nat} (hd : d < 2 ^ 31) : fWrite σ j (nI j) n (nI d) 5 j (n - 1) = nI j := by
  obtain ⟨h, h9, b1, b2⟩ := wr_one (j := j) (p := n - 1) n d (u3 σ 3 j 2 (nI n)) hd (by omega)
  exact b2
theorem RI_pass (I : RI σ jc tc b ln) {p t : Nat} (ht : t < jc) : RI (u3 σ 5 j p (nI t)) jc tc b ln := by
  refine RI_pat0 I (Shp_u3 I.1 (by decide) (by decide)) (fun i hi a ha => ?_) (fun a x c h3 h4 h5 => u3_ne (by omega))
  obtain ⟨h, t2, h9, ht2, b1, b2⟩ := I.2.2.1 i hi a ha
  rw [u3_ne (by omega), u3_eq]
  split
  · exact ⟨h, t, h9, ht, b1, rfl⟩
  · exact ⟨h, t2, h9, ht2, b1, b2⟩
theorem RI_make (I : RI σ jc tc b ln) (hk : tc < 12) {x : Nat} (hx : x < 3) : RI (fAddT σ tc (nI x)) jc (tc + 1) b ln := by
  obtain ⟨⟨s4, s12, sJ, sT, sL⟩, i2, i3, i4, i5, ⟨f1, f2⟩, m1, m2, m3⟩ := I
  have e : ∀ a y c, fAddT σ tc (nI x) a y c = if a = 0 ∧ y = 0 ∧ c = 3 then nI tc + 1 else if a = 8 ∧ y = tc ∧ c = 0 then nI x else σ a y c := fun a y c => by
    unfold fAddT
    rw [u3_eq, u3_eq]
  have e8 : ∀ y c, c ≠ 0 → fAddT σ tc (nI x) 8 y c = σ 8 y c := fun y c hc => by rw [e]; simp [hc]
  have e8' : ∀ y c, y ≠ tc → fAddT σ tc (nI x) 8 y c = σ 8 y c := fun y c hc => by rw [e]; simp [hc]
  have e6 : ∀ y c, fAddT σ tc (nI x) 6 y c = σ 6 y c := fun y c => by rw [e]; simp
  have e2 : ∀ y c, fAddT σ tc (nI x) 2 y c = σ 2 y c := fun y c => by rw [e]; simp
  have e45 : ∀ a y c, a = 4 ∨ a = 5 → fAddT σ tc (nI x) a y c = σ a y c := fun a y c h => by rw [e, if_neg (by omega), if_neg (by omega)]
  obtain ⟨g1, g2, g3, g4, g5⟩ := f2 tc (Nat.le_refl tc) hk
  have hkd : nI x = 0 ∨ nI x = 1 ∨ nI x = 2 := by
    rcases (show x = 0 ∨ x = 1 ∨ x = 2 by omega) with rfl | rfl | rfl
    · exact Or.inl rfl
    · exact Or.inr (Or.inl rfl)
    · exact Or.inr (Or.inr rfl)
  refine ⟨⟨s4, by omega, by rw [e]; simpa using sJ, by rw [e]; simp [nI_1], fun i hi => by rw [e]; simpa using sL i hi⟩, by rw [e]; simpa using i2, fun i hi p hp => ?_, fun i h hi hh => ?_, fun k hk2 => ?_, ⟨fun i hi h4 => ?_, fun k h1 h12 => ?_⟩, ?_, ?_, ?_⟩
  · rw [e45 4 i p (Or.inl rfl), e45 5 i p (Or.inr rfl)]
    exact i3 i hi p hp
  · rw [e6]
    rcases i4 i h hi hh with y | ⟨k, y1, y2, y3, y4, y5⟩
    · exact Or.inl y
    · exact Or.inr ⟨k, by omega, y2, by rw [e8 _ _ (by decide)]; exact y3, by rw [e8 _ _ (by decide)]; exact y4, by rw [e8 _ _ (by decide)]; exact y5⟩
  · by_cases z : k = tc
    · subst z
      refine ⟨Or.inl ⟨(e8 _ _ (by decide)).trans g1, (e8 _ _ (by decide)).trans g2, (e8 _ _ (by decide)).trans g3⟩, ?_, fun w => ?_, fun _ _ => (e8 _ _ (by decide)).trans g5⟩
      · rw [e]; simpa using hkd
      · rw [e8 _ _ (by decide), g1] at w
        exact absurd w (by decide)
    · exact ⟨tAt_of (i5 k (by omega)).1 (fun c => e8' k c z) (fun a h _ _ y => (e6 a h).trans y), tEg_of (i5 k (by omega)).2 (fun c => e8' k c z)⟩
  · rw [e6, e6, e2, e2]
    exact f1 i hi h4
  · rw [e8 _ _ (by decide), e8 _ _ (by decide), e8 _ _ (by decide), e8 _ _ (by decide), e8 _ _ (by decide)]
    exact f2 k (by omega) h12
  · have a3 : sCau (fAddT σ tc (nI x)) jc = sCau σ jc := sI_eq (fun i _ => e2 i 4)
    have a1 : sThr (fAddT σ tc (nI x)) (tc + 1) = sThr σ tc := (sI_last (by show fAddT σ tc (nI x) 8 tc 6 = 0; exact (e8 _ _ (by decide)).trans g4)).trans (sI_eq (fun i _ => e8 i 6 (by decide)))
    have a2 : sFel (fAddT σ tc (nI x)) (tc + 1) = sFel σ tc := (sI_last (by show fAddT σ tc (nI x) 8 tc 7 = 0; exact (e8 _ _ (by decide)).trans g5)).trans (sI_eq (fun i _ => e8 i 7 (by decide)))
    have a6 : sAt (fAddT σ tc (nI x)) (tc + 1) 2 = sAt σ tc 2 := (sI_last (by unfold atF; rw [e8 _ _ (by decide), g1]; decide)).trans (sI_eq (fun i _ => by show atF _ _ _ = atF _ _ _; unfold atF; rw [e8 _ _ (by decide)]))
    rw [a1, a2, a3, a6]; exact m1
  · have a4 : sBru (fAddT σ tc (nI x)) jc = sBru σ jc := sI_eq (fun i _ => e2 i 3)
    have a5 : sHam (fAddT σ tc (nI x)) (tc + 1) = sHam σ tc := (sI_last (by unfold hamF; rw [e8 _ 7 (by decide), g5]; split <;> rfl)).trans (sI_eq (fun i hi => by show hamF _ _ = hamF _ _; unfold hamF; rw [e8' _ _ (by omega), e8' _ _ (by omega)]))
    rw [a4, a5]; exact m2
  · have a8 : sHan (fAddT σ tc (nI x)) jc = sHan σ jc := sI_eq (fun i _ => by show hanF _ _ = hanF _ _; unfold hanF; rw [e6, e6])
    have a7 : sAt (fAddT σ tc (nI x)) (tc + 1) 1 = sAt σ tc 1 := (sI_last (by unfold atF; rw [e8 _ _ (by decide), g1]; decide)).trans (sI_eq (fun i _ => by show atF _ _ _ = atF _ _ _; unfold atF; rw [e8 _ _ (by decide)]))
    rw [a8, a7]; exact m3
theorem RI_put (I : RI σ jc tc b ln) (hk : k < tc) (hj : j < jc) (hh : hd < 2) (h0 : σ 8 k 1 = 0) (h6 : σ 6 j hd = -1) : RI (fPut σ k (nI j) j hd) jc tc b ln :=
  Iv_put I hk hj hh h0 h6 (by intro a c; simp [fPut, u3_eq]) (by intro a c ha; simp [fPut, u3_eq, ha]) (by simp [fPut, u3_eq]) (by simp [fPut, u3_eq]) (by simp [fPut, u3_eq]) (by simp [fPut, u3_eq]) (by simp [fPut, u3_eq]) (by simp [fPut, u3_eq]) (by intro a x c ha; rcases ha with rfl | rfl | rfl | rfl | rfl <;> simp [fPut, u3_eq])
/-- who was given a thing holds one -/
theorem held_put (hk : k < 2 ^ 31) (hh : hd < 2) {to : Int32} : ¬ fHeld (fPut σ k to j hd) j = 0 := by
  have e6 : ∀ c, fPut σ k to j hd 6 j c = if c = hd then nI k else σ 6 j c := fun c => by
    unfold fPut
    rw [u3_ne (by omega), u3_ne (by omega), u3_ne (by omega), u3_eq]
    simp
  have hm : ¬ nI k = -1 := nI_m1 hk
  unfold fHeld cI cI cI
  rw [e6, e6]
  rcases (show hd = 0 ∨ hd = 1 by omega) with rfl | rfl
  · simp only [if_true, reduceCtorEq, if_false]
    by_cases z : σ 6 j 1 = -1 <;> simp [hm, z]
  · by_cases z : σ 6 j 0 = -1 <;> simp [hm, z]
end STC
end
section
/-! ===== further rows: the law's own arrays, its script, its helpers ===== -/
section VX
variable {p : Program} {l : Launch} {e : Env} {R : Room} {s : State} {m : MethodId} {args : Array Value} {below : List Frame} {meth : Method} {c : Code} {Q : State → Prop} {X : Cx} {nL : Nat} {ex : va_W} {M M' : Mem} {lf lf' : Lf} {cells slots pc : Nat} {lv : List (Nat × Value)} {st : List Value} {cc : ByteArray} {own : String}
theorem v_ishr (F : Fx p l s m args meth c cc nL own X) {x y : Int32} (hdg : decode cc pc = .ok (.ishr, 1)) (K : V p l e R s m args below meth c Q X nL ex M lf cells slots (pc + 1) lv (.int (x >>> (y &&& 31)) :: st)) : V p l e R s m args below meth c Q X nL ex M lf cells slots pc lv (.int y :: .int x :: st) := v_of (fun H locs ls hl k => lv_ishr F.1.1 F.1.2.1 hdg k) K
theorem v_ldc (F : Fx p l s m args meth c cc nL own X) {index : Nat} {v : Int32} (hc : Cond.constant own index v ∈ wAll) (hdg : decode cc pc = .ok (.ldc index, 2)) (K : V p l e R s m args below meth c Q X nL ex M lf cells slots (pc + 2) lv (.int v :: st)) : V p l e R s m args below meth c Q X nL ex M lf cells slots pc lv st := v_of (fun H locs ls hl k => lv_ldc F.1.1 F.1.2.1 F.1.2.2.2.1 (F.1.2.2.2.2 _ hc) hdg k) K
/-- further cells forgotten -/
theorem v_drop (K : V p l e R s m args below meth c Q X nL [] M lf cells slots pc lv st) : V p l e R s m args below meth c Q X nL ex M lf cells slots pc lv st := fun H locs ls hP hE hS hl => K H locs ls (by rw [List.append_nil]; exact (va_P_spl hP).1) exOk_nil hS hl
theorem wl_ex_at {k : Nat} {q : Nat × va_E} (h : ex[k]? = some q) : (wl X M lf ++ ex)[(wl X M lf).length + k]? = some q := by
  rw [List.getElem?_append_right (Nat.le_add_right _ _), Nat.add_sub_cancel_left]
  exact h
theorem exOk_set {sz k a : Nat} {e0 e1 : va_E} (h : exOk X sz ex) (hk : ex[k]? = some (a, e0)) : exOk X sz (ex.set k (a, e1)) := by
  refine ⟨h.1.set hk, fun j q hq p hp => ?_⟩
  by_cases z : j = k
  · subst z
    have hl : j < ex.length := (List.getElem?_eq_some_iff.mp hk).1
    rw [List.getElem?_set_self hl] at hq
    cases hq
    exact h.2 j _ hk p hp
  · rw [List.getElem?_set_ne (Ne.symm z)] at hq
    exact h.2 j q hq p hp
/-- an int row among them: read, written -/
theorem v_xald (F : Fx p l s m args meth c cc nL own X) {a n : Nat} {f : Nat → Int32} (k : Nat) (hk : ex[k]? = some (a, .inl (X.2.2.1 0, n, .inl f))) {x : Int32} (j : Nat) (hx : Ix x j n) (hdg : decode cc pc = .ok (.iaload, 1)) (K : V p l e R s m args below meth c Q X nL ex M lf cells slots (pc + 1) lv (.int (f j) :: st)) : V p l e R s m args below meth c Q X nL ex M lf cells slots pc lv (.int x :: .ref a :: st) := by
  intro H locs ls hP hE hS hl
  have hK := K H locs ls hP hE hS hl
  rw [← hx.2.1] at hK
  exact va_iald F.1.1 F.1.2.1 F.2.1.2.1 (va_P_spl hP).2 k 0 hk rfl (Ix_in hx) hdg hK
theorem v_xast (F : Fx p l s m args meth c cc nL own X) {a n : Nat} {f : Nat → Int32} (k : Nat) (hk : ex[k]? = some (a, .inl (X.2.2.1 0, n, .inl f))) {x v : Int32} (j : Nat) (hx : Ix x j n) {ex' : va_W} (hex : ex.set k (a, .inl (X.2.2.1 0, n, .inl (upd f j v))) = ex') (hdg : decode cc pc = .ok (.iastore, 1)) (K : V p l e R s m args below meth c Q X nL ex' M lf cells slots (pc + 1) lv st) : V p l e R s m args below meth c Q X nL ex M lf cells slots pc lv (.int v :: .int x :: .ref a :: st) := by
  intro H locs ls hP hE hS hl
  subst hex
  refine va_iast F.1.1 F.1.2.1 F.2.1.2.1 hP (wl_DE F.2.2.1 M lf hE) hS ((wl X M lf).length + k) 0 (wl_ex_at hk) rfl (Ix_in hx) hdg (fun H1 locs1 hP1 hD1 hS1 => ?_)
  rw [hx.2.1, List.set_append_right _ _ (Nat.le_add_right _ _), Nat.add_sub_cancel_left] at hP1
  exact K H1 locs1 ls hP1 (exOk_set hE hk) hS1 hl
/-- a row of rows among them -/
theorem v_xaald (F : Fx p l s m args meth c cc nL own X) {a n a2 : Nat} {f : Nat → Option Nat} (k : Nat) (hk : ex[k]? = some (a, .inl (X.2.2.1 3, n, .inr (.inr (.inr (.inr f)))))) {x : Int32} (j : Nat) (hx : Ix x j n) (hf : f j = some a2) (hdg : decode cc pc = .ok (.aaload, 1)) (K : V p l e R s m args below meth c Q X nL ex M lf cells slots (pc + 1) lv (.ref a2 :: st)) : V p l e R s m args below meth c Q X nL ex M lf cells slots pc lv (.int x :: .ref a :: st) := by
  intro H locs ls hP hE hS hl
  have hlt : x.toNatClampNeg < n := by rw [hx.2.1]; exact hx.2.2
  have ha : H[a]? = some (vp_cell (X.2.2.1 3) (n, .inr (.inr (.inr (.inr f))))) := (va_P_spl hP).2 k _ hk
  refine W.aald (v := .ref a2) (ty := .array .int) F.1.1 F.1.2.1 ha ((F.2.1.2.1.2 3 (X.2.2.1 3, .array .int) rfl).1 n (fun j => va_rf (f j))) rfl (fun q => by cases q) (by show ¬ (x < 0 ∨ (arrV _ _ _).slots.size ≤ _); rw [arrV_size]; exact Ix_in hx) ?_ rfl rfl hdg (K H locs ls hP hE hS hl)
  show (arrV _ _ _).slots[_]? = _
  rw [arrV_read _ _ hlt, hx.2.1, hf]
  rfl
/-- further cells made -/
theorem ex_more {B : va_W} {sz : Nat} (hE : exOk X sz ex) (hD : va_D (xA X sz) ((wl X M lf ++ ex) ++ B)) : exOk X sz (ex ++ B) := by
  have key : ∀ p, p ∈ ids → ∃ (j : Nat) (e : va_E), (wl X M lf)[j]? = some (xad X p, e) := by
    intro p hp
    obtain ⟨j, hj⟩ := List.getElem?_of_mem hp
    refine ⟨j, celD X lf p.1 p.2.1 p.2.2 (M p.1 p.2.1 p.2.2), ?_⟩
    unfold wl
    rw [List.getElem?_map, hj]
    rfl
  have nB : ∀ (k : Nat) (q : Nat × va_E), B[k]? = some q → ∀ p, p ∈ ids → q.1 ≠ xad X p := by
    intro k q hq p hp ha
    obtain ⟨j, e, hj⟩ := key p hp
    have hjl : j < (wl X M lf).length := (List.getElem?_eq_some_iff.mp hj).1
    have h1 : ((wl X M lf ++ ex) ++ B)[j]? = some (xad X p, e) := by
      rw [List.getElem?_append_left (by rw [List.length_append]; omega), List.getElem?_append_left hjl]
      exact hj
    have h2 : ((wl X M lf ++ ex) ++ B)[(wl X M lf ++ ex).length + k]? = some q := by
      rw [List.getElem?_append_right (Nat.le_add_right _ _), Nat.add_sub_cancel_left]
      exact hq
    have := hD.1 _ _ _ _ h1 h2 ha.symm
    rw [List.length_append] at this
    omega
  refine ⟨⟨fun i j x y hi hj z => ?_, fun k q hk => ?_⟩, fun k q hk => ?_⟩
  · have g : ∀ (k : Nat) (q : Nat × va_E), (ex ++ B)[k]? = some q → ((wl X M lf ++ ex) ++ B)[(wl X M lf).length + k]? = some q := fun k q h => by
      rw [List.append_assoc, List.getElem?_append_right (Nat.le_add_right _ _), Nat.add_sub_cancel_left]
      exact h
    have := hD.1 _ _ _ _ (g i x hi) (g j y hj) z
    omega
  · by_cases hl : k < ex.length
    · rw [List.getElem?_append_left hl] at hk
      exact hE.1.2 k q hk
    · rw [List.getElem?_append_right (by omega)] at hk
      have h2 : ((wl X M lf ++ ex) ++ B)[(wl X M lf ++ ex).length + (k - ex.length)]? = some q := by
        rw [List.getElem?_append_right (Nat.le_add_right _ _), Nat.add_sub_cancel_left]
        exact hk
      rcases hD.2 _ q h2 with ⟨p, hp, z⟩ | z
      · exact absurd z (nB _ q hk p hp)
      · exact z
  · by_cases hl : k < ex.length
    · rw [List.getElem?_append_left hl] at hk
      exact hE.2 k q hk
    · rw [List.getElem?_append_right (by omega)] at hk
      exact nB _ q hk
theorem v_xnew (F : Fx p l s m args meth c cc nL own X) {x : Int32} (n : Nat) (hw : Cond.arrayClass .int ∈ wAll) (h0 : ¬ x < 0) (hx : x.toNatClampNeg = n) (hb : n * componentBytes .int ≤ 536870912) (h1 : cells + 1 ≤ R.cells) (h2 : slots + n ≤ R.slots) (hdg : decode cc pc = .ok (.newarray .int, 2)) (K : ∀ a : Nat, V p l e R s m args below meth c Q X nL (ex ++ [(a, .inl (X.2.2.1 0, n, .inl (fun _ => 0)))]) M lf (cells + 1) (slots + n) (pc + 2) lv (.ref a :: st)) : V p l e R s m args below meth c Q X nL ex M lf cells slots pc lv (.int x :: st) := by
  intro H locs ls hP hE hS hl
  refine va_newa (atype := .int) (ty := .int) (a0 := (n, .inl (fun _ => 0))) F.1.1 F.1.2.1 (F.1.2.2.2.2 _ hw) rfl F.2.1.2.1 hP (wl_DE F.2.2.1 M lf hE) hS (fun q h => xA_sz h) (fun cA => rfl) h0 hx hb h1 h2 hdg (fun a cA H1 hK1 hP1 hD1 hS1 => ?_)
  have hcA : cA = X.2.2.1 0 := by
    have e1 : s.vm.findClass ("[" ++ (FieldType.int).toString) = some cA := (hK1.2 4 (cA, .int) rfl).2
    have e2 : s.vm.findClass ("[" ++ (FieldType.int).toString) = some (X.2.2.1 0) := (F.2.1.2.1.2 0 _ rfl).2
    exact Option.some.inj (e1.symm.trans e2)
  subst hcA
  refine K a H1 locs ls (by rw [← List.append_assoc]; exact hP1) (ex_more (M := M) (lf := lf) hE hD1) hS1 hl
/-- rows of two ints -/
abbrev exR (X : Cx) (q N : Nat) (r : Nat → Nat) (g : Nat → Nat → Int32) : va_W := (q, .inl (X.2.2.1 3, N, .inr (.inr (.inr (.inr (fun i => if i < N then some (r i) else none)))))) :: (List.range N).map (fun i => (r i, .inl (X.2.2.1 0, 2, .inl (g i))))
theorem v_xgrid (F : Fx p l s m args meth c cc nL own X) {x y : Int32} (N : Nat) {index : Nat} (hw : Cond.arrayClass .int ∈ wAll) (hcl : Cond.classLink own index "[[I" ∈ wAll) (hov : va_AOA .int s) (h0 : ¬ x < 0) (hx : x.toNatClampNeg = N) (hy0 : ¬ y < 0) (hy : y.toNatClampNeg = 2) (hb : N * 4 ≤ 536870912) (h1 : cells + (1 + N) ≤ R.cells) (h2 : slots + (N + N * 2) ≤ R.slots) (hdg : decode cc pc = .ok (.multianewarray index 2, 4)) (K : ∀ (q : Nat) (r : Nat → Nat), V p l e R s m args below meth c Q X nL (exR X q N r (fun _ _ => 0)) M lf (cells + 1 + N) (slots + N + N * 2) (pc + 4) lv (.ref q :: st)) : V p l e R s m args below meth c Q X nL [] M lf cells slots pc lv (.int y :: .int x :: st) := by
  intro H locs ls hP hE hS hl
  have hcy : s.vm.findClass (FieldType.array .int).toString = some (X.2.2.1 0) := (F.2.1.2.1.2 0 _ rfl).2
  refine va_mna (X := wl X M lf ++ []) (L := []) (f := fun _ => .inr (0, [])) (ty := .int) (z := (2, .inl (fun _ => 0))) F.1.1 F.1.2.1 F.1.2.2.2.1 (F.1.2.2.2.2 _ hcl) hov (F.1.2.2.2.2 _ hw) hcy F.2.1.2.1 (by show va_P _ _ ((wl X M lf ++ []) ++ []) H; rw [List.append_nil]; exact hP) (by show va_D _ ((wl X M lf ++ []) ++ []); rw [List.append_nil]; exact wl_DE F.2.2.1 M lf hE) hS (fun q h => xA_sz h) h0 hy0 hx hy hb (by decide) (by decide) rfl rfl h1 h2 (fun c => ?_) hdg (fun q r cA H1 hr hn hK1 hP1 hD1 hS1 => ?_)
  · show _ = vp_cell c (2, .inl (fun _ => 0))
    rw [vp_cell_i]
    exact arrV_new _ _ _
  have hcA : cA = X.2.2.1 3 := by
    have e1 : s.vm.findClass ("[" ++ (FieldType.array .int).toString) = some cA := (hK1.2 4 (cA, .array .int) rfl).2
    have e2 : s.vm.findClass ("[" ++ (FieldType.array .int).toString) = some (X.2.2.1 3) := (F.2.1.2.1.2 3 (X.2.2.1 3, .array .int) rfl).2
    exact Option.some.inj (e1.symm.trans e2)
  subst hcA
  have e0 : va_pl ([] ++ (List.range N).map r) (vr_up (fun _ => .inr (0, [])) ((List.range N).map r) (.inl (X.2.2.1 0, (2, .inl (fun _ => 0))))) = (List.range N).map (fun i => (r i, .inl (X.2.2.1 0, 2, .inl (fun _ => 0)))) := by
    unfold va_pl
    rw [List.nil_append, List.map_map]
    refine List.map_congr_left (fun i hi => ?_)
    show (r i, vr_up _ _ _ (r i)) = _
    rw [vr_up_in (List.mem_map.mpr ⟨i, hi, rfl⟩)]
  rw [e0] at hP1 hD1
  have e1 : ∀ B : va_W, ((wl X M lf ++ []) ++ [(q, .inl (X.2.2.1 3, N, .inr (.inr (.inr (.inr (fun i => if i < N then some (r i) else none))))))]) ++ B = (wl X M lf ++ []) ++ ((q, .inl (X.2.2.1 3, N, .inr (.inr (.inr (.inr (fun i => if i < N then some (r i) else none)))))) :: B) := fun B => by rw [List.append_assoc]; rfl
  rw [e1] at hP1 hD1
  have := ex_more (M := M) (lf := lf) hE hD1
  rw [List.append_nil] at hP1
  exact K q r H1 locs ls hP1 this hS1 hl
-- the script
theorem v_sld (F : Fx p l s m args meth c cc nL own X) {b L : Nat} {xs : Nat → Int32} (hX : va_X b L xs s s.heap) (hbl : b < X.2.2.2) {x : Int32} (j : Nat) (hx : Ix x j L) (hdg : decode cc pc = .ok (.iaload, 1)) (K : V p l e R s m args below meth c Q X nL ex M lf cells slots (pc + 1) lv (.int (xs j) :: st)) : V p l e R s m args below meth c Q X nL ex M lf cells slots pc lv (.int x :: .ref b :: st) := by
  intro H locs ls hP hE hS hl
  have hbA : ¬ xA X s.heap.size b := fun z => absurd (xA_B F.2.2.1 F.2.1.1 b z) (Nat.not_le.mpr hbl)
  have hK := K H locs ls hP hE hS hl
  rw [← hx.2.1] at hK
  exact va_sld F.1.1 F.1.2.1 hX (Nat.lt_of_lt_of_le hbl F.2.1.1) hbA hS (Ix_in hx) hdg hK
theorem v_slen (F : Fx p l s m args meth c cc nL own X) {b L : Nat} {xs : Nat → Int32} (hX : va_X b L xs s s.heap) (hbl : b < X.2.2.2) (hdg : decode cc pc = .ok (.arraylength, 1)) (K : V p l e R s m args below meth c Q X nL ex M lf cells slots (pc + 1) lv (.int (nI L) :: st)) : V p l e R s m args below meth c Q X nL ex M lf cells slots pc lv (.ref b :: st) := by
  intro H locs ls hP hE hS hl
  have hbA : ¬ xA X s.heap.size b := fun z => absurd (xA_B F.2.2.1 F.2.1.1 b z) (Nat.not_le.mpr hbl)
  exact va_slen F.1.1 F.1.2.1 hX (Nat.lt_of_lt_of_le hbl F.2.1.1) hbA hS hdg (K H locs ls hP hE hS hl)
end VX
/-- a method that reads the script beside the world -/
def CIs (X : Cx) (l : Launch) (b L : Nat) (xs : Nat → Int32) (y : MethodName) (ws : List Cond) (rm : Room) (av : List Value) (M : Mem) (lf : Lf) (r : Int32) (M' : Mem) (lf' : Lf) (mc ms : Nat) : Prop := ∀ sz : Nat, Met l y ws rm (va_Pc av (fun U => PreW X M lf sz U ∧ va_X b L xs U U.heap)) (va_Qi (fun (x : Int32) (_ : Unit) => x = r) (EndW X M' lf') (xA X sz)) mc ms (xA X sz)
theorem va_X_same {b L : Nat} {xs : Nat → Int32} {u U : State} (hv : U.vm = u.vm) (hh : U.heap = u.heap) (h : va_X b L xs u u.heap) : va_X b L xs U U.heap := by
  rw [hh]
  exact va_X.moved (by rw [hv]; exact Vm.Alike.refl _) h
theorem CIs_of {X : Cx} {l : Launch} {b L : Nat} {xs : Nat → Int32} {y : MethodName} {cc : ByteArray} {nL : Nat} {rm : Room} {av : List Value} {M M' : Mem} {lf lf' : Lf} {mc ms : Nat} {lv : List (Nat × Value)} {ty : FieldType} {r : Int32} (G : Gx X l) (hy : plainName y.cls = true) (hn : (lg_sl av).length ≤ nL) (hlv : lv_args 0 av = lv)
    (body : ∀ p e s m args below meth c, Fx p l s m args meth c cc nL y.cls X → va_X b L xs s s.heap → meth.sig.returnType = some ty → V p l e rm s m args below meth c (QI X below args s r M' lf' mc ms) X nL [] M lf 0 0 0 lv []) : CIs X l b L xs y (wsc y cc nL (some ty)) rm av M lf r M' lf' mc ms := by
  intro sz
  refine Met.ofW (cc := cc) (maxL := nL) (ret := some ty) hy rfl ?_
  intro p e s m args below meth c s₁ B hml hv
  obtain ⟨rfl, ⟨hsz, hK, hP⟩, hX⟩ := hv
  subst hsz
  have h := body p e s m _ below meth c (Fx_of G B hml hK) hX B.returns
  rw [lg_entry_eq]
  exact h s.heap [] _ (by rw [List.append_nil]; exact hP) exOk_nil va_S.rf (hlv ▸ lv_entry av hn)
section VZ
variable {p : Program} {l : Launch} {e : Env} {R : Room} {s : State} {m : MethodId} {args : Array Value} {below : List Frame} {meth : Method} {c : Code} {Q : State → Prop} {X : Cx} {nL : Nat} {ex : va_W} {M M' : Mem} {lf lf' : Lf} {cells slots pc : Nat} {lv : List (Nat × Value)} {st : List Value} {cc : ByteArray} {own : String}
theorem v_callSs (F : Fx p l s m args meth c cc nL own X) {b L : Nat} {xs : Nat → Int32} (hX : va_X b L xs s s.heap) (hbl : b < X.2.2.2) {y : MethodName} {bytes : ByteArray} {maxL n index mc ms : Nat} {ret : Option FieldType} {rm : Room} {As rest : List Value} {r : Int32} (hst : st = As.reverse ++ rest) (hM : CIs X l b L xs y (wsc y bytes maxL ret) rm As M lf r M' lf' mc ms) (w : Ws own index y bytes maxL ret n) (hn : As.length = n) (hr : Rr R rm maxL cells slots mc ms rest) (hdg : decode cc pc = .ok (.invokestatic index, 3)) (K : V p l e R s m args below meth c Q X nL ex M' lf' (cells + mc) (slots + ms) (pc + 3) lv (.int r :: rest)) : V p l e R s m args below meth c Q X nL ex M lf cells slots pc lv st := by
  intro H locs ls hP hE hS hl
  subst hst
  have hbA : ¬ xA X s.heap.size b := fun z => absurd (xA_B F.2.2.1 F.2.1.1 b z) (Nat.not_le.mpr hbl)
  refine va_calli (va_runS (As := As) (rest := rest) F.1 (hM H.size) (Ws_cw F w hr) ⟨fun a U g mk q => ⟨q.1, ⟨q.2.1.1, Kz_same (u := U) rfl rfl q.2.1.2.1, q.2.1.2.2⟩, va_X_same (u := U) rfl rfl q.2.2⟩, fun U hU hW => ?_⟩ rfl hn hl.1 rfl (lv_room hr.2.2.2.2.2.2) hdg ⟨hr.2.2.2.2.1, hr.2.2.2.2.2.1⟩) hS (fun q _ h => xA_mono hS.1 q h) (xA_mono hS.1) (fun x u t H1 locs1 ht hvm hx hB hz hk hS1 => ?_)
  · have h1 := v_pre (av := As) F hP hS U hU hW
    refine ⟨h1.1, h1.2, ?_⟩
    rw [hU]
    exact va_X.kept (va_X.moved hW.alike hX) (hS.2.1 b (Nat.lt_of_lt_of_le hbl F.2.1.1) hbA)
  · subst hx
    exact K H1 locs1 ls (v_post hP hE ht hB hk) hE hS1 hl
end VZ
end
section
/-! ===== the law's helpers ===== -/
theorem wk_L_7 : Cond.constant RL 7 2147483647 ∈ wAll := wAll_in (i := 380) (by decide +kernel) (by decide +kernel)
theorem wk_L_8 : Cond.constant RL 8 790386105 ∈ wAll := wAll_in (i := 384) (by decide +kernel) (by decide +kernel)
/-- a number below n, out of any -/
def bl (v : Int32) (n : Nat) : Nat := v.toBitVec.toNat % 2 ^ 31 % n
theorem bl_lt (v : Int32) {n : Nat} (h : 1 ≤ n) : bl v n < n := Nat.mod_lt _ h
theorem bl_and (v : Int32) : v &&& 2147483647 = nI (v.toBitVec.toNat % 2 ^ 31) := pk_and v 31 (by decide)
theorem bl_rem (v : Int32) {n : Nat} (h : 1 ≤ n) (hn : n < 2 ^ 31) : nI (v.toBitVec.toNat % 2 ^ 31) - nI (v.toBitVec.toNat % 2 ^ 31) / nI n * nI n = nI (bl v n) := pk_rem (Nat.mod_lt _ (by decide)) h hn
def fCell (xs : Nat → Int32) (L k : Nat) : Int32 := if L ≤ k then 790386105 * (nI k + 3) else xs k
def dgt (x : Int32) (k : Nat) : Nat := if bl (x >>> (11 &&& 31)) 3 = 0 then bl (x >>> (nI (2 * k) &&& 31)) 10 else 1 + bl (x >>> (nI (2 * k) &&& 31)) 5
def hgt (x : Int32) : Nat → Nat
  | 0 => 0
  | k + 1 => 10 * hgt x k + dgt x k
theorem dgt_lt (x : Int32) (k : Nat) : dgt x k ≤ 9 := by
  unfold dgt
  split
  · have := bl_lt (x >>> (nI (2 * k) &&& 31)) (n := 10) (by decide)
    omega
  · have := bl_lt (x >>> (nI (2 * k) &&& 31)) (n := 5) (by decide)
    omega
theorem hgt_lt (x : Int32) : ∀ k, hgt x k < 10 ^ k
  | 0 => Nat.lt_succ_self 0
  | k + 1 => by
    have h1 := hgt_lt x k
    have h2 := dgt_lt x k
    show 10 * hgt x k + dgt x k < 10 ^ (k + 1)
    rw [Nat.pow_succ]
    omega
/-- the gift, and what the law's own give answers -/
def gvOk (σ : Sg) (k j hd : Nat) : Prop := σ 8 k 1 = 0 ∧ σ 6 j hd = -1

noncomputable def gvM (M : Mem) (k j hd : Nat) : Mem := if M 0 8 k 1 = 0 ∧ M 0 6 j hd = -1 then uC M 0 (fPut (M 0) k (nI j) j hd) else M
noncomputable def gvR (σ : Sg) (k j hd : Nat) : Int32 := if σ 8 k 1 = 0 ∧ σ 6 j hd = -1 then fHeld (fPut σ k (nI j) j hd) j else -1
abbrev rm_L_below : Room := { frames := 0, cells := 0, slots := 0, locals := 0 }
abbrev rm_L_cell : Room := { frames := 0, cells := 0, slots := 0, locals := 0 }
abbrev rm_L_heights : Room := { frames := 1, cells := 0, slots := 0, locals := 21 }
set_option maxHeartbeats 4000000 in
set_option maxRecDepth 100000 in
theorem c_L_below {X : Cx} {l : Launch} (G : Gx X l) {M : Mem} {lf : Lf} (v : Int32) {n : Nat} (h1 : 1 ≤ n) (hn : n < 2 ^ 31) : CI X l yL_below (wsc yL_below cL_below 2 (some .int)) rm_L_below [.int v, .int (nI n)] (M) lf (nI (bl v n)) (M) lf 0 0 := by
  refine CI_of (lv := [(0, .int _), (1, .int _)]) G (by decide) (Nat.le_of_ble_eq_true rfl) rfl (fun p e s m args below meth c F hr => ?_)
  have F : Fx p l s m args meth c cL_below 2 RL X := F
  refine v_iload_n F dL_below_0 rfl 0 rfl ?_
  refine v_ldc F wk_L_7 dL_below_1 ?_
  refine v_iand F dL_below_3 ?_
  refine v_topr (nI (v.toBitVec.toNat % 2 ^ 31)) (bl_and v) ?_
  refine v_iload_n F dL_below_4 rfl 1 rfl ?_
  refine v_irem F dL_below_5 (nI_ne0 h1 hn) ?_
  refine v_topr (nI (bl v n)) (bl_rem v h1 hn) ?_
  exact v_iret F hr dL_below_6 rfl rfl rfl
set_option maxHeartbeats 4000000 in
set_option maxRecDepth 100000 in
theorem c_L_cell {X : Cx} {l : Launch} (G : Gx X l) {b L : Nat} {xs : Nat → Int32} (hbl : b < X.2.2.2) {M : Mem} {lf : Lf} {k : Nat} (hk : k < 2 ^ 31) (hL : L < 2 ^ 31) : CIs X l b L xs yL_cell (wsc yL_cell cL_cell 2 (some .int)) rm_L_cell [.ref b, .int (nI k)] (M) lf (fCell xs L k) (M) lf 0 0 := by
  refine CIs_of (lv := [(0, .ref _), (1, .int _)]) G (by decide) (Nat.le_of_ble_eq_true rfl) rfl (fun p e s m args below meth c F hX hr => ?_)
  have F : Fx p l s m args meth c cL_cell 2 RL X := F
  refine v_iload_n F dL_cell_0 rfl 1 rfl ?_
  refine v_aload_n F dL_cell_1 rfl 0 rfl ?_
  refine v_slen F hX hbl dL_cell_2 ?_
  refine v_icmp_ge F (tgt := 12) dL_cell_3 (by decide) (fun c3 => ?_) (fun c3 => ?_)
  · have := c3
    refine v_ldc F wk_L_8 dL_cell_12 ?_
    refine v_iload_n F dL_cell_14 rfl 1 rfl ?_
    refine v_iconst F (v := 3) dL_cell_15 (by decide) ?_
    refine v_iadd F dL_cell_16 ?_
    refine v_imul F dL_cell_17 ?_
    refine v_iret F hr dL_cell_18 ?_ rfl rfl
    unfold fCell
    first | (rw [if_pos ((nI_leI hL hk).mp c3)]) | (rw [if_neg (fun z => c3 (nI_le z hk))])
  · have := c3
    refine v_aload_n F dL_cell_6 rfl 0 rfl ?_
    refine v_iload_n F dL_cell_7 rfl 1 rfl ?_
    refine v_sld F hX hbl (k) (Ix_nI (Nat.lt_of_not_le (fun z => c3 (nI_le z hk))) hL) dL_cell_8 ?_
    refine v_goto F (tgt := 18) dL_cell_9 (by decide) ?_
    refine v_iret F hr dL_cell_18 ?_ rfl rfl
    unfold fCell
    first | (rw [if_pos ((nI_leI hL hk).mp c3)]) | (rw [if_neg (fun z => c3 (nI_le z hk))])
section RH
variable {p : Program} {l : Launch} {e : Env} {R : Room} {s : State} {m : MethodId} {args : Array Value} {below : List Frame} {meth : Method} {c : Code} {Q : State → Prop} {X : Cx} {nL : Nat} {ex : va_W} {M : Mem} {lf : Lf} {cells slots : Nat}
set_option maxHeartbeats 4000000 in
set_option maxRecDepth 100000 in
theorem L_L_heights (F : Fx p l s m args meth c cL_heights 4 RL X) (G : Gx X l) {x : Int32} {n : Nat} (h8 : n ≤ 8) (K : V p l e rm_L_heights s m args below meth c Q X 4 ex (M) lf 0 0 56 [(3, .int (nI n)), (2, .int (nI (hgt x n))), (0, .int x), (1, .int (nI n))] []) : ∀ (f k : Nat), f + k = n → V p l e rm_L_heights s m args below meth c Q X 4 ex (M) lf 0 0 4 [(3, .int (nI k)), (2, .int (nI (hgt x k))), (0, .int x), (1, .int (nI n))] [] := by
  intro f
  induction f with
  | zero =>
    intro k hk
    obtain rfl : k = n := by omega
    refine v_iload_n F dL_heights_4 rfl 0 rfl ?_
    refine v_iload_n F dL_heights_5 rfl 3 rfl ?_
    refine v_icmp_ge F (tgt := 56) dL_heights_6 (by decide) (fun c6 => ?_) (fun h => absurd (nI_le (Nat.le_refl _) (by omega)) h)
    exact K
  | succ f ih =>
    intro k hk
    refine v_iload_n F dL_heights_4 rfl 0 rfl ?_
    refine v_iload_n F dL_heights_5 rfl 3 rfl ?_
    refine v_icmp_ge F (tgt := 56) dL_heights_6 (by decide) (fun h => absurd h (nI_ge (by omega) (by omega))) (fun c6 => ?_)
    refine v_bipush F (v := nI 10) dL_heights_9 (by decide) ?_
    refine v_iload_n F dL_heights_11 rfl 1 rfl ?_
    refine v_imul F dL_heights_12 ?_
    refine v_topr (nI (10 * hgt x k)) (pk_mul _ _) ?_
    refine v_iload_n F dL_heights_13 rfl 2 rfl ?_
    refine v_bipush F (v := 11) dL_heights_14 (by decide) ?_
    refine v_ishr F dL_heights_16 ?_
    refine v_iconst F (v := nI 3) dL_heights_17 (by decide) ?_
    refine v_callSi F (As := [_, _]) (rest := [.int _]) rfl (c_L_below G _ (n := 3) (by decide) (by decide)) wm_L_9 rfl ⟨rfl, rfl, Nat.le_of_ble_eq_true rfl, Nat.le_of_ble_eq_true rfl, Nat.le_of_ble_eq_true rfl, Nat.le_of_ble_eq_true rfl, Nat.le_of_ble_eq_true rfl⟩ dL_heights_18 ?_
    refine v_if_ne F (tgt := 37) dL_heights_21 (by decide) (fun c21 => ?_) (fun c21 => ?_)
    · have := c21
      refine v_iconst F (v := nI 1) dL_heights_37 (by decide) ?_
      refine v_iload_n F dL_heights_38 rfl 2 rfl ?_
      refine v_iconst F (v := nI 2) dL_heights_39 (by decide) ?_
      refine v_iload_n F dL_heights_40 rfl 0 rfl ?_
      refine v_imul F dL_heights_41 ?_
      refine v_topr (nI (2 * k)) (pk_mul _ _) ?_
      refine v_ishr F dL_heights_42 ?_
      refine v_iconst F (v := nI 5) dL_heights_43 (by decide) ?_
      refine v_callSi F (As := [_, _]) (rest := [.int _, .int _]) rfl (c_L_below G _ (n := 5) (by decide) (by decide)) wm_L_9 rfl ⟨rfl, rfl, Nat.le_of_ble_eq_true rfl, Nat.le_of_ble_eq_true rfl, Nat.le_of_ble_eq_true rfl, Nat.le_of_ble_eq_true rfl, Nat.le_of_ble_eq_true rfl⟩ dL_heights_44 ?_
      refine v_iadd F dL_heights_47 ?_
      refine v_topr (nI (1 + bl (x >>> (nI (2 * k) &&& 31)) 5)) (nI_add _ _) ?_
      refine v_iadd F dL_heights_48 ?_
      refine v_topr (nI (hgt x (k + 1))) ?_ ?_
      · show _ = nI (10 * hgt x k + dgt x k)
        unfold dgt
        first | (rw [if_pos ((nI_eq (Nat.lt_trans (bl_lt _ (by decide)) (by decide)) (by decide)).mp c21), nI_add]) | (rw [if_neg (fun z => c21 (by rw [z]; rfl)), nI_add])
      refine v_istore_n F dL_heights_49 rfl (by decide) (lv' := [(2, .int _), (3, .int _), (0, .int _), (1, .int _)]) rfl ?_
      refine v_iinc F (k := 1) (nI (k + 1)) dL_heights_50 rfl (iinc_nI k) (by decide) (lv' := [(3, .int _), (2, .int _), (0, .int _), (1, .int _)]) rfl ?_
      refine v_goto F (tgt := 4) dL_heights_53 (by decide) ?_
      exact v_locs [0, 1, 2, 3] rfl (ih (k + 1) (by omega))
    · have := c21
      refine v_iload_n F dL_heights_24 rfl 2 rfl ?_
      refine v_iconst F (v := nI 2) dL_heights_25 (by decide) ?_
      refine v_iload_n F dL_heights_26 rfl 0 rfl ?_
      refine v_imul F dL_heights_27 ?_
      refine v_topr (nI (2 * k)) (pk_mul _ _) ?_
      refine v_ishr F dL_heights_28 ?_
      refine v_bipush F (v := nI 10) dL_heights_29 (by decide) ?_
      refine v_callSi F (As := [_, _]) (rest := [.int _]) rfl (c_L_below G _ (n := 10) (by decide) (by decide)) wm_L_9 rfl ⟨rfl, rfl, Nat.le_of_ble_eq_true rfl, Nat.le_of_ble_eq_true rfl, Nat.le_of_ble_eq_true rfl, Nat.le_of_ble_eq_true rfl, Nat.le_of_ble_eq_true rfl⟩ dL_heights_31 ?_
      refine v_goto F (tgt := 48) dL_heights_34 (by decide) ?_
      refine v_iadd F dL_heights_48 ?_
      refine v_topr (nI (hgt x (k + 1))) ?_ ?_
      · show _ = nI (10 * hgt x k + dgt x k)
        unfold dgt
        first | (rw [if_pos ((nI_eq (Nat.lt_trans (bl_lt _ (by decide)) (by decide)) (by decide)).mp c21), nI_add]) | (rw [if_neg (fun z => c21 (by rw [z]; rfl)), nI_add])
      refine v_istore_n F dL_heights_49 rfl (by decide) (lv' := [(2, .int _), (3, .int _), (0, .int _), (1, .int _)]) rfl ?_
      refine v_iinc F (k := 1) (nI (k + 1)) dL_heights_50 rfl (iinc_nI k) (by decide) (lv' := [(3, .int _), (2, .int _), (0, .int _), (1, .int _)]) rfl ?_
      refine v_goto F (tgt := 4) dL_heights_53 (by decide) ?_
      exact v_locs [0, 1, 2, 3] rfl (ih (k + 1) (by omega))
end RH
set_option maxHeartbeats 4000000 in
set_option maxRecDepth 100000 in
theorem c_L_heights {X : Cx} {l : Launch} (G : Gx X l) {M : Mem} {lf : Lf} (x : Int32) {n : Nat} (h8 : n ≤ 8) : CI X l yL_heights (wsc yL_heights cL_heights 4 (some .int)) rm_L_heights [.int x, .int (nI n)] (M) lf (nI (hgt x n)) (M) lf 0 0 := by
  refine CI_of (lv := [(0, .int _), (1, .int _)]) G (by decide) (Nat.le_of_ble_eq_true rfl) rfl (fun p e s m args below meth c F hr => ?_)
  have F : Fx p l s m args meth c cL_heights 4 RL X := F
  refine v_iconst F (v := nI 0) dL_heights_0 (by decide) ?_
  refine v_istore_n F dL_heights_1 rfl (by decide) (lv' := [(2, .int _), (0, .int _), (1, .int _)]) rfl ?_
  refine v_iconst F (v := nI 0) dL_heights_2 (by decide) ?_
  refine v_istore_n F dL_heights_3 rfl (by decide) (lv' := [(3, .int _), (2, .int _), (0, .int _), (1, .int _)]) rfl ?_
  refine L_L_heights F G h8 ?_ n 0 (Nat.add_zero n)
  refine v_iload_n F dL_heights_56 rfl 1 rfl ?_
  exact v_iret F hr dL_heights_57 rfl rfl rfl
end
section
/-! ===== methods with handlers ===== -/
abbrev wsh (y : MethodName) (cc : ByteArray) (n : Nat) (ret : Option FieldType) (hh : List (Nat × Nat × Nat × Nat)) : List Cond := .codeWith y cc n ret hh :: wAll
theorem CI_ofH {X : Cx} {l : Launch} {y : MethodName} {cc : ByteArray} {nL : Nat} {rm : Room} {av : List Value} {M M' : Mem} {lf lf' : Lf} {mc ms : Nat} {lv : List (Nat × Value)} {ty : FieldType} {r : Int32} {hh : List (Nat × Nat × Nat × Nat)} (G : Gx X l) (hy : plainName y.cls = true) (hn : (lg_sl av).length ≤ nL) (hlv : lv_args 0 av = lv)
    (body : ∀ p e s m args below meth c, Fx p l s m args meth c cc nL y.cls X → meth.sig.returnType = some ty → c.exceptionTable.toList = tableOf hh → V p l e rm s m args below meth c (QI X below args s r M' lf' mc ms) X nL [] M lf 0 0 0 lv []) : CI X l y (wsh y cc nL (some ty) hh) rm av M lf r M' lf' mc ms := by
  intro sz
  refine MetFree.of_bodyS (code := cc) (maxLocals := nL) (ret := some ty) hy ?_ ?_
  · intro args s m h hn
    obtain ⟨m9, meth, c, hn9, h1, h2, h3, h4, -, h5, h6, -⟩ := Cond.codeWith_spec (atoms_spec (ws := wsh y cc nL (some ty) hh) h _ List.mem_cons_self)
    cases hn.symm.trans hn9
    exact ⟨meth, c, h1, h2, h3, h4, h5, h6⟩
  · intro p e s m args below meth c s₁ B hml hP _
    have hcw : (Cond.codeWith y cc nL (some ty) hh).before args s = true := atoms_spec (ws := wsh y cc nL (some ty) hh) B.pre _ List.mem_cons_self
    have hml2 : c.maxLocals = nL := hml
    have hh0 : s₁.heap = s.heap := by rw [B.state]; rfl
    obtain ⟨rfl, hsz, hK, hPw⟩ := hP
    subst hsz
    have h := body p e s m _ below meth c (Fx_of G B hml2 hK) B.returns (vx_table (x := y) B hcw) s.heap [] _ (by rw [List.append_nil]; exact hPw) exOk_nil va_S.rf (hlv ▸ lv_entry av hn)
    rw [← lg_entry_eq] at h
    obtain ⟨t, a1, o, b1, b2, b3⟩ := h s₁ hh0 (Stand.of_body B)
    exact ⟨t, o, a1, b1, b2, b3⟩
theorem wcl_Ls : Cond.classLink RL 48 "java/lang/IllegalStateException" ∈ wAll := wAll_in (i := 524) (by decide +kernel) (by decide +kernel)
theorem wca_s : Cond.castable "java/lang/IllegalStateException" "java/lang/IllegalStateException" ∈ badW := bad_in (i := 89) (by decide +kernel) rfl
theorem wcw_give : Cond.codeWith yL_give cL_give 5 (some .int) [(0, 7, 8, 48)] ∈ wAll := wAll_in (i := 523) (by decide +kernel) (by decide +kernel)
section VH
variable {p : Program} {l : Launch} {e : Env} {R : Room} {s : State} {m : MethodId} {args : Array Value} {below : List Frame} {meth : Method} {c : Code} {Q : State → Prop} {X : Cx} {nL : Nat} {ex : va_W} {M : Mem} {lf : Lf} {cells slots pc : Nat} {lv : List (Nat × Value)} {rest : List Value} {cc : ByteArray} {own : String}
theorem v_catch (F : Fx p l s m args meth c cc nL own X) {E name : String} {hh : List (Nat × Nat × Nat × Nat)} (htab : c.exceptionTable.toList = tableOf hh) (pre : List ExceptionTableEntry) (x : ExceptionTableEntry) (suf : List ExceptionTableEntry) (hsplit : tableOf hh = pre ++ x :: suf)
    (hpass : ∀ z ∈ pre, covers z pc = false ∨ (z.catchType ≠ 0 ∧ ∃ nm : String, Cond.classLink own z.catchType nm ∈ wAll ∧ (E, nm) ∈ ncW)) (hx : covers x pc = true) (h0 : x.catchType ≠ 0) (hlink : Cond.classLink own x.catchType name ∈ wAll) (hcast : Cond.castable E name ∈ badW)
    (H1 : Heap) (locs1 : List Loc) (ls : Array Slot) (ce : Cell) (q9 : Addr) (hP : va_P X.1 vwCl (wl X M lf ++ ex) H1) (hE : exOk X s.heap.size ex) (hS : va_S (xA X s.heap.size) s.heap H1 locs1) (hl : lv_has ls nL lv) (h9 : H1[q9]? = some ce) (hv9 : ce.vm = .none) (hc9 : s.vm.findClass E = some ce.cls)
    (K : V p l e R s m args below meth c Q X nL ex M lf cells slots x.handlerPc lv [.ref q9]) : vx_W p l e R s m args below meth c H1 locs1 cells slots Q (F0 m pc ls rest) q9 := by
  refine vx_catch (E := E) (name := name) (own := own) F.1.2.2.2.1 pre x suf (htab.trans hsplit) (fun z hz => ?_) hx h0 (F.1.2.2.2.2 _ hlink) (va_Nw.use (bad_tab _ hcast) (F.2.1.2.2.2.2.1 _ hcast)) h9 hv9 hc9 (K H1 locs1 ls hP hE hS hl)
  rcases hpass z hz with h | ⟨h1, nm, h2, h3⟩
  · exact Or.inl h
  · exact Or.inr ⟨h1, nm, F.1.2.2.2.2 _ h2, F.2.1.2.2.2.2.2.1 _ h3⟩
end VH

section SHW
variable {p : Program} {l : Launch} {e : Env} {R : Room} {s : State} {m : MethodId} {args : Array Value} {below : List Frame} {meth : Method} {c : Code} {Q : State → Prop} {X : Cx} {nL : Nat} {ex : va_W} {M M' : Mem} {lf lf' : Lf} {cells slots pc : Nat} {lv : List (Nat × Value)} {st : List Value} {cc : ByteArray} {own : String}
theorem v_callSHi (F : Fx p l s m args meth c cc nL own X) {r : Int32} {y : MethodName} {bytes : ByteArray} {maxL n index mc ms : Nat} {ret : Option FieldType} {hh : List (Nat × Nat × Nat × Nat)} {rm : Room} {As rest : List Value} (hst : st = As.reverse ++ rest) (hM : CI X l y (wsh y bytes maxL ret hh) rm As M lf r M' lf' mc ms) (hcw : Cond.codeWith y bytes maxL ret hh ∈ wAll) (hlk : Cond.methodLink own index y ∈ wAll) (hsm : Cond.static y ∈ wAll) (hini : Cond.initialized y.cls ∈ wAll) (hyd : y.cls ≠ "java/lang/invoke/MethodHandle" ∧ y.cls ≠ "java/lang/invoke/VarHandle" ∧ (parseMethodDescriptor y.desc).map (fun d => d.parameters.length) = some n) (hn : As.length = n) (hr : Rr R rm maxL cells slots mc ms rest) (hdg : decode cc pc = .ok (.invokestatic index, 3)) (K : V p l e R s m args below meth c Q X nL ex M' lf' (cells + mc) (slots + ms) (pc + 3) lv (.int r :: rest)) : V p l e R s m args below meth c Q X nL ex M lf cells slots pc lv st := by
  intro H locs ls hP hE hS hl
  subst hst
  refine va_calli (vx_runSW (As := As) (rest := rest) (hh := hh) F.1 (hM H.size) ⟨⟨hr.1, hr.2.1, hr.2.2.1, hr.2.2.2.1, pay_in F.1.2.2.2.2 (good_c hcw), List.mem_cons_self⟩, F.1.2.2.2.2 _ hcw, F.1.2.2.2.2 _ hini, ⟨hyd.1, hyd.2.1⟩, fun sig h => ?_, F.1.2.2.2.2 _ hlk, F.1.2.2.2.2 _ hsm⟩ ⟨PreW_blind, fun U hU hW => v_pre F hP hS U hU hW⟩ rfl hn hl.1 rfl (lv_room hr.2.2.2.2.2.2) hdg ⟨hr.2.2.2.2.1, hr.2.2.2.2.2.1⟩) hS (fun q _ h => xA_mono hS.1 q h) (xA_mono hS.1) (fun x u t H1 locs1 ht hvm hx hB hz hk hS1 => ?_)
  · have h2 := hyd.2.2
    rw [h] at h2
    exact (Option.some.inj h2).symm
  · subst hx
    exact K H1 locs1 ls (v_post hP hE ht hB hk) hE hS1 hl
end SHW
abbrev rm_L_give : Room := { frames := 8, cells := 1, slots := 6, locals := 130 }
set_option maxHeartbeats 4000000 in
set_option maxRecDepth 100000 in
theorem c_L_give {X : Cx} {l : Launch} (G : Gx X l) {M : Mem} {lf : Lf} {jc tc : Nat} {ln : Nat → Nat} (hS : Shp (M 0) jc tc ln) {k j hd : Nat} (hk : k < tc) (hj : j < jc) (hh : hd < 2) : CI X l yL_give (wsh yL_give cL_give 5 (some .int) [(0, 7, 8, 48)]) rm_L_give [.ref (X.2.1 5 0 0), .int (nI k), .int (nI j), .int (nI hd)] (M) lf (gvR (M 0) k j hd) (gvM M k j hd) lf 1 6 := by
  refine CI_ofH (lv := [(0, .ref _), (1, .int _), (2, .int _), (3, .int _)]) G (by decide) (Nat.le_of_ble_eq_true rfl) rfl (fun p e s m args below meth c F hr htab => ?_)
  have F : Fx p l s m args meth c cL_give 5 RL X := F
  have h4 := hS.1
  have h12 := hS.2.1
  by_cases g1 : M 0 8 k 1 = 0
  · by_cases g2 : M 0 6 j hd = -1
    · skip
      refine v_aload_n F dL_give_0 rfl 0 rfl ?_
      refine v_iload_n F dL_give_1 rfl 1 rfl ?_
      refine v_iload_n F dL_give_2 rfl 2 rfl ?_
      refine v_iload_n F dL_give_3 rfl 3 rfl ?_
      refine v_callVi F (As := [_, _, _]) (rest := []) rfl (c_X4_give G hS hk hj hh g1 g2) Rv_H wm_L_46 rfl ⟨rfl, rfl, Nat.le_of_ble_eq_true rfl, Nat.le_of_ble_eq_true rfl, Nat.le_of_ble_eq_true rfl, Nat.le_of_ble_eq_true rfl, Nat.le_of_ble_eq_true rfl⟩ dL_give_4 ?_
      refine v_widen (k := 1) (n := 6) (by decide) (by decide) ?_
      refine v_iret F hr dL_give_7 ?_ ?_ rfl
      · unfold gvR; rw [if_pos ⟨g1, g2⟩]
      · unfold gvM; rw [if_pos ⟨g1, g2⟩]
    · skip
      refine v_aload_n F dL_give_0 rfl 0 rfl ?_
      refine v_iload_n F dL_give_1 rfl 1 rfl ?_
      refine v_iload_n F dL_give_2 rfl 2 rfl ?_
      refine v_iload_n F dL_give_3 rfl 3 rfl ?_
      refine v_callXVi F (As := [_, _, _]) (rest := []) rfl (x_X4_give_o G hS hk hj hh g1 g2) Rv_H wm_L_46 rfl ⟨rfl, rfl, Nat.le_of_ble_eq_true rfl, Nat.le_of_ble_eq_true rfl, Nat.le_of_ble_eq_true rfl, Nat.le_of_ble_eq_true rfl, Nat.le_of_ble_eq_true rfl⟩ dL_give_4 (fun H1 locs1 ls ce q9 a1 a2 a3 a4 a5 a6 a7 => ?_)
      refine v_catch F htab [] ⟨0, 7, 8, 48⟩ [] rfl (fun z hz => absurd hz List.not_mem_nil) (by decide) (by decide) wcl_Ls wca_s H1 locs1 ls ce q9 a1 a2 a3 a4 a5 a6 a7 ?_
      refine v_astore F dL_give_8 (by decide) (lv' := [(4, .ref _), (0, .ref _), (1, .int _), (2, .int _), (3, .int _)]) rfl ?_
      refine v_iconst F (v := (-1)) dL_give_10 (by decide) ?_
      refine v_iret F hr dL_give_11 ?_ ?_ rfl
      · unfold gvR; rw [if_neg (fun z => g2 z.2)]
      · unfold gvM; rw [if_neg (fun z => g2 z.2)]
  · skip
    refine v_aload_n F dL_give_0 rfl 0 rfl ?_
    refine v_iload_n F dL_give_1 rfl 1 rfl ?_
    refine v_iload_n F dL_give_2 rfl 2 rfl ?_
    refine v_iload_n F dL_give_3 rfl 3 rfl ?_
    refine v_callXVi F (As := [_, _, _]) (rest := []) rfl (x_X4_give_s G hS hk hj hh g1) Rv_H wm_L_46 rfl ⟨rfl, rfl, Nat.le_of_ble_eq_true rfl, Nat.le_of_ble_eq_true rfl, Nat.le_of_ble_eq_true rfl, Nat.le_of_ble_eq_true rfl, Nat.le_of_ble_eq_true rfl⟩ dL_give_4 (fun H1 locs1 ls ce q9 a1 a2 a3 a4 a5 a6 a7 => ?_)
    refine v_catch F htab [] ⟨0, 7, 8, 48⟩ [] rfl (fun z hz => absurd hz List.not_mem_nil) (by decide) (by decide) wcl_Ls wca_s H1 locs1 ls ce q9 a1 a2 a3 a4 a5 a6 a7 ?_
    refine v_astore F dL_give_8 (by decide) (lv' := [(4, .ref _), (0, .ref _), (1, .int _), (2, .int _), (3, .int _)]) rfl ?_
    refine v_iconst F (v := (-1)) dL_give_10 (by decide) ?_
    refine v_iret F hr dL_give_11 ?_ ?_ rfl
    · unfold gvR; rw [if_neg (fun z => g1 z.1)]
    · unfold gvM; rw [if_neg (fun z => g1 z.1)]
end
