/-! ===== the words of fields, calls, constants, by their places in the tables ===== -/
theorem uw0_X0 : (u_ws RX0 TX0 5).all (fun w => decide (w ∈ lw_tbl) && goodWord w) = true := by decide +kernel
theorem uw_X0 : ∀ w, w ∈ u_ws RX0 TX0 5 → w ∈ wAll := fun w h => by
  have h1 := List.all_eq_true.mp uw0_X0 w h
  rw [Bool.and_eq_true] at h1
  exact List.mem_filter.mpr ⟨of_decide_eq_true h1.1, h1.2⟩
theorem uw0_X1 : (u_ws RX1 TX1 3).all (fun w => decide (w ∈ lw_tbl) && goodWord w) = true := by decide +kernel
theorem uw_X1 : ∀ w, w ∈ u_ws RX1 TX1 3 → w ∈ wAll := fun w h => by
  have h1 := List.all_eq_true.mp uw0_X1 w h
  rw [Bool.and_eq_true] at h1
  exact List.mem_filter.mpr ⟨of_decide_eq_true h1.1, h1.2⟩
theorem uw0_X2 : (u_ws RX2 TX2 5).all (fun w => decide (w ∈ lw_tbl) && goodWord w) = true := by decide +kernel
theorem uw_X2 : ∀ w, w ∈ u_ws RX2 TX2 5 → w ∈ wAll := fun w h => by
  have h1 := List.all_eq_true.mp uw0_X2 w h
  rw [Bool.and_eq_true] at h1
  exact List.mem_filter.mpr ⟨of_decide_eq_true h1.1, h1.2⟩
theorem uw0_X3 : (u_ws RX3 TX3 8).all (fun w => decide (w ∈ lw_tbl) && goodWord w) = true := by decide +kernel
theorem uw_X3 : ∀ w, w ∈ u_ws RX3 TX3 8 → w ∈ wAll := fun w h => by
  have h1 := List.all_eq_true.mp uw0_X3 w h
  rw [Bool.and_eq_true] at h1
  exact List.mem_filter.mpr ⟨of_decide_eq_true h1.1, h1.2⟩
theorem uw0_X4 : (u_ws RX4 TX4 2).all (fun w => decide (w ∈ lw_tbl) && goodWord w) = true := by decide +kernel
theorem uw_X4 : ∀ w, w ∈ u_ws RX4 TX4 2 → w ∈ wAll := fun w h => by
  have h1 := List.all_eq_true.mp uw0_X4 w h
  rw [Bool.and_eq_true] at h1
  exact List.mem_filter.mpr ⟨of_decide_eq_true h1.1, h1.2⟩
theorem wini_X4 : Cond.initialized RX4 ∈ wAll := wAll_in (i := 37) (by decide +kernel) (by decide +kernel)
theorem wini_X0 : Cond.initialized RX0 ∈ wAll := wAll_in (i := 39) (by decide +kernel) (by decide +kernel)
theorem wini_X1 : Cond.initialized RX1 ∈ wAll := wAll_in (i := 40) (by decide +kernel) (by decide +kernel)
theorem wini_X2 : Cond.initialized RX2 ∈ wAll := wAll_in (i := 38) (by decide +kernel) (by decide +kernel)
theorem wini_X3 : Cond.initialized RX3 ∈ wAll := wAll_in (i := 41) (by decide +kernel) (by decide +kernel)
theorem wini_L : Cond.initialized RL ∈ wAll := wAll_in (i := 36) (by decide +kernel) (by decide +kernel)
theorem wini_Exception : Cond.initialized "java/lang/Exception" ∈ wAll := wAll_in (i := 43) (by decide +kernel) (by decide +kernel)
theorem wini_IllegalArgumentException : Cond.initialized "java/lang/IllegalArgumentException" ∈ wAll := wAll_in (i := 45) (by decide +kernel) (by decide +kernel)
theorem wini_IllegalStateException : Cond.initialized "java/lang/IllegalStateException" ∈ wAll := wAll_in (i := 46) (by decide +kernel) (by decide +kernel)
theorem wini_IndexOutOfBoundsException : Cond.initialized "java/lang/IndexOutOfBoundsException" ∈ wAll := wAll_in (i := 47) (by decide +kernel) (by decide +kernel)
theorem wini_Math : Cond.initialized RJ9 ∈ wAll := wAll_in (i := 48) (by decide +kernel) (by decide +kernel)
theorem wini_RuntimeException : Cond.initialized "java/lang/RuntimeException" ∈ wAll := wAll_in (i := 44) (by decide +kernel) (by decide +kernel)
theorem wini_Throwable : Cond.initialized "java/lang/Throwable" ∈ wAll := wAll_in (i := 42) (by decide +kernel) (by decide +kernel)
theorem wc_J9_floorMod_7cf53 : Cond.code yJ9_floorMod_7cf53 cJ9_floorMod_7cf53 3 (some .int) ∈ wAll := wAll_in (i := 293) (by decide +kernel) (by decide +kernel)
theorem wst_J9_floorMod_7cf53 : Cond.static yJ9_floorMod_7cf53 ∈ wAll := wAll_in (i := 292) (by decide +kernel) (by decide +kernel)
theorem wc_L_below : Cond.code yL_below cL_below 2 (some .int) ∈ wAll := wAll_in (i := 379) (by decide +kernel) (by decide +kernel)
theorem wst_L_below : Cond.static yL_below ∈ wAll := wAll_in (i := 378) (by decide +kernel) (by decide +kernel)
theorem wc_L_cell : Cond.code yL_cell cL_cell 2 (some .int) ∈ wAll := wAll_in (i := 383) (by decide +kernel) (by decide +kernel)
theorem wst_L_cell : Cond.static yL_cell ∈ wAll := wAll_in (i := 382) (by decide +kernel) (by decide +kernel)
theorem wst_L_give : Cond.static yL_give ∈ wAll := wAll_in (i := 522) (by decide +kernel) (by decide +kernel)
theorem wc_L_heights : Cond.code yL_heights cL_heights 4 (some .int) ∈ wAll := wAll_in (i := 387) (by decide +kernel) (by decide +kernel)
theorem wst_L_heights : Cond.static yL_heights ∈ wAll := wAll_in (i := 386) (by decide +kernel) (by decide +kernel)
theorem wc_L_ring : Cond.code yL_ring cL_ring 7 (some (.object "HammerEggs")) ∈ wAll := wAll_in (i := 390) (by decide +kernel) (by decide +kernel)
theorem wst_L_ring : Cond.static yL_ring ∈ wAll := wAll_in (i := 389) (by decide +kernel) (by decide +kernel)
theorem wc_X0_canCatch : Cond.code yX0_canCatch cX0_canCatch 3 (some .boolean) ∈ wAll := wAll_in (i := 270) (by decide +kernel) (by decide +kernel)
theorem wi_X0_canCatch : Cond.instanceMethod yX0_canCatch ∈ wAll := wAll_in (i := 268) (by decide +kernel) (by decide +kernel)
theorem wse_X0_canCatch : Cond.selects RX0 yX0_canCatch yX0_canCatch ∈ wAll := wAll_in (i := 16) (by decide +kernel) (by decide +kernel)
theorem wc_X0_copyFrom : Cond.code yX0_copyFrom cX0_copyFrom 3 none ∈ wAll := wAll_in (i := 334) (by decide +kernel) (by decide +kernel)
theorem wi_X0_copyFrom : Cond.instanceMethod yX0_copyFrom ∈ wAll := wAll_in (i := 333) (by decide +kernel) (by decide +kernel)
theorem wse_X0_copyFrom : Cond.selects RX0 yX0_copyFrom yX0_copyFrom ∈ wAll := wAll_in (i := 29) (by decide +kernel) (by decide +kernel)
theorem wc_X0_init : Cond.code yX0_init cX0_init 1 none ∈ wAll := wAll_in (i := 405) (by decide +kernel) (by decide +kernel)
theorem wi_X0_init : Cond.instanceMethod yX0_init ∈ wAll := wAll_in (i := 404) (by decide +kernel) (by decide +kernel)
theorem wc_X0_miss : Cond.code yX0_miss cX0_miss 2 none ∈ wAll := wAll_in (i := 278) (by decide +kernel) (by decide +kernel)
theorem wi_X0_miss : Cond.instanceMethod yX0_miss ∈ wAll := wAll_in (i := 277) (by decide +kernel) (by decide +kernel)
theorem wse_X0_miss : Cond.selects RX0 yX0_miss yX0_miss ∈ wAll := wAll_in (i := 18) (by decide +kernel) (by decide +kernel)
theorem wc_X0_thingsHeld : Cond.code yX0_thingsHeld cX0_thingsHeld 3 (some .int) ∈ wAll := wAll_in (i := 536) (by decide +kernel) (by decide +kernel)
theorem wi_X0_thingsHeld : Cond.instanceMethod yX0_thingsHeld ∈ wAll := wAll_in (i := 535) (by decide +kernel) (by decide +kernel)
theorem wse_X0_thingsHeld : Cond.selects RX0 yX0_thingsHeld yX0_thingsHeld ∈ wAll := wAll_in (i := 35) (by decide +kernel) (by decide +kernel)
theorem wc_X1_addTo : Cond.code yX1_addTo cX1_addTo 6 (some .long) ∈ wAll := wAll_in (i := 375) (by decide +kernel) (by decide +kernel)
theorem wi_X1_addTo : Cond.instanceMethod yX1_addTo ∈ wAll := wAll_in (i := 374) (by decide +kernel) (by decide +kernel)
theorem wse_X1_addTo : Cond.selects RX1 yX1_addTo yX1_addTo ∈ wAll := wAll_in (i := 34) (by decide +kernel) (by decide +kernel)
theorem wc_X1_copyFrom : Cond.code yX1_copyFrom cX1_copyFrom 3 none ∈ wAll := wAll_in (i := 338) (by decide +kernel) (by decide +kernel)
theorem wi_X1_copyFrom : Cond.instanceMethod yX1_copyFrom ∈ wAll := wAll_in (i := 337) (by decide +kernel) (by decide +kernel)
theorem wse_X1_copyFrom : Cond.selects RX1 yX1_copyFrom yX1_copyFrom ∈ wAll := wAll_in (i := 30) (by decide +kernel) (by decide +kernel)
theorem wc_X1_init : Cond.code yX1_init cX1_init 1 none ∈ wAll := wAll_in (i := 410) (by decide +kernel) (by decide +kernel)
theorem wi_X1_init : Cond.instanceMethod yX1_init ∈ wAll := wAll_in (i := 409) (by decide +kernel) (by decide +kernel)
theorem wc_X1_placeIn : Cond.code yX1_placeIn cX1_placeIn 2 (some .int) ∈ wAll := wAll_in (i := 290) (by decide +kernel) (by decide +kernel)
theorem wi_X1_placeIn : Cond.instanceMethod yX1_placeIn ∈ wAll := wAll_in (i := 289) (by decide +kernel) (by decide +kernel)
theorem wse_X1_placeIn : Cond.selects RX1 yX1_placeIn yX1_placeIn ∈ wAll := wAll_in (i := 21) (by decide +kernel) (by decide +kernel)
theorem wc_X1_write : Cond.code yX1_write cX1_write 6 none ∈ wAll := wAll_in (i := 148) (by decide +kernel) (by decide +kernel)
theorem wi_X1_write : Cond.instanceMethod yX1_write ∈ wAll := wAll_in (i := 146) (by decide +kernel) (by decide +kernel)
theorem wse_X1_write : Cond.selects RX1 yX1_write yX1_write ∈ wAll := wAll_in (i := 2) (by decide +kernel) (by decide +kernel)
theorem wc_X2_addJuggler : Cond.code yX2_addJuggler cX2_addJuggler 3 (some .int) ∈ wAll := wAll_in (i := 143) (by decide +kernel) (by decide +kernel)
theorem wi_X2_addJuggler : Cond.instanceMethod yX2_addJuggler ∈ wAll := wAll_in (i := 141) (by decide +kernel) (by decide +kernel)
theorem wse_X2_addJuggler : Cond.selects RX2 yX2_addJuggler yX2_addJuggler ∈ wAll := wAll_in (i := 1) (by decide +kernel) (by decide +kernel)
theorem wc_X2_addThing : Cond.code yX2_addThing cX2_addThing 3 (some .int) ∈ wAll := wAll_in (i := 210) (by decide +kernel) (by decide +kernel)
theorem wi_X2_addThing : Cond.instanceMethod yX2_addThing ∈ wAll := wAll_in (i := 209) (by decide +kernel) (by decide +kernel)
theorem wse_X2_addThing : Cond.selects RX2 yX2_addThing yX2_addThing ∈ wAll := wAll_in (i := 6) (by decide +kernel) (by decide +kernel)
theorem wc_X2_allBruises : Cond.code yX2_allBruises cX2_allBruises 3 (some .int) ∈ wAll := wAll_in (i := 352) (by decide +kernel) (by decide +kernel)
theorem wi_X2_allBruises : Cond.instanceMethod yX2_allBruises ∈ wAll := wAll_in (i := 351) (by decide +kernel) (by decide +kernel)
theorem wse_X2_allBruises : Cond.selects RX2 yX2_allBruises yX2_allBruises ∈ wAll := wAll_in (i := 32) (by decide +kernel) (by decide +kernel)
theorem wc_X2_allFell : Cond.code yX2_allFell cX2_allFell 3 (some .int) ∈ wAll := wAll_in (i := 318) (by decide +kernel) (by decide +kernel)
theorem wi_X2_allFell : Cond.instanceMethod yX2_allFell ∈ wAll := wAll_in (i := 317) (by decide +kernel) (by decide +kernel)
theorem wse_X2_allFell : Cond.selects RX2 yX2_allFell yX2_allFell ∈ wAll := wAll_in (i := 26) (by decide +kernel) (by decide +kernel)
theorem wc_X2_allThrown : Cond.code yX2_allThrown cX2_allThrown 3 (some .int) ∈ wAll := wAll_in (i := 322) (by decide +kernel) (by decide +kernel)
theorem wi_X2_allThrown : Cond.instanceMethod yX2_allThrown ∈ wAll := wAll_in (i := 321) (by decide +kernel) (by decide +kernel)
theorem wse_X2_allThrown : Cond.selects RX2 yX2_allThrown yX2_allThrown ∈ wAll := wAll_in (i := 27) (by decide +kernel) (by decide +kernel)
theorem wc_X2_comeDown : Cond.code yX2_comeDown cX2_comeDown 6 (some .int) ∈ wAll := wAll_in (i := 259) (by decide +kernel) (by decide +kernel)
theorem wi_X2_comeDown : Cond.instanceMethod yX2_comeDown ∈ wAll := wAll_in (i := 258) (by decide +kernel) (by decide +kernel)
theorem wse_X2_comeDown : Cond.selects RX2 yX2_comeDown yX2_comeDown ∈ wAll := wAll_in (i := 14) (by decide +kernel) (by decide +kernel)
theorem wc_X2_copyFrom : Cond.code yX2_copyFrom cX2_copyFrom 3 none ∈ wAll := wAll_in (i := 330) (by decide +kernel) (by decide +kernel)
theorem wi_X2_copyFrom : Cond.instanceMethod yX2_copyFrom ∈ wAll := wAll_in (i := 329) (by decide +kernel) (by decide +kernel)
theorem wse_X2_copyFrom : Cond.selects RX2 yX2_copyFrom yX2_copyFrom ∈ wAll := wAll_in (i := 28) (by decide +kernel) (by decide +kernel)
theorem wc_X2_hasJuggler : Cond.code yX2_hasJuggler cX2_hasJuggler 2 (some .boolean) ∈ wAll := wAll_in (i := 161) (by decide +kernel) (by decide +kernel)
theorem wi_X2_hasJuggler : Cond.instanceMethod yX2_hasJuggler ∈ wAll := wAll_in (i := 160) (by decide +kernel) (by decide +kernel)
theorem wse_X2_hasJuggler : Cond.selects RX2 yX2_hasJuggler yX2_hasJuggler ∈ wAll := wAll_in (i := 4) (by decide +kernel) (by decide +kernel)
theorem wc_X2_hasThing : Cond.code yX2_hasThing cX2_hasThing 2 (some .boolean) ∈ wAll := wAll_in (i := 222) (by decide +kernel) (by decide +kernel)
theorem wi_X2_hasThing : Cond.instanceMethod yX2_hasThing ∈ wAll := wAll_in (i := 221) (by decide +kernel) (by decide +kernel)
theorem wse_X2_hasThing : Cond.selects RX2 yX2_hasThing yX2_hasThing ∈ wAll := wAll_in (i := 8) (by decide +kernel) (by decide +kernel)
theorem wc_X2_init : Cond.code yX2_init cX2_init 2 none ∈ wAll := wAll_in (i := 399) (by decide +kernel) (by decide +kernel)
theorem wi_X2_init : Cond.instanceMethod yX2_init ∈ wAll := wAll_in (i := 398) (by decide +kernel) (by decide +kernel)
theorem wc_X2_play : Cond.code yX2_play cX2_play 4 (some .int) ∈ wAll := wAll_in (i := 251) (by decide +kernel) (by decide +kernel)
theorem wi_X2_play : Cond.instanceMethod yX2_play ∈ wAll := wAll_in (i := 250) (by decide +kernel) (by decide +kernel)
theorem wse_X2_play : Cond.selects RX2 yX2_play yX2_play ∈ wAll := wAll_in (i := 12) (by decide +kernel) (by decide +kernel)
theorem wc_X2_playBeat : Cond.code yX2_playBeat cX2_playBeat 4 (some .int) ∈ wAll := wAll_in (i := 255) (by decide +kernel) (by decide +kernel)
theorem wi_X2_playBeat : Cond.instanceMethod yX2_playBeat ∈ wAll := wAll_in (i := 254) (by decide +kernel) (by decide +kernel)
theorem wse_X2_playBeat : Cond.selects RX2 yX2_playBeat yX2_playBeat ∈ wAll := wAll_in (i := 13) (by decide +kernel) (by decide +kernel)
theorem wc_X2_putIntoHand : Cond.code yX2_putIntoHand cX2_putIntoHand 5 none ∈ wAll := wAll_in (i := 274) (by decide +kernel) (by decide +kernel)
theorem wi_X2_putIntoHand : Cond.instanceMethod yX2_putIntoHand ∈ wAll := wAll_in (i := 273) (by decide +kernel) (by decide +kernel)
theorem wse_X2_putIntoHand : Cond.selects RX2 yX2_putIntoHand yX2_putIntoHand ∈ wAll := wAll_in (i := 17) (by decide +kernel) (by decide +kernel)
theorem wc_X2_tellCount : Cond.code yX2_tellCount cX2_tellCount 2 (some .int) ∈ wAll := wAll_in (i := 310) (by decide +kernel) (by decide +kernel)
theorem wi_X2_tellCount : Cond.instanceMethod yX2_tellCount ∈ wAll := wAll_in (i := 309) (by decide +kernel) (by decide +kernel)
theorem wse_X2_tellCount : Cond.selects RX2 yX2_tellCount yX2_tellCount ∈ wAll := wAll_in (i := 24) (by decide +kernel) (by decide +kernel)
theorem wc_X2_tellJuggler : Cond.code yX2_tellJuggler cX2_tellJuggler 4 (some .int) ∈ wAll := wAll_in (i := 235) (by decide +kernel) (by decide +kernel)
theorem wi_X2_tellJuggler : Cond.instanceMethod yX2_tellJuggler ∈ wAll := wAll_in (i := 234) (by decide +kernel) (by decide +kernel)
theorem wse_X2_tellJuggler : Cond.selects RX2 yX2_tellJuggler yX2_tellJuggler ∈ wAll := wAll_in (i := 10) (by decide +kernel) (by decide +kernel)
theorem wc_X2_tellThing : Cond.code yX2_tellThing cX2_tellThing 4 (some .int) ∈ wAll := wAll_in (i := 227) (by decide +kernel) (by decide +kernel)
theorem wi_X2_tellThing : Cond.instanceMethod yX2_tellThing ∈ wAll := wAll_in (i := 226) (by decide +kernel) (by decide +kernel)
theorem wse_X2_tellThing : Cond.selects RX2 yX2_tellThing yX2_tellThing ∈ wAll := wAll_in (i := 9) (by decide +kernel) (by decide +kernel)
theorem wc_X2_thingsFlyingTo : Cond.code yX2_thingsFlyingTo cX2_thingsFlyingTo 4 (some .int) ∈ wAll := wAll_in (i := 239) (by decide +kernel) (by decide +kernel)
theorem wi_X2_thingsFlyingTo : Cond.instanceMethod yX2_thingsFlyingTo ∈ wAll := wAll_in (i := 238) (by decide +kernel) (by decide +kernel)
theorem wse_X2_thingsFlyingTo : Cond.selects RX2 yX2_thingsFlyingTo yX2_thingsFlyingTo ∈ wAll := wAll_in (i := 11) (by decide +kernel) (by decide +kernel)
theorem wc_X2_thingsIn : Cond.code yX2_thingsIn cX2_thingsIn 4 (some .int) ∈ wAll := wAll_in (i := 314) (by decide +kernel) (by decide +kernel)
theorem wi_X2_thingsIn : Cond.instanceMethod yX2_thingsIn ∈ wAll := wAll_in (i := 313) (by decide +kernel) (by decide +kernel)
theorem wse_X2_thingsIn : Cond.selects RX2 yX2_thingsIn yX2_thingsIn ∈ wAll := wAll_in (i := 25) (by decide +kernel) (by decide +kernel)
theorem wc_X2_throwFrom : Cond.code yX2_throwFrom cX2_throwFrom 6 none ∈ wAll := wAll_in (i := 286) (by decide +kernel) (by decide +kernel)
theorem wi_X2_throwFrom : Cond.instanceMethod yX2_throwFrom ∈ wAll := wAll_in (i := 285) (by decide +kernel) (by decide +kernel)
theorem wse_X2_throwFrom : Cond.selects RX2 yX2_throwFrom yX2_throwFrom ∈ wAll := wAll_in (i := 20) (by decide +kernel) (by decide +kernel)
theorem wc_X3_beatsInAir : Cond.code yX3_beatsInAir cX3_beatsInAir 2 (some .int) ∈ wAll := wAll_in (i := 302) (by decide +kernel) (by decide +kernel)
theorem wi_X3_beatsInAir : Cond.instanceMethod yX3_beatsInAir ∈ wAll := wAll_in (i := 301) (by decide +kernel) (by decide +kernel)
theorem wse_X3_beatsInAir : Cond.selects RX3 yX3_beatsInAir yX3_beatsInAir ∈ wAll := wAll_in (i := 23) (by decide +kernel) (by decide +kernel)
theorem wc_X3_comesDownIn : Cond.code yX3_comesDownIn cX3_comesDownIn 2 (some .boolean) ∈ wAll := wAll_in (i := 264) (by decide +kernel) (by decide +kernel)
theorem wi_X3_comesDownIn : Cond.instanceMethod yX3_comesDownIn ∈ wAll := wAll_in (i := 262) (by decide +kernel) (by decide +kernel)
theorem wse_X3_comesDownIn : Cond.selects RX3 yX3_comesDownIn yX3_comesDownIn ∈ wAll := wAll_in (i := 15) (by decide +kernel) (by decide +kernel)
theorem wc_X3_copyFrom : Cond.code yX3_copyFrom cX3_copyFrom 2 none ∈ wAll := wAll_in (i := 342) (by decide +kernel) (by decide +kernel)
theorem wi_X3_copyFrom : Cond.instanceMethod yX3_copyFrom ∈ wAll := wAll_in (i := 341) (by decide +kernel) (by decide +kernel)
theorem wse_X3_copyFrom : Cond.selects RX3 yX3_copyFrom yX3_copyFrom ∈ wAll := wAll_in (i := 31) (by decide +kernel) (by decide +kernel)
theorem wc_X3_fall : Cond.code yX3_fall cX3_fall 1 none ∈ wAll := wAll_in (i := 282) (by decide +kernel) (by decide +kernel)
theorem wi_X3_fall : Cond.instanceMethod yX3_fall ∈ wAll := wAll_in (i := 281) (by decide +kernel) (by decide +kernel)
theorem wse_X3_fall : Cond.selects RX3 yX3_fall yX3_fall ∈ wAll := wAll_in (i := 19) (by decide +kernel) (by decide +kernel)
theorem wc_X3_fly : Cond.code yX3_fly cX3_fly 4 none ∈ wAll := wAll_in (i := 298) (by decide +kernel) (by decide +kernel)
theorem wi_X3_fly : Cond.instanceMethod yX3_fly ∈ wAll := wAll_in (i := 297) (by decide +kernel) (by decide +kernel)
theorem wse_X3_fly : Cond.selects RX3 yX3_fly yX3_fly ∈ wAll := wAll_in (i := 22) (by decide +kernel) (by decide +kernel)
theorem wc_X3_init : Cond.code yX3_init cX3_init 1 none ∈ wAll := wAll_in (i := 456) (by decide +kernel) (by decide +kernel)
theorem wi_X3_init : Cond.instanceMethod yX3_init ∈ wAll := wAll_in (i := 455) (by decide +kernel) (by decide +kernel)
theorem wc_X4_advise : Cond.code yX4_advise cX4_advise 9 (some .int) ∈ wAll := wAll_in (i := 356) (by decide +kernel) (by decide +kernel)
theorem wi_X4_advise : Cond.instanceMethod yX4_advise ∈ wAll := wAll_in (i := 354) (by decide +kernel) (by decide +kernel)
theorem wse_X4_advise : Cond.selects RX4 yX4_advise yX4_advise ∈ wAll := wAll_in (i := 355) (by decide +kernel) (by decide +kernel)
theorem wc_X4_come : Cond.code yX4_come cX4_come 2 (some .int) ∈ wAll := wAll_in (i := 52) (by decide +kernel) (by decide +kernel)
theorem wi_X4_come : Cond.instanceMethod yX4_come ∈ wAll := wAll_in (i := 50) (by decide +kernel) (by decide +kernel)
theorem wse_X4_come : Cond.selects RX4 yX4_come yX4_come ∈ wAll := wAll_in (i := 51) (by decide +kernel) (by decide +kernel)
theorem wc_X4_count : Cond.code yX4_count cX4_count 2 (some .int) ∈ wAll := wAll_in (i := 306) (by decide +kernel) (by decide +kernel)
theorem wi_X4_count : Cond.instanceMethod yX4_count ∈ wAll := wAll_in (i := 304) (by decide +kernel) (by decide +kernel)
theorem wse_X4_count : Cond.selects RX4 yX4_count yX4_count ∈ wAll := wAll_in (i := 305) (by decide +kernel) (by decide +kernel)
theorem wc_X4_digest : Cond.code yX4_digest cX4_digest 5 (some .long) ∈ wAll := wAll_in (i := 369) (by decide +kernel) (by decide +kernel)
theorem wi_X4_digest : Cond.instanceMethod yX4_digest ∈ wAll := wAll_in (i := 367) (by decide +kernel) (by decide +kernel)
theorem wse_X4_digest : Cond.selects RX4 yX4_digest yX4_digest ∈ wAll := wAll_in (i := 368) (by decide +kernel) (by decide +kernel)
theorem wc_X4_fallenWith : Cond.code yX4_fallenWith cX4_fallenWith 5 (some .int) ∈ wAll := wAll_in (i := 360) (by decide +kernel) (by decide +kernel)
theorem wi_X4_fallenWith : Cond.instanceMethod yX4_fallenWith ∈ wAll := wAll_in (i := 359) (by decide +kernel) (by decide +kernel)
theorem wse_X4_fallenWith : Cond.selects RX4 yX4_fallenWith yX4_fallenWith ∈ wAll := wAll_in (i := 33) (by decide +kernel) (by decide +kernel)
theorem wc_X4_falls : Cond.code yX4_falls cX4_falls 2 (some .int) ∈ wAll := wAll_in (i := 326) (by decide +kernel) (by decide +kernel)
theorem wi_X4_falls : Cond.instanceMethod yX4_falls ∈ wAll := wAll_in (i := 324) (by decide +kernel) (by decide +kernel)
theorem wse_X4_falls : Cond.selects RX4 yX4_falls yX4_falls ∈ wAll := wAll_in (i := 325) (by decide +kernel) (by decide +kernel)
theorem wc_X4_foresee : Cond.code yX4_foresee cX4_foresee 4 (some .int) ∈ wAll := wAll_in (i := 347) (by decide +kernel) (by decide +kernel)
theorem wi_X4_foresee : Cond.instanceMethod yX4_foresee ∈ wAll := wAll_in (i := 345) (by decide +kernel) (by decide +kernel)
theorem wse_X4_foresee : Cond.selects RX4 yX4_foresee yX4_foresee ∈ wAll := wAll_in (i := 346) (by decide +kernel) (by decide +kernel)
theorem wc_X4_give : Cond.code yX4_give cX4_give 4 (some .int) ∈ wAll := wAll_in (i := 528) (by decide +kernel) (by decide +kernel)
theorem wi_X4_give : Cond.instanceMethod yX4_give ∈ wAll := wAll_in (i := 526) (by decide +kernel) (by decide +kernel)
theorem wse_X4_give : Cond.selects RX4 yX4_give yX4_give ∈ wAll := wAll_in (i := 527) (by decide +kernel) (by decide +kernel)
theorem wc_X4_go : Cond.code yX4_go cX4_go 2 (some .int) ∈ wAll := wAll_in (i := 243) (by decide +kernel) (by decide +kernel)
theorem wi_X4_go : Cond.instanceMethod yX4_go ∈ wAll := wAll_in (i := 241) (by decide +kernel) (by decide +kernel)
theorem wse_X4_go : Cond.selects RX4 yX4_go yX4_go ∈ wAll := wAll_in (i := 242) (by decide +kernel) (by decide +kernel)
theorem wc_X4_init : Cond.code yX4_init cX4_init 1 none ∈ wAll := wAll_in (i := 394) (by decide +kernel) (by decide +kernel)
theorem wi_X4_init : Cond.instanceMethod yX4_init ∈ wAll := wAll_in (i := 393) (by decide +kernel) (by decide +kernel)
theorem wc_X4_juggler : Cond.code yX4_juggler cX4_juggler 3 (some .int) ∈ wAll := wAll_in (i := 231) (by decide +kernel) (by decide +kernel)
theorem wi_X4_juggler : Cond.instanceMethod yX4_juggler ∈ wAll := wAll_in (i := 229) (by decide +kernel) (by decide +kernel)
theorem wse_X4_juggler : Cond.selects RX4 yX4_juggler yX4_juggler ∈ wAll := wAll_in (i := 230) (by decide +kernel) (by decide +kernel)
theorem wc_X4_make : Cond.code yX4_make cX4_make 2 (some .int) ∈ wAll := wAll_in (i := 204) (by decide +kernel) (by decide +kernel)
theorem wi_X4_make : Cond.instanceMethod yX4_make ∈ wAll := wAll_in (i := 202) (by decide +kernel) (by decide +kernel)
theorem wse_X4_make : Cond.selects RX4 yX4_make yX4_make ∈ wAll := wAll_in (i := 203) (by decide +kernel) (by decide +kernel)
theorem wc_X4_mean : Cond.code yX4_mean cX4_mean 1 (some .double) ∈ wAll := wAll_in (i := 364) (by decide +kernel) (by decide +kernel)
theorem wi_X4_mean : Cond.instanceMethod yX4_mean ∈ wAll := wAll_in (i := 362) (by decide +kernel) (by decide +kernel)
theorem wse_X4_mean : Cond.selects RX4 yX4_mean yX4_mean ∈ wAll := wAll_in (i := 363) (by decide +kernel) (by decide +kernel)
theorem wc_X4_pass : Cond.code yX4_pass cX4_pass 6 (some .int) ∈ wAll := wAll_in (i := 187) (by decide +kernel) (by decide +kernel)
theorem wi_X4_pass : Cond.instanceMethod yX4_pass ∈ wAll := wAll_in (i := 185) (by decide +kernel) (by decide +kernel)
theorem wse_X4_pass : Cond.selects RX4 yX4_pass yX4_pass ∈ wAll := wAll_in (i := 186) (by decide +kernel) (by decide +kernel)
theorem wc_X4_powerOfTen : Cond.code yX4_powerOfTen cX4_powerOfTen 3 (some .int) ∈ wAll := wAll_in (i := 181) (by decide +kernel) (by decide +kernel)
theorem wst_X4_powerOfTen : Cond.static yX4_powerOfTen ∈ wAll := wAll_in (i := 180) (by decide +kernel) (by decide +kernel)
theorem wc_X4_setPattern : Cond.code yX4_setPattern cX4_setPattern 6 (some .int) ∈ wAll := wAll_in (i := 152) (by decide +kernel) (by decide +kernel)
theorem wi_X4_setPattern : Cond.instanceMethod yX4_setPattern ∈ wAll := wAll_in (i := 150) (by decide +kernel) (by decide +kernel)
theorem wse_X4_setPattern : Cond.selects RX4 yX4_setPattern yX4_setPattern ∈ wAll := wAll_in (i := 151) (by decide +kernel) (by decide +kernel)
theorem wc_X4_testBeats : Cond.code yX4_testBeats cX4_testBeats 2 none ∈ wAll := wAll_in (i := 246) (by decide +kernel) (by decide +kernel)
theorem wst_X4_testBeats : Cond.static yX4_testBeats ∈ wAll := wAll_in (i := 245) (by decide +kernel) (by decide +kernel)
theorem wc_X4_testJuggler : Cond.code yX4_testJuggler cX4_testJuggler 2 none ∈ wAll := wAll_in (i := 157) (by decide +kernel) (by decide +kernel)
theorem wi_X4_testJuggler : Cond.instanceMethod yX4_testJuggler ∈ wAll := wAll_in (i := 155) (by decide +kernel) (by decide +kernel)
theorem wse_X4_testJuggler : Cond.selects RX4 yX4_testJuggler yX4_testJuggler ∈ wAll := wAll_in (i := 3) (by decide +kernel) (by decide +kernel)
theorem wc_X4_testPlace : Cond.code yX4_testPlace cX4_testPlace 3 none ∈ wAll := wAll_in (i := 191) (by decide +kernel) (by decide +kernel)
theorem wi_X4_testPlace : Cond.instanceMethod yX4_testPlace ∈ wAll := wAll_in (i := 190) (by decide +kernel) (by decide +kernel)
theorem wse_X4_testPlace : Cond.selects RX4 yX4_testPlace yX4_testPlace ∈ wAll := wAll_in (i := 5) (by decide +kernel) (by decide +kernel)
theorem wc_X4_testThing : Cond.code yX4_testThing cX4_testThing 2 none ∈ wAll := wAll_in (i := 218) (by decide +kernel) (by decide +kernel)
theorem wi_X4_testThing : Cond.instanceMethod yX4_testThing ∈ wAll := wAll_in (i := 217) (by decide +kernel) (by decide +kernel)
theorem wse_X4_testThing : Cond.selects RX4 yX4_testThing yX4_testThing ∈ wAll := wAll_in (i := 7) (by decide +kernel) (by decide +kernel)
theorem wc_X4_testWhat : Cond.code yX4_testWhat cX4_testWhat 2 none ∈ wAll := wAll_in (i := 199) (by decide +kernel) (by decide +kernel)
theorem wst_X4_testWhat : Cond.static yX4_testWhat ∈ wAll := wAll_in (i := 198) (by decide +kernel) (by decide +kernel)
theorem wc_X4_thing : Cond.code yX4_thing cX4_thing 3 (some .int) ∈ wAll := wAll_in (i := 214) (by decide +kernel) (by decide +kernel)
theorem wi_X4_thing : Cond.instanceMethod yX4_thing ∈ wAll := wAll_in (i := 212) (by decide +kernel) (by decide +kernel)
theorem wse_X4_thing : Cond.selects RX4 yX4_thing yX4_thing ∈ wAll := wAll_in (i := 213) (by decide +kernel) (by decide +kernel)
theorem wc_X4_written : Cond.code yX4_written cX4_written 5 (some .int) ∈ wAll := wAll_in (i := 196) (by decide +kernel) (by decide +kernel)
theorem wi_X4_written : Cond.instanceMethod yX4_written ∈ wAll := wAll_in (i := 194) (by decide +kernel) (by decide +kernel)
theorem wse_X4_written : Cond.selects RX4 yX4_written yX4_written ∈ wAll := wAll_in (i := 195) (by decide +kernel) (by decide +kernel)
theorem wcl_X4_7 : Cond.classLink RX4 7 RX2 ∈ wAll := wAll_in (i := 396) (by decide +kernel) (by decide +kernel)
theorem wml_X4_9 : Cond.methodLinkNest RX4 9 yX2_init "HammerEggs" ∈ nestW := nest_in (i := 361) (by decide +kernel) rfl
theorem wf_X4_10 : Cond.fieldLink RX4 10 RX4 "now" "LHammerEggs$Ring;" ∈ wAll := wAll_in (i := 514) (by decide +kernel) (by decide +kernel)
theorem wf_X4_16 : Cond.fieldLink RX4 16 RX4 "trial" "LHammerEggs$Ring;" ∈ wAll := wAll_in (i := 515) (by decide +kernel) (by decide +kernel)
theorem wcl_X4_19 : Cond.classLink RX4 19 "java/lang/IllegalArgumentException" ∈ wAll := wAll_in (i := 53) (by decide +kernel) (by decide +kernel)
theorem wf_X4_26 : Cond.fieldLinkNest RX4 26 RX2 "jugglerCount" "I" "HammerEggs" ∈ nestW := nest_in (i := 462) (by decide +kernel) rfl
theorem wcl_X4_30 : Cond.classLink RX4 30 "java/lang/IllegalStateException" ∈ wAll := wAll_in (i := 123) (by decide +kernel) (by decide +kernel)
theorem wml_X4_35 : Cond.methodLinkNest RX4 35 yX2_addJuggler "HammerEggs" ∈ nestW := nest_in (i := 103) (by decide +kernel) rfl
theorem wm_X4_35 : Wn RX4 35 RX2 yX2_addJuggler cX2_addJuggler 3 (some .int) 1 := ⟨by decide +kernel, ⟨_, wml_X4_35⟩, wi_X2_addJuggler, wse_X2_addJuggler, wini_X2, wc_X2_addJuggler⟩
theorem wml_X4_39 : Cond.methodLink RX4 39 yX4_testJuggler ∈ wAll := wAll_in (i := 153) (by decide +kernel) (by decide +kernel)
theorem wm_X4_39 : Wv RX4 39 RX4 yX4_testJuggler cX4_testJuggler 2 none 1 := ⟨by decide +kernel, wml_X4_39, wi_X4_testJuggler, wse_X4_testJuggler, wini_X4, wc_X4_testJuggler⟩
theorem wml_X4_45 : Cond.methodLink RX4 45 yX4_powerOfTen ∈ wAll := wAll_in (i := 179) (by decide +kernel) (by decide +kernel)
theorem wm_X4_45 : Ws RX4 45 yX4_powerOfTen cX4_powerOfTen 3 (some .int) 1 := ⟨by decide +kernel, wml_X4_45, wst_X4_powerOfTen, wini_X4, wc_X4_powerOfTen⟩
theorem wf_X4_50 : Cond.fieldLinkNest RX4 50 RX2 "jugglers" "[LHammerEggs$Juggler;" "HammerEggs" ∈ nestW := nest_in (i := 458) (by decide +kernel) rfl
theorem wf_X4_54 : Cond.fieldLinkNest RX4 54 RX0 "pattern" "LHammerEggs$Pattern;" "HammerEggs" ∈ nestW := nest_in (i := 394) (by decide +kernel) rfl
theorem wf_X4_60 : Cond.fieldLinkNest RX4 60 RX1 "length" "I" "HammerEggs" ∈ nestW := nest_in (i := 383) (by decide +kernel) rfl
theorem wml_X4_65 : Cond.methodLinkNest RX4 65 yX1_write "HammerEggs" ∈ nestW := nest_in (i := 147) (by decide +kernel) rfl
theorem wm_X4_65 : Wn RX4 65 RX1 yX1_write cX1_write 6 none 3 := ⟨by decide +kernel, ⟨_, wml_X4_65⟩, wi_X1_write, wse_X1_write, wini_X1, wc_X1_write⟩
theorem wml_X4_69 : Cond.methodLink RX4 69 yX4_testPlace ∈ wAll := wAll_in (i := 188) (by decide +kernel) (by decide +kernel)
theorem wm_X4_69 : Wv RX4 69 RX4 yX4_testPlace cX4_testPlace 3 none 2 := ⟨by decide +kernel, wml_X4_69, wi_X4_testPlace, wse_X4_testPlace, wini_X4, wc_X4_testPlace⟩
theorem wf_X4_73 : Cond.fieldLinkNest RX4 73 RX1 "receivers" "[I" "HammerEggs" ∈ nestW := nest_in (i := 380) (by decide +kernel) rfl
theorem wml_X4_77 : Cond.methodLink RX4 77 yX4_testWhat ∈ wAll := wAll_in (i := 197) (by decide +kernel) (by decide +kernel)
theorem wm_X4_77 : Ws RX4 77 yX4_testWhat cX4_testWhat 2 none 2 := ⟨by decide +kernel, wml_X4_77, wst_X4_testWhat, wini_X4, wc_X4_testWhat⟩
theorem wf_X4_80 : Cond.fieldLinkNest RX4 80 RX1 "heights" "[I" "HammerEggs" ∈ nestW := nest_in (i := 377) (by decide +kernel) rfl
theorem wf_X4_85 : Cond.fieldLinkNest RX4 85 RX2 "thingCount" "I" "HammerEggs" ∈ nestW := nest_in (i := 464) (by decide +kernel) rfl
theorem wml_X4_90 : Cond.methodLinkNest RX4 90 yX2_addThing "HammerEggs" ∈ nestW := nest_in (i := 171) (by decide +kernel) rfl
theorem wm_X4_90 : Wn RX4 90 RX2 yX2_addThing cX2_addThing 3 (some .int) 1 := ⟨by decide +kernel, ⟨_, wml_X4_90⟩, wi_X2_addThing, wse_X2_addThing, wini_X2, wc_X2_addThing⟩
theorem wml_X4_93 : Cond.methodLink RX4 93 yX4_testThing ∈ wAll := wAll_in (i := 215) (by decide +kernel) (by decide +kernel)
theorem wm_X4_93 : Wv RX4 93 RX4 yX4_testThing cX4_testThing 2 none 1 := ⟨by decide +kernel, wml_X4_93, wi_X4_testThing, wse_X4_testThing, wini_X4, wc_X4_testThing⟩
theorem wcl_X4_96 : Cond.classLink RX4 96 "java/lang/IndexOutOfBoundsException" ∈ wAll := wAll_in (i := 162) (by decide +kernel) (by decide +kernel)
theorem wf_X4_101 : Cond.fieldLinkNest RX4 101 RX2 "things" "[LHammerEggs$Thing;" "HammerEggs" ∈ nestW := nest_in (i := 460) (by decide +kernel) rfl
theorem wf_X4_105 : Cond.fieldLinkNest RX4 105 RX3 "state" "I" "HammerEggs" ∈ nestW := nest_in (i := 427) (by decide +kernel) rfl
theorem wf_X4_112 : Cond.fieldLinkNest RX4 112 RX0 "hands" "[I" "HammerEggs" ∈ nestW := nest_in (i := 398) (by decide +kernel) rfl
theorem wml_X4_117 : Cond.methodLinkNest RX4 117 yX2_putIntoHand "HammerEggs" ∈ nestW := nest_in (i := 496) (by decide +kernel) rfl
theorem wm_X4_117 : Wn RX4 117 RX2 yX2_putIntoHand cX2_putIntoHand 5 none 3 := ⟨by decide +kernel, ⟨_, wml_X4_117⟩, wi_X2_putIntoHand, wse_X2_putIntoHand, wini_X2, wc_X2_putIntoHand⟩
theorem wml_X4_120 : Cond.methodLinkNest RX4 120 yX0_thingsHeld "HammerEggs" ∈ nestW := nest_in (i := 497) (by decide +kernel) rfl
theorem wm_X4_120 : Wn RX4 120 RX0 yX0_thingsHeld cX0_thingsHeld 3 (some .int) 0 := ⟨by decide +kernel, ⟨_, wml_X4_120⟩, wi_X0_thingsHeld, wse_X0_thingsHeld, wini_X0, wc_X0_thingsHeld⟩
theorem wml_X4_124 : Cond.methodLinkNest RX4 124 yX2_tellThing "HammerEggs" ∈ nestW := nest_in (i := 188) (by decide +kernel) rfl
theorem wm_X4_124 : Wn RX4 124 RX2 yX2_tellThing cX2_tellThing 4 (some .int) 2 := ⟨by decide +kernel, ⟨_, wml_X4_124⟩, wi_X2_tellThing, wse_X2_tellThing, wini_X2, wc_X2_tellThing⟩
theorem wml_X4_128 : Cond.methodLinkNest RX4 128 yX2_tellJuggler "HammerEggs" ∈ nestW := nest_in (i := 196) (by decide +kernel) rfl
theorem wm_X4_128 : Wn RX4 128 RX2 yX2_tellJuggler cX2_tellJuggler 4 (some .int) 2 := ⟨by decide +kernel, ⟨_, wml_X4_128⟩, wi_X2_tellJuggler, wse_X2_tellJuggler, wini_X2, wc_X2_tellJuggler⟩
theorem wml_X4_141 : Cond.methodLink RX4 141 yX4_testBeats ∈ wAll := wAll_in (i := 244) (by decide +kernel) (by decide +kernel)
theorem wm_X4_141 : Ws RX4 141 yX4_testBeats cX4_testBeats 2 none 2 := ⟨by decide +kernel, wml_X4_141, wst_X4_testBeats, wini_X4, wc_X4_testBeats⟩
theorem wml_X4_144 : Cond.methodLinkNest RX4 144 yX2_play "HammerEggs" ∈ nestW := nest_in (i := 212) (by decide +kernel) rfl
theorem wm_X4_144 : Wn RX4 144 RX2 yX2_play cX2_play 4 (some .int) 1 := ⟨by decide +kernel, ⟨_, wml_X4_144⟩, wi_X2_play, wse_X2_play, wini_X2, wc_X2_play⟩
theorem wml_X4_147 : Cond.methodLinkNest RX4 147 yX2_tellCount "HammerEggs" ∈ nestW := nest_in (i := 271) (by decide +kernel) rfl
theorem wm_X4_147 : Wn RX4 147 RX2 yX2_tellCount cX2_tellCount 2 (some .int) 1 := ⟨by decide +kernel, ⟨_, wml_X4_147⟩, wi_X2_tellCount, wse_X2_tellCount, wini_X2, wc_X2_tellCount⟩
theorem wml_X4_150 : Cond.methodLinkNest RX4 150 yX2_copyFrom "HammerEggs" ∈ nestW := nest_in (i := 291) (by decide +kernel) rfl
theorem wm_X4_150 : Wn RX4 150 RX2 yX2_copyFrom cX2_copyFrom 3 none 1 := ⟨by decide +kernel, ⟨_, wml_X4_150⟩, wi_X2_copyFrom, wse_X2_copyFrom, wini_X2, wc_X2_copyFrom⟩
theorem wml_X4_154 : Cond.methodLinkNest RX4 154 yX2_playBeat "HammerEggs" ∈ nestW := nest_in (i := 307) (by decide +kernel) rfl
theorem wm_X4_154 : Wn RX4 154 RX2 yX2_playBeat cX2_playBeat 4 (some .int) 0 := ⟨by decide +kernel, ⟨_, wml_X4_154⟩, wi_X2_playBeat, wse_X2_playBeat, wini_X2, wc_X2_playBeat⟩
theorem wml_X4_157 : Cond.methodLinkNest RX4 157 yX2_thingsIn "HammerEggs" ∈ nestW := nest_in (i := 312) (by decide +kernel) rfl
theorem wm_X4_157 : Wn RX4 157 RX2 yX2_thingsIn cX2_thingsIn 4 (some .int) 1 := ⟨by decide +kernel, ⟨_, wml_X4_157⟩, wi_X2_thingsIn, wse_X2_thingsIn, wini_X2, wc_X2_thingsIn⟩
theorem wml_X4_160 : Cond.methodLinkNest RX4 160 yX2_allBruises "HammerEggs" ∈ nestW := nest_in (i := 313) (by decide +kernel) rfl
theorem wm_X4_160 : Wn RX4 160 RX2 yX2_allBruises cX2_allBruises 3 (some .int) 0 := ⟨by decide +kernel, ⟨_, wml_X4_160⟩, wi_X2_allBruises, wse_X2_allBruises, wini_X2, wc_X2_allBruises⟩
theorem wml_X4_163 : Cond.methodLink RX4 163 yX4_fallenWith ∈ wAll := wAll_in (i := 357) (by decide +kernel) (by decide +kernel)
theorem wm_X4_163 : Wv RX4 163 RX4 yX4_fallenWith cX4_fallenWith 5 (some .int) 4 := ⟨by decide +kernel, wml_X4_163, wi_X4_fallenWith, wse_X4_fallenWith, wini_X4, wc_X4_fallenWith⟩
theorem wf_X4_167 : Cond.fieldLinkNest RX4 167 RX2 "beat" "I" "HammerEggs" ∈ nestW := nest_in (i := 466) (by decide +kernel) rfl
theorem wml_X4_170 : Cond.methodLinkNest RX4 170 yX2_allThrown "HammerEggs" ∈ nestW := nest_in (i := 329) (by decide +kernel) rfl
theorem wm_X4_170 : Wn RX4 170 RX2 yX2_allThrown cX2_allThrown 3 (some .int) 0 := ⟨by decide +kernel, ⟨_, wml_X4_170⟩, wi_X2_allThrown, wse_X2_allThrown, wini_X2, wc_X2_allThrown⟩
theorem wk_X4_173 : Cond.constantLong RX4 173 953 ∈ wAll := wAll_in (i := 370) (by decide +kernel) (by decide +kernel)
theorem wk_X4_175 : Cond.constantLong RX4 175 31 ∈ wAll := wAll_in (i := 371) (by decide +kernel) (by decide +kernel)
theorem wml_X4_177 : Cond.methodLinkNest RX4 177 yX1_addTo "HammerEggs" ∈ nestW := nest_in (i := 336) (by decide +kernel) rfl
theorem wm_X4_177 : Wn RX4 177 RX1 yX1_addTo cX1_addTo 6 (some .long) 1 := ⟨by decide +kernel, ⟨_, wml_X4_177⟩, wi_X1_addTo, wse_X1_addTo, wini_X1, wc_X1_addTo⟩
theorem wml_X4_181 : Cond.methodLinkNest RX4 181 yX2_hasJuggler "HammerEggs" ∈ nestW := nest_in (i := 122) (by decide +kernel) rfl
theorem wm_X4_181 : Wn RX4 181 RX2 yX2_hasJuggler cX2_hasJuggler 2 (some .boolean) 1 := ⟨by decide +kernel, ⟨_, wml_X4_181⟩, wi_X2_hasJuggler, wse_X2_hasJuggler, wini_X2, wc_X2_hasJuggler⟩
theorem wml_X4_189 : Cond.methodLinkNest RX4 189 yX2_hasThing "HammerEggs" ∈ nestW := nest_in (i := 183) (by decide +kernel) rfl
theorem wm_X4_189 : Wn RX4 189 RX2 yX2_hasThing cX2_hasThing 2 (some .boolean) 1 := ⟨by decide +kernel, ⟨_, wml_X4_189⟩, wi_X2_hasThing, wse_X2_hasThing, wini_X2, wc_X2_hasThing⟩
theorem wcl_X0_9 : Cond.classLink RX0 9 RX1 ∈ wAll := wAll_in (i := 407) (by decide +kernel) (by decide +kernel)
theorem wml_X0_11 : Cond.methodLinkNest RX0 11 yX1_init "HammerEggs" ∈ nestW := nest_in (i := 372) (by decide +kernel) rfl
theorem wf_X0_12 : Cond.fieldLink RX0 12 RX0 "pattern" "LHammerEggs$Pattern;" ∈ wAll := wAll_in (i := 429) (by decide +kernel) (by decide +kernel)
theorem wf_X0_18 : Cond.fieldLink RX0 18 RX0 "hands" "[I" ∈ wAll := wAll_in (i := 432) (by decide +kernel) (by decide +kernel)
theorem wml_X0_22 : Cond.methodLinkNest RX0 22 yX1_copyFrom "HammerEggs" ∈ nestW := nest_in (i := 299) (by decide +kernel) rfl
theorem wm_X0_22 : Wn RX0 22 RX1 yX1_copyFrom cX1_copyFrom 3 none 1 := ⟨by decide +kernel, ⟨_, wml_X0_22⟩, wi_X1_copyFrom, wse_X1_copyFrom, wini_X1, wc_X1_copyFrom⟩
theorem wf_X0_26 : Cond.fieldLink RX0 26 RX0 "skill" "I" ∈ wAll := wAll_in (i := 435) (by decide +kernel) (by decide +kernel)
theorem wf_X0_30 : Cond.fieldLink RX0 30 RX0 "bruises" "I" ∈ wAll := wAll_in (i := 437) (by decide +kernel) (by decide +kernel)
theorem wf_X0_33 : Cond.fieldLink RX0 33 RX0 "caught" "I" ∈ wAll := wAll_in (i := 439) (by decide +kernel) (by decide +kernel)
theorem wf_X0_36 : Cond.fieldLinkNest RX0 36 RX3 "kind" "I" "HammerEggs" ∈ nestW := nest_in (i := 423) (by decide +kernel) rfl
theorem wml_X0_41 : Cond.methodLinkNest RX0 41 yX3_fall "HammerEggs" ∈ nestW := nest_in (i := 243) (by decide +kernel) rfl
theorem wm_X0_41 : Wn RX0 41 RX3 yX3_fall cX3_fall 1 none 0 := ⟨by decide +kernel, ⟨_, wml_X0_41⟩, wi_X3_fall, wse_X3_fall, wini_X3, wc_X3_fall⟩
theorem wf_X1_9 : Cond.fieldLink RX1 9 RX1 "heights" "[I" ∈ wAll := wAll_in (i := 412) (by decide +kernel) (by decide +kernel)
theorem wf_X1_15 : Cond.fieldLink RX1 15 RX1 "receivers" "[I" ∈ wAll := wAll_in (i := 415) (by decide +kernel) (by decide +kernel)
theorem wf_X1_18 : Cond.fieldLink RX1 18 RX1 "length" "I" ∈ wAll := wAll_in (i := 418) (by decide +kernel) (by decide +kernel)
theorem wml_X1_22 : Cond.methodLink RX1 22 yJ9_floorMod_7cf53 ∈ wAll := wAll_in (i := 291) (by decide +kernel) (by decide +kernel)
theorem wm_X1_22 : Ws RX1 22 yJ9_floorMod_7cf53 cJ9_floorMod_7cf53 3 (some .int) 2 := ⟨by decide +kernel, wml_X1_22, wst_J9_floorMod_7cf53, wini_Math, wc_J9_floorMod_7cf53⟩
theorem wk_X1_32 : Cond.constantLong RX1 32 31 ∈ wAll := wAll_in (i := 376) (by decide +kernel) (by decide +kernel)
theorem wcl_X2_9 : Cond.classLink RX2 9 RX0 ∈ wAll := wAll_in (i := 401) (by decide +kernel) (by decide +kernel)
theorem wf_X2_11 : Cond.fieldLink RX2 11 RX2 "jugglers" "[LHammerEggs$Juggler;" ∈ wAll := wAll_in (i := 493) (by decide +kernel) (by decide +kernel)
theorem wml_X2_17 : Cond.methodLinkNest RX2 17 yX0_init "HammerEggs" ∈ nestW := nest_in (i := 367) (by decide +kernel) rfl
theorem wcl_X2_18 : Cond.classLink RX2 18 RX3 ∈ wAll := wAll_in (i := 452) (by decide +kernel) (by decide +kernel)
theorem wf_X2_20 : Cond.fieldLink RX2 20 RX2 "things" "[LHammerEggs$Thing;" ∈ wAll := wAll_in (i := 495) (by decide +kernel) (by decide +kernel)
theorem wml_X2_24 : Cond.methodLinkNest RX2 24 yX3_init "HammerEggs" ∈ nestW := nest_in (i := 418) (by decide +kernel) rfl
theorem wf_X2_25 : Cond.fieldLink RX2 25 RX2 "jugglerCount" "I" ∈ wAll := wAll_in (i := 497) (by decide +kernel) (by decide +kernel)
theorem wf_X2_29 : Cond.fieldLink RX2 29 RX2 "thingCount" "I" ∈ wAll := wAll_in (i := 499) (by decide +kernel) (by decide +kernel)
theorem wf_X2_32 : Cond.fieldLink RX2 32 RX2 "beat" "I" ∈ wAll := wAll_in (i := 501) (by decide +kernel) (by decide +kernel)
theorem wml_X2_35 : Cond.methodLinkNest RX2 35 yX0_copyFrom "HammerEggs" ∈ nestW := nest_in (i := 295) (by decide +kernel) rfl
theorem wm_X2_35 : Wn RX2 35 RX0 yX0_copyFrom cX0_copyFrom 3 none 1 := ⟨by decide +kernel, ⟨_, wml_X2_35⟩, wi_X0_copyFrom, wse_X0_copyFrom, wini_X0, wc_X0_copyFrom⟩
theorem wml_X2_39 : Cond.methodLinkNest RX2 39 yX3_copyFrom "HammerEggs" ∈ nestW := nest_in (i := 303) (by decide +kernel) rfl
theorem wm_X2_39 : Wn RX2 39 RX3 yX3_copyFrom cX3_copyFrom 2 none 1 := ⟨by decide +kernel, ⟨_, wml_X2_39⟩, wi_X3_copyFrom, wse_X3_copyFrom, wini_X3, wc_X3_copyFrom⟩
theorem wf_X2_42 : Cond.fieldLinkNest RX2 42 RX0 "skill" "I" "HammerEggs" ∈ nestW := nest_in (i := 400) (by decide +kernel) rfl
theorem wf_X2_45 : Cond.fieldLinkNest RX2 45 RX0 "pattern" "LHammerEggs$Pattern;" "HammerEggs" ∈ nestW := nest_in (i := 395) (by decide +kernel) rfl
theorem wml_X2_49 : Cond.methodLinkNest RX2 49 yX1_write "HammerEggs" ∈ nestW := nest_in (i := 108) (by decide +kernel) rfl
theorem wm_X2_49 : Wn RX2 49 RX1 yX1_write cX1_write 6 none 3 := ⟨by decide +kernel, ⟨_, wml_X2_49⟩, wi_X1_write, wse_X1_write, wini_X1, wc_X1_write⟩
theorem wf_X2_55 : Cond.fieldLinkNest RX2 55 RX3 "kind" "I" "HammerEggs" ∈ nestW := nest_in (i := 424) (by decide +kernel) rfl
theorem wf_X2_58 : Cond.fieldLinkNest RX2 58 RX0 "hands" "[I" "HammerEggs" ∈ nestW := nest_in (i := 397) (by decide +kernel) rfl
theorem wf_X2_62 : Cond.fieldLinkNest RX2 62 RX3 "state" "I" "HammerEggs" ∈ nestW := nest_in (i := 426) (by decide +kernel) rfl
theorem wf_X2_65 : Cond.fieldLinkNest RX2 65 RX3 "juggler" "I" "HammerEggs" ∈ nestW := nest_in (i := 429) (by decide +kernel) rfl
theorem wf_X2_68 : Cond.fieldLinkNest RX2 68 RX3 "hand" "I" "HammerEggs" ∈ nestW := nest_in (i := 431) (by decide +kernel) rfl
theorem wml_X2_71 : Cond.methodLink RX2 71 yX2_playBeat ∈ wAll := wAll_in (i := 252) (by decide +kernel) (by decide +kernel)
theorem wm_X2_71 : Wv RX2 71 RX2 yX2_playBeat cX2_playBeat 4 (some .int) 0 := ⟨by decide +kernel, wml_X2_71, wi_X2_playBeat, wse_X2_playBeat, wini_X2, wc_X2_playBeat⟩
theorem wml_X2_75 : Cond.methodLink RX2 75 yX2_comeDown ∈ wAll := wAll_in (i := 256) (by decide +kernel) (by decide +kernel)
theorem wm_X2_75 : Wv RX2 75 RX2 yX2_comeDown cX2_comeDown 6 (some .int) 1 := ⟨by decide +kernel, wml_X2_75, wi_X2_comeDown, wse_X2_comeDown, wini_X2, wc_X2_comeDown⟩
theorem wml_X2_79 : Cond.methodLink RX2 79 yX2_throwFrom ∈ wAll := wAll_in (i := 283) (by decide +kernel) (by decide +kernel)
theorem wm_X2_79 : Wv RX2 79 RX2 yX2_throwFrom cX2_throwFrom 6 none 2 := ⟨by decide +kernel, wml_X2_79, wi_X2_throwFrom, wse_X2_throwFrom, wini_X2, wc_X2_throwFrom⟩
theorem wml_X2_83 : Cond.methodLinkNest RX2 83 yX3_comesDownIn "HammerEggs" ∈ nestW := nest_in (i := 224) (by decide +kernel) rfl
theorem wm_X2_83 : Wn RX2 83 RX3 yX3_comesDownIn cX3_comesDownIn 2 (some .boolean) 1 := ⟨by decide +kernel, ⟨_, wml_X2_83⟩, wi_X3_comesDownIn, wse_X3_comesDownIn, wini_X3, wc_X3_comesDownIn⟩
theorem wml_X2_87 : Cond.methodLink RX2 87 yX2_hasJuggler ∈ wAll := wAll_in (i := 265) (by decide +kernel) (by decide +kernel)
theorem wm_X2_87 : Wv RX2 87 RX2 yX2_hasJuggler cX2_hasJuggler 2 (some .boolean) 1 := ⟨by decide +kernel, wml_X2_87, wi_X2_hasJuggler, wse_X2_hasJuggler, wini_X2, wc_X2_hasJuggler⟩
theorem wf_X2_90 : Cond.fieldLinkNest RX2 90 RX3 "height" "I" "HammerEggs" ∈ nestW := nest_in (i := 435) (by decide +kernel) rfl
theorem wml_X2_93 : Cond.methodLinkNest RX2 93 yX0_canCatch "HammerEggs" ∈ nestW := nest_in (i := 230) (by decide +kernel) rfl
theorem wm_X2_93 : Wn RX2 93 RX0 yX0_canCatch cX0_canCatch 3 (some .boolean) 2 := ⟨by decide +kernel, ⟨_, wml_X2_93⟩, wi_X0_canCatch, wse_X0_canCatch, wini_X0, wc_X0_canCatch⟩
theorem wml_X2_97 : Cond.methodLink RX2 97 yX2_putIntoHand ∈ wAll := wAll_in (i := 271) (by decide +kernel) (by decide +kernel)
theorem wm_X2_97 : Wv RX2 97 RX2 yX2_putIntoHand cX2_putIntoHand 5 none 3 := ⟨by decide +kernel, wml_X2_97, wi_X2_putIntoHand, wse_X2_putIntoHand, wini_X2, wc_X2_putIntoHand⟩
theorem wf_X2_100 : Cond.fieldLinkNest RX2 100 RX0 "caught" "I" "HammerEggs" ∈ nestW := nest_in (i := 404) (by decide +kernel) rfl
theorem wml_X2_103 : Cond.methodLinkNest RX2 103 yX0_miss "HammerEggs" ∈ nestW := nest_in (i := 239) (by decide +kernel) rfl
theorem wm_X2_103 : Wn RX2 103 RX0 yX0_miss cX0_miss 2 none 1 := ⟨by decide +kernel, ⟨_, wml_X2_103⟩, wi_X0_miss, wse_X0_miss, wini_X0, wc_X0_miss⟩
theorem wml_X2_106 : Cond.methodLinkNest RX2 106 yX1_placeIn "HammerEggs" ∈ nestW := nest_in (i := 251) (by decide +kernel) rfl
theorem wm_X2_106 : Wn RX2 106 RX1 yX1_placeIn cX1_placeIn 2 (some .int) 1 := ⟨by decide +kernel, ⟨_, wml_X2_106⟩, wi_X1_placeIn, wse_X1_placeIn, wini_X1, wc_X1_placeIn⟩
theorem wf_X2_109 : Cond.fieldLinkNest RX2 109 RX1 "heights" "[I" "HammerEggs" ∈ nestW := nest_in (i := 378) (by decide +kernel) rfl
theorem wml_X2_112 : Cond.methodLink RX2 112 yX2_hasThing ∈ wAll := wAll_in (i := 294) (by decide +kernel) (by decide +kernel)
theorem wm_X2_112 : Wv RX2 112 RX2 yX2_hasThing cX2_hasThing 2 (some .boolean) 1 := ⟨by decide +kernel, wml_X2_112, wi_X2_hasThing, wse_X2_hasThing, wini_X2, wc_X2_hasThing⟩
theorem wf_X2_115 : Cond.fieldLinkNest RX2 115 RX1 "receivers" "[I" "HammerEggs" ∈ nestW := nest_in (i := 381) (by decide +kernel) rfl
theorem wml_X2_118 : Cond.methodLinkNest RX2 118 yX3_fly "HammerEggs" ∈ nestW := nest_in (i := 259) (by decide +kernel) rfl
theorem wm_X2_118 : Wn RX2 118 RX3 yX3_fly cX3_fly 4 none 3 := ⟨by decide +kernel, ⟨_, wml_X2_118⟩, wi_X3_fly, wse_X3_fly, wini_X3, wc_X3_fly⟩
theorem wf_X2_121 : Cond.fieldLinkNest RX2 121 RX3 "thrown" "I" "HammerEggs" ∈ nestW := nest_in (i := 437) (by decide +kernel) rfl
theorem wf_X2_124 : Cond.fieldLinkNest RX2 124 RX3 "fell" "I" "HammerEggs" ∈ nestW := nest_in (i := 439) (by decide +kernel) rfl
theorem wf_X2_127 : Cond.fieldLinkNest RX2 127 RX0 "bruises" "I" "HammerEggs" ∈ nestW := nest_in (i := 402) (by decide +kernel) rfl
theorem wf_X2_130 : Cond.fieldLinkNest RX2 130 RX3 "due" "I" "HammerEggs" ∈ nestW := nest_in (i := 433) (by decide +kernel) rfl
theorem wf_X2_133 : Cond.fieldLinkNest RX2 133 RX1 "length" "I" "HammerEggs" ∈ nestW := nest_in (i := 384) (by decide +kernel) rfl
theorem wml_X2_136 : Cond.methodLink RX2 136 yX2_thingsFlyingTo ∈ wAll := wAll_in (i := 236) (by decide +kernel) (by decide +kernel)
theorem wm_X2_136 : Wv RX2 136 RX2 yX2_thingsFlyingTo cX2_thingsFlyingTo 4 (some .int) 1 := ⟨by decide +kernel, wml_X2_136, wi_X2_thingsFlyingTo, wse_X2_thingsFlyingTo, wini_X2, wc_X2_thingsFlyingTo⟩
theorem wml_X2_139 : Cond.methodLink RX2 139 yX2_thingsIn ∈ wAll := wAll_in (i := 311) (by decide +kernel) (by decide +kernel)
theorem wm_X2_139 : Wv RX2 139 RX2 yX2_thingsIn cX2_thingsIn 4 (some .int) 1 := ⟨by decide +kernel, wml_X2_139, wi_X2_thingsIn, wse_X2_thingsIn, wini_X2, wc_X2_thingsIn⟩
theorem wml_X2_142 : Cond.methodLink RX2 142 yX2_allFell ∈ wAll := wAll_in (i := 315) (by decide +kernel) (by decide +kernel)
theorem wm_X2_142 : Wv RX2 142 RX2 yX2_allFell cX2_allFell 3 (some .int) 0 := ⟨by decide +kernel, wml_X2_142, wi_X2_allFell, wse_X2_allFell, wini_X2, wc_X2_allFell⟩
theorem wml_X2_145 : Cond.methodLink RX2 145 yX2_allThrown ∈ wAll := wAll_in (i := 319) (by decide +kernel) (by decide +kernel)
theorem wm_X2_145 : Wv RX2 145 RX2 yX2_allThrown cX2_allThrown 3 (some .int) 0 := ⟨by decide +kernel, wml_X2_145, wi_X2_allThrown, wse_X2_allThrown, wini_X2, wc_X2_allThrown⟩
theorem wf_X3_9 : Cond.fieldLink RX3 9 RX3 "state" "I" ∈ wAll := wAll_in (i := 461) (by decide +kernel) (by decide +kernel)
theorem wf_X3_15 : Cond.fieldLink RX3 15 RX3 "juggler" "I" ∈ wAll := wAll_in (i := 464) (by decide +kernel) (by decide +kernel)
theorem wf_X3_18 : Cond.fieldLink RX3 18 RX3 "hand" "I" ∈ wAll := wAll_in (i := 466) (by decide +kernel) (by decide +kernel)
theorem wf_X3_21 : Cond.fieldLink RX3 21 RX3 "kind" "I" ∈ wAll := wAll_in (i := 458) (by decide +kernel) (by decide +kernel)
theorem wf_X3_24 : Cond.fieldLink RX3 24 RX3 "due" "I" ∈ wAll := wAll_in (i := 468) (by decide +kernel) (by decide +kernel)
theorem wf_X3_27 : Cond.fieldLink RX3 27 RX3 "height" "I" ∈ wAll := wAll_in (i := 470) (by decide +kernel) (by decide +kernel)
theorem wf_X3_30 : Cond.fieldLink RX3 30 RX3 "thrown" "I" ∈ wAll := wAll_in (i := 472) (by decide +kernel) (by decide +kernel)
theorem wf_X3_33 : Cond.fieldLink RX3 33 RX3 "fell" "I" ∈ wAll := wAll_in (i := 474) (by decide +kernel) (by decide +kernel)
theorem wml_X3_36 : Cond.methodLink RX3 36 yX3_beatsInAir ∈ wAll := wAll_in (i := 299) (by decide +kernel) (by decide +kernel)
theorem wm_X3_36 : Wv RX3 36 RX3 yX3_beatsInAir cX3_beatsInAir 2 (some .int) 1 := ⟨by decide +kernel, wml_X3_36, wi_X3_beatsInAir, wse_X3_beatsInAir, wini_X3, wc_X3_beatsInAir⟩
theorem wml_L_9 : Cond.methodLink RL 9 yL_below ∈ wAll := wAll_in (i := 377) (by decide +kernel) (by decide +kernel)
theorem wm_L_9 : Ws RL 9 yL_below cL_below 2 (some .int) 2 := ⟨by decide +kernel, wml_L_9, wst_L_below, wini_L, wc_L_below⟩
theorem wcl_L_15 : Cond.classLink RL 15 RX4 ∈ wAll := wAll_in (i := 391) (by decide +kernel) (by decide +kernel)
theorem wml_L_17 : Cond.methodLink RL 17 yX4_init ∈ wAll := wAll_in (i := 392) (by decide +kernel) (by decide +kernel)
theorem wml_L_18 : Cond.methodLink RL 18 yL_cell ∈ wAll := wAll_in (i := 381) (by decide +kernel) (by decide +kernel)
theorem wm_L_18 : Ws RL 18 yL_cell cL_cell 2 (some .int) 2 := ⟨by decide +kernel, wml_L_18, wst_L_cell, wini_L, wc_L_cell⟩
theorem wml_L_22 : Cond.methodLink RL 22 yX4_come ∈ wAll := wAll_in (i := 49) (by decide +kernel) (by decide +kernel)
theorem wm_L_22 : Wv RL 22 RX4 yX4_come cX4_come 2 (some .int) 1 := ⟨by decide +kernel, wml_L_22, wi_X4_come, wse_X4_come, wini_X4, wc_X4_come⟩
theorem wml_L_26 : Cond.methodLink RL 26 yL_heights ∈ wAll := wAll_in (i := 385) (by decide +kernel) (by decide +kernel)
theorem wm_L_26 : Ws RL 26 yL_heights cL_heights 4 (some .int) 2 := ⟨by decide +kernel, wml_L_26, wst_L_heights, wini_L, wc_L_heights⟩
theorem wml_L_29 : Cond.methodLink RL 29 yX4_setPattern ∈ wAll := wAll_in (i := 149) (by decide +kernel) (by decide +kernel)
theorem wm_L_29 : Wv RL 29 RX4 yX4_setPattern cX4_setPattern 6 (some .int) 3 := ⟨by decide +kernel, wml_L_29, wi_X4_setPattern, wse_X4_setPattern, wini_X4, wc_X4_setPattern⟩
theorem wml_L_33 : Cond.methodLink RL 33 yX4_pass ∈ wAll := wAll_in (i := 184) (by decide +kernel) (by decide +kernel)
theorem wm_L_33 : Wv RL 33 RX4 yX4_pass cX4_pass 6 (some .int) 3 := ⟨by decide +kernel, wml_L_33, wi_X4_pass, wse_X4_pass, wini_X4, wc_X4_pass⟩
theorem wml_L_36 : Cond.methodLink RL 36 yX4_make ∈ wAll := wAll_in (i := 201) (by decide +kernel) (by decide +kernel)
theorem wm_L_36 : Wv RL 36 RX4 yX4_make cX4_make 2 (some .int) 1 := ⟨by decide +kernel, wml_L_36, wi_X4_make, wse_X4_make, wini_X4, wc_X4_make⟩
theorem wml_L_39 : Cond.methodLink RL 39 yL_give ∈ wAll := wAll_in (i := 521) (by decide +kernel) (by decide +kernel)
theorem wml_L_43 : Cond.methodLink RL 43 yX4_go ∈ wAll := wAll_in (i := 240) (by decide +kernel) (by decide +kernel)
theorem wm_L_43 : Wv RL 43 RX4 yX4_go cX4_go 2 (some .int) 1 := ⟨by decide +kernel, wml_L_43, wi_X4_go, wse_X4_go, wini_X4, wc_X4_go⟩
theorem wml_L_46 : Cond.methodLink RL 46 yX4_give ∈ wAll := wAll_in (i := 525) (by decide +kernel) (by decide +kernel)
theorem wm_L_46 : Wv RL 46 RX4 yX4_give cX4_give 4 (some .int) 3 := ⟨by decide +kernel, wml_L_46, wi_X4_give, wse_X4_give, wini_X4, wc_X4_give⟩
theorem wml_L_50 : Cond.methodLink RL 50 yL_ring ∈ wAll := wAll_in (i := 388) (by decide +kernel) (by decide +kernel)
theorem wm_L_50 : Ws RL 50 yL_ring cL_ring 7 (some (.object "HammerEggs")) 1 := ⟨by decide +kernel, wml_L_50, wst_L_ring, wini_L, wc_L_ring⟩
theorem wml_L_54 : Cond.methodLink RL 54 yX4_count ∈ wAll := wAll_in (i := 303) (by decide +kernel) (by decide +kernel)
theorem wm_L_54 : Wv RL 54 RX4 yX4_count cX4_count 2 (some .int) 1 := ⟨by decide +kernel, wml_L_54, wi_X4_count, wse_X4_count, wini_X4, wc_X4_count⟩
theorem wml_L_57 : Cond.methodLink RL 57 yX4_juggler ∈ wAll := wAll_in (i := 228) (by decide +kernel) (by decide +kernel)
theorem wm_L_57 : Wv RL 57 RX4 yX4_juggler cX4_juggler 3 (some .int) 2 := ⟨by decide +kernel, wml_L_57, wi_X4_juggler, wse_X4_juggler, wini_X4, wc_X4_juggler⟩
theorem wml_L_60 : Cond.methodLink RL 60 yX4_written ∈ wAll := wAll_in (i := 193) (by decide +kernel) (by decide +kernel)
theorem wm_L_60 : Wv RL 60 RX4 yX4_written cX4_written 5 (some .int) 3 := ⟨by decide +kernel, wml_L_60, wi_X4_written, wse_X4_written, wini_X4, wc_X4_written⟩
theorem wml_L_63 : Cond.methodLink RL 63 yX4_digest ∈ wAll := wAll_in (i := 366) (by decide +kernel) (by decide +kernel)
theorem wm_L_63 : Wv RL 63 RX4 yX4_digest cX4_digest 5 (some .long) 0 := ⟨by decide +kernel, wml_L_63, wi_X4_digest, wse_X4_digest, wini_X4, wc_X4_digest⟩
theorem wml_L_67 : Cond.methodLink RL 67 yX4_foresee ∈ wAll := wAll_in (i := 344) (by decide +kernel) (by decide +kernel)
theorem wm_L_67 : Wv RL 67 RX4 yX4_foresee cX4_foresee 4 (some .int) 2 := ⟨by decide +kernel, wml_L_67, wi_X4_foresee, wse_X4_foresee, wini_X4, wc_X4_foresee⟩
theorem wml_L_70 : Cond.methodLink RL 70 yX4_falls ∈ wAll := wAll_in (i := 323) (by decide +kernel) (by decide +kernel)
theorem wm_L_70 : Wv RL 70 RX4 yX4_falls cX4_falls 2 (some .int) 0 := ⟨by decide +kernel, wml_L_70, wi_X4_falls, wse_X4_falls, wini_X4, wc_X4_falls⟩
theorem wml_L_74 : Cond.methodLink RL 74 yX4_advise ∈ wAll := wAll_in (i := 353) (by decide +kernel) (by decide +kernel)
theorem wm_L_74 : Wv RL 74 RX4 yX4_advise cX4_advise 9 (some .int) 2 := ⟨by decide +kernel, wml_L_74, wi_X4_advise, wse_X4_advise, wini_X4, wc_X4_advise⟩
theorem wcl_L_77 : Cond.classLink RL 77 "[[I" ∈ wAll := wAll_in (i := 537) (by decide +kernel) (by decide +kernel)
theorem wml_L_79 : Cond.methodLink RL 79 yX4_thing ∈ wAll := wAll_in (i := 211) (by decide +kernel) (by decide +kernel)
theorem wm_L_79 : Wv RL 79 RX4 yX4_thing cX4_thing 3 (some .int) 2 := ⟨by decide +kernel, wml_L_79, wi_X4_thing, wse_X4_thing, wini_X4, wc_X4_thing⟩
theorem wml_L_82 : Cond.methodLink RL 82 yX4_mean ∈ wAll := wAll_in (i := 361) (by decide +kernel) (by decide +kernel)
theorem wm_L_82 : Wv RL 82 RX4 yX4_mean cX4_mean 1 (some .double) 0 := ⟨by decide +kernel, wml_L_82, wi_X4_mean, wse_X4_mean, wini_X4, wc_X4_mean⟩
theorem wit_X4 : Cond.instantiable RX4 2 ∈ wAll := wAll_in (i := 156) (by decide +kernel) (by decide +kernel)
theorem wit_X2 : Cond.instantiable RX2 5 ∈ wAll := wAll_in (i := 142) (by decide +kernel) (by decide +kernel)
theorem wit_X0 : Cond.instantiable RX0 5 ∈ wAll := wAll_in (i := 269) (by decide +kernel) (by decide +kernel)
theorem wit_X1 : Cond.instantiable RX1 3 ∈ wAll := wAll_in (i := 147) (by decide +kernel) (by decide +kernel)
theorem wit_X3 : Cond.instantiable RX3 8 ∈ wAll := wAll_in (i := 263) (by decide +kernel) (by decide +kernel)
