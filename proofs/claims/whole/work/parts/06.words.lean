/-! ===== the words of fields, calls, constants, by their places in the tables ===== -/
theorem uw0_X0 : (u_ws RX0 TX0 5).all (fun w => decide (w ∈ lw_tbl) && goodWord w) = true := by decide +kernel
theorem uw_X0 : ∀ w, w ∈ u_ws RX0 TX0 5 → w ∈ wAll := fun w h => by
  have h1 := List.all_eq_true.mp uw0_X0 w h
  rw [Bool.and_eq_true] at h1
  exact List.mem_filter.mpr ⟨of_decide_eq_true h1.1, h1.2⟩
theorem uw0_X1 : (u_ws RX1 TX1 3).all (fun w => decide (w ∈ lw_tbl) && goodWord w) = true := by decide +kernel
theorem uw_X1 : ∀ w, w ∈ u_ws RX1 TX1 3 → w ∈ wAll := fun w h => by
  have h1 := List.all_eq_true.mp uw0_X1 w h
  rw [Bool.and_eq_true] at h1
  exact List.mem_filter.mpr ⟨of_decide_eq_true h1.1, h1.2⟩
theorem uw0_X2 : (u_ws RX2 TX2 5).all (fun w => decide (w ∈ lw_tbl) && goodWord w) = true := by decide +kernel
theorem uw_X2 : ∀ w, w ∈ u_ws RX2 TX2 5 → w ∈ wAll := fun w h => by
  have h1 := List.all_eq_true.mp uw0_X2 w h
  rw [Bool.and_eq_true] at h1
  exact List.mem_filter.mpr ⟨of_decide_eq_true h1.1, h1.2⟩
theorem uw0_X3 : (u_ws RX3 TX3 8).all (fun w => decide (w ∈ lw_tbl) && goodWord w) = true := by decide +kernel
theorem uw_X3 : ∀ w, w ∈ u_ws RX3 TX3 8 → w ∈ wAll := fun w h => by
  have h1 := List.all_eq_true.mp uw0_X3 w h
  rw [Bool.and_eq_true] at h1
  exact List.mem_filter.mpr ⟨of_decide_eq_true h1.1, h1.2⟩
theorem uw0_X4 : (u_ws RX4 TX4 2).all (fun w => decide (w ∈ lw_tbl) && goodWord w) = true := by decide +kernel
theorem uw_X4 : ∀ w, w ∈ u_ws RX4 TX4 2 → w ∈ wAll := fun w h => by
  have h1 := List.all_eq_true.mp uw0_X4 w h
  rw [Bool.and_eq_true] at h1
  exact List.mem_filter.mpr ⟨of_decide_eq_true h1.1, h1.2⟩
theorem uw0_X5 : (u_ws RX5 TX5 11).all (fun w => decide (w ∈ lw_tbl) && goodWord w) = true := by decide +kernel
theorem uw_X5 : ∀ w, w ∈ u_ws RX5 TX5 11 → w ∈ wAll := fun w h => by
  have h1 := List.all_eq_true.mp uw0_X5 w h
  rw [Bool.and_eq_true] at h1
  exact List.mem_filter.mpr ⟨of_decide_eq_true h1.1, h1.2⟩
theorem uw0_X6 : (u_ws RX6 TX6 10).all (fun w => decide (w ∈ lw_tbl) && goodWord w) = true := by decide +kernel
theorem uw_X6 : ∀ w, w ∈ u_ws RX6 TX6 10 → w ∈ wAll := fun w h => by
  have h1 := List.all_eq_true.mp uw0_X6 w h
  rw [Bool.and_eq_true] at h1
  exact List.mem_filter.mpr ⟨of_decide_eq_true h1.1, h1.2⟩
theorem wini_X4 : Cond.initialized RX4 ∈ wAll := wAll_in (i := 54) (by decide +kernel) (by decide +kernel)
theorem wini_X0 : Cond.initialized RX0 ∈ wAll := wAll_in (i := 56) (by decide +kernel) (by decide +kernel)
theorem wini_X1 : Cond.initialized RX1 ∈ wAll := wAll_in (i := 57) (by decide +kernel) (by decide +kernel)
theorem wini_X2 : Cond.initialized RX2 ∈ wAll := wAll_in (i := 55) (by decide +kernel) (by decide +kernel)
theorem wini_X3 : Cond.initialized RX3 ∈ wAll := wAll_in (i := 58) (by decide +kernel) (by decide +kernel)
theorem wini_L : Cond.initialized RL ∈ wAll := wAll_in (i := 53) (by decide +kernel) (by decide +kernel)
theorem wini_X6 : Cond.initialized RX6 ∈ wAll := wAll_in (i := 59) (by decide +kernel) (by decide +kernel)
theorem wini_X5 : Cond.initialized RX5 ∈ wAll := wAll_in (i := 60) (by decide +kernel) (by decide +kernel)
theorem wini_Exception : Cond.initialized "java/lang/Exception" ∈ wAll := wAll_in (i := 62) (by decide +kernel) (by decide +kernel)
theorem wini_IllegalArgumentException : Cond.initialized "java/lang/IllegalArgumentException" ∈ wAll := wAll_in (i := 64) (by decide +kernel) (by decide +kernel)
theorem wini_IllegalStateException : Cond.initialized "java/lang/IllegalStateException" ∈ wAll := wAll_in (i := 65) (by decide +kernel) (by decide +kernel)
theorem wini_IndexOutOfBoundsException : Cond.initialized "java/lang/IndexOutOfBoundsException" ∈ wAll := wAll_in (i := 66) (by decide +kernel) (by decide +kernel)
theorem wini_Math : Cond.initialized RJ9 ∈ wAll := wAll_in (i := 67) (by decide +kernel) (by decide +kernel)
theorem wini_RuntimeException : Cond.initialized "java/lang/RuntimeException" ∈ wAll := wAll_in (i := 63) (by decide +kernel) (by decide +kernel)
theorem wini_System : Cond.initialized RJ10 ∈ wAll := wAll_in (i := 68) (by decide +kernel) (by decide +kernel)
theorem wini_Throwable : Cond.initialized "java/lang/Throwable" ∈ wAll := wAll_in (i := 61) (by decide +kernel) (by decide +kernel)
theorem wc_J9_floorMod_7cf53 : Cond.code yJ9_floorMod_7cf53 cJ9_floorMod_7cf53 3 (some .int) ∈ wAll := wAll_in (i := 268) (by decide +kernel) (by decide +kernel)
theorem wst_J9_floorMod_7cf53 : Cond.static yJ9_floorMod_7cf53 ∈ wAll := wAll_in (i := 267) (by decide +kernel) (by decide +kernel)
theorem wst_L_advise : Cond.static yL_advise ∈ wAll := wAll_in (i := 605) (by decide +kernel) (by decide +kernel)
theorem wst_L_asks : Cond.static yL_asks ∈ wAll := wAll_in (i := 544) (by decide +kernel) (by decide +kernel)
theorem wst_L_come : Cond.static yL_come ∈ wAll := wAll_in (i := 326) (by decide +kernel) (by decide +kernel)
theorem wst_L_count : Cond.static yL_count ∈ wAll := wAll_in (i := 586) (by decide +kernel) (by decide +kernel)
theorem wst_L_foresee : Cond.static yL_foresee ∈ wAll := wAll_in (i := 593) (by decide +kernel) (by decide +kernel)
theorem wst_L_give : Cond.static yL_give ∈ wAll := wAll_in (i := 498) (by decide +kernel) (by decide +kernel)
theorem wst_L_go : Cond.static yL_go ∈ wAll := wAll_in (i := 570) (by decide +kernel) (by decide +kernel)
theorem wst_L_juggler : Cond.static yL_juggler ∈ wAll := wAll_in (i := 526) (by decide +kernel) (by decide +kernel)
theorem wst_L_lasts : Cond.static yL_lasts ∈ wAll := wAll_in (i := 533) (by decide +kernel) (by decide +kernel)
theorem wst_L_make : Cond.static yL_make ∈ wAll := wAll_in (i := 485) (by decide +kernel) (by decide +kernel)
theorem wst_L_pass : Cond.static yL_pass ∈ wAll := wAll_in (i := 462) (by decide +kernel) (by decide +kernel)
theorem wst_L_setPattern : Cond.static yL_setPattern ∈ wAll := wAll_in (i := 427) (by decide +kernel) (by decide +kernel)
theorem wst_L_shortest : Cond.static yL_shortest ∈ wAll := wAll_in (i := 555) (by decide +kernel) (by decide +kernel)
theorem wst_L_thing : Cond.static yL_thing ∈ wAll := wAll_in (i := 519) (by decide +kernel) (by decide +kernel)
theorem wst_L_written : Cond.static yL_written ∈ wAll := wAll_in (i := 474) (by decide +kernel) (by decide +kernel)
theorem wc_X0_canCatch : Cond.code yX0_canCatch cX0_canCatch 3 (some .boolean) ∈ wAll := wAll_in (i := 245) (by decide +kernel) (by decide +kernel)
theorem wi_X0_canCatch : Cond.instanceMethod yX0_canCatch ∈ wAll := wAll_in (i := 244) (by decide +kernel) (by decide +kernel)
theorem wse_X0_canCatch : Cond.selects RX0 yX0_canCatch yX0_canCatch ∈ wAll := wAll_in (i := 8) (by decide +kernel) (by decide +kernel)
theorem wc_X0_copyFrom : Cond.code yX0_copyFrom cX0_copyFrom 3 none ∈ wAll := wAll_in (i := 217) (by decide +kernel) (by decide +kernel)
theorem wi_X0_copyFrom : Cond.instanceMethod yX0_copyFrom ∈ wAll := wAll_in (i := 216) (by decide +kernel) (by decide +kernel)
theorem wse_X0_copyFrom : Cond.selects RX0 yX0_copyFrom yX0_copyFrom ∈ wAll := wAll_in (i := 1) (by decide +kernel) (by decide +kernel)
theorem wc_X0_init : Cond.code yX0_init cX0_init 1 none ∈ wAll := wAll_in (i := 88) (by decide +kernel) (by decide +kernel)
theorem wi_X0_init : Cond.instanceMethod yX0_init ∈ wAll := wAll_in (i := 87) (by decide +kernel) (by decide +kernel)
theorem wc_X0_miss : Cond.code yX0_miss cX0_miss 2 none ∈ wAll := wAll_in (i := 253) (by decide +kernel) (by decide +kernel)
theorem wi_X0_miss : Cond.instanceMethod yX0_miss ∈ wAll := wAll_in (i := 252) (by decide +kernel) (by decide +kernel)
theorem wse_X0_miss : Cond.selects RX0 yX0_miss yX0_miss ∈ wAll := wAll_in (i := 10) (by decide +kernel) (by decide +kernel)
theorem wc_X0_thingsHeld : Cond.code yX0_thingsHeld cX0_thingsHeld 3 (some .int) ∈ wAll := wAll_in (i := 517) (by decide +kernel) (by decide +kernel)
theorem wi_X0_thingsHeld : Cond.instanceMethod yX0_thingsHeld ∈ wAll := wAll_in (i := 516) (by decide +kernel) (by decide +kernel)
theorem wse_X0_thingsHeld : Cond.selects RX0 yX0_thingsHeld yX0_thingsHeld ∈ wAll := wAll_in (i := 32) (by decide +kernel) (by decide +kernel)
theorem wc_X1_addTo : Cond.code yX1_addTo cX1_addTo 6 (some .long) ∈ wAll := wAll_in (i := 319) (by decide +kernel) (by decide +kernel)
theorem wi_X1_addTo : Cond.instanceMethod yX1_addTo ∈ wAll := wAll_in (i := 318) (by decide +kernel) (by decide +kernel)
theorem wse_X1_addTo : Cond.selects RX1 yX1_addTo yX1_addTo ∈ wAll := wAll_in (i := 23) (by decide +kernel) (by decide +kernel)
theorem wc_X1_ballsAsked : Cond.code yX1_ballsAsked cX1_ballsAsked 3 (some .int) ∈ wAll := wAll_in (i := 553) (by decide +kernel) (by decide +kernel)
theorem wi_X1_ballsAsked : Cond.instanceMethod yX1_ballsAsked ∈ wAll := wAll_in (i := 552) (by decide +kernel) (by decide +kernel)
theorem wse_X1_ballsAsked : Cond.selects RX1 yX1_ballsAsked yX1_ballsAsked ∈ wAll := wAll_in (i := 34) (by decide +kernel) (by decide +kernel)
theorem wc_X1_copyFrom : Cond.code yX1_copyFrom cX1_copyFrom 3 none ∈ wAll := wAll_in (i := 221) (by decide +kernel) (by decide +kernel)
theorem wi_X1_copyFrom : Cond.instanceMethod yX1_copyFrom ∈ wAll := wAll_in (i := 220) (by decide +kernel) (by decide +kernel)
theorem wse_X1_copyFrom : Cond.selects RX1 yX1_copyFrom yX1_copyFrom ∈ wAll := wAll_in (i := 2) (by decide +kernel) (by decide +kernel)
theorem wc_X1_init : Cond.code yX1_init cX1_init 1 none ∈ wAll := wAll_in (i := 94) (by decide +kernel) (by decide +kernel)
theorem wi_X1_init : Cond.instanceMethod yX1_init ∈ wAll := wAll_in (i := 93) (by decide +kernel) (by decide +kernel)
theorem wc_X1_landsApart : Cond.code yX1_landsApart cX1_landsApart 4 (some .boolean) ∈ wAll := wAll_in (i := 542) (by decide +kernel) (by decide +kernel)
theorem wi_X1_landsApart : Cond.instanceMethod yX1_landsApart ∈ wAll := wAll_in (i := 541) (by decide +kernel) (by decide +kernel)
theorem wse_X1_landsApart : Cond.selects RX1 yX1_landsApart yX1_landsApart ∈ wAll := wAll_in (i := 33) (by decide +kernel) (by decide +kernel)
theorem wc_X1_placeIn : Cond.code yX1_placeIn cX1_placeIn 2 (some .int) ∈ wAll := wAll_in (i := 265) (by decide +kernel) (by decide +kernel)
theorem wi_X1_placeIn : Cond.instanceMethod yX1_placeIn ∈ wAll := wAll_in (i := 264) (by decide +kernel) (by decide +kernel)
theorem wse_X1_placeIn : Cond.selects RX1 yX1_placeIn yX1_placeIn ∈ wAll := wAll_in (i := 13) (by decide +kernel) (by decide +kernel)
theorem wc_X1_repeatsAfter : Cond.code yX1_repeatsAfter cX1_repeatsAfter 4 (some .boolean) ∈ wAll := wAll_in (i := 568) (by decide +kernel) (by decide +kernel)
theorem wi_X1_repeatsAfter : Cond.instanceMethod yX1_repeatsAfter ∈ wAll := wAll_in (i := 567) (by decide +kernel) (by decide +kernel)
theorem wse_X1_repeatsAfter : Cond.selects RX1 yX1_repeatsAfter yX1_repeatsAfter ∈ wAll := wAll_in (i := 36) (by decide +kernel) (by decide +kernel)
theorem wc_X1_shortestLength : Cond.code yX1_shortestLength cX1_shortestLength 2 (some .int) ∈ wAll := wAll_in (i := 564) (by decide +kernel) (by decide +kernel)
theorem wi_X1_shortestLength : Cond.instanceMethod yX1_shortestLength ∈ wAll := wAll_in (i := 563) (by decide +kernel) (by decide +kernel)
theorem wse_X1_shortestLength : Cond.selects RX1 yX1_shortestLength yX1_shortestLength ∈ wAll := wAll_in (i := 35) (by decide +kernel) (by decide +kernel)
theorem wc_X1_write : Cond.code yX1_write cX1_write 6 none ∈ wAll := wAll_in (i := 425) (by decide +kernel) (by decide +kernel)
theorem wi_X1_write : Cond.instanceMethod yX1_write ∈ wAll := wAll_in (i := 424) (by decide +kernel) (by decide +kernel)
theorem wse_X1_write : Cond.selects RX1 yX1_write yX1_write ∈ wAll := wAll_in (i := 27) (by decide +kernel) (by decide +kernel)
theorem wc_X2_addJuggler : Cond.code yX2_addJuggler cX2_addJuggler 3 (some .int) ∈ wAll := wAll_in (i := 421) (by decide +kernel) (by decide +kernel)
theorem wi_X2_addJuggler : Cond.instanceMethod yX2_addJuggler ∈ wAll := wAll_in (i := 420) (by decide +kernel) (by decide +kernel)
theorem wse_X2_addJuggler : Cond.selects RX2 yX2_addJuggler yX2_addJuggler ∈ wAll := wAll_in (i := 26) (by decide +kernel) (by decide +kernel)
theorem wc_X2_addThing : Cond.code yX2_addThing cX2_addThing 3 (some .int) ∈ wAll := wAll_in (i := 496) (by decide +kernel) (by decide +kernel)
theorem wi_X2_addThing : Cond.instanceMethod yX2_addThing ∈ wAll := wAll_in (i := 495) (by decide +kernel) (by decide +kernel)
theorem wse_X2_addThing : Cond.selects RX2 yX2_addThing yX2_addThing ∈ wAll := wAll_in (i := 30) (by decide +kernel) (by decide +kernel)
theorem wc_X2_allBruises : Cond.code yX2_allBruises cX2_allBruises 3 (some .int) ∈ wAll := wAll_in (i := 603) (by decide +kernel) (by decide +kernel)
theorem wi_X2_allBruises : Cond.instanceMethod yX2_allBruises ∈ wAll := wAll_in (i := 602) (by decide +kernel) (by decide +kernel)
theorem wse_X2_allBruises : Cond.selects RX2 yX2_allBruises yX2_allBruises ∈ wAll := wAll_in (i := 38) (by decide +kernel) (by decide +kernel)
theorem wc_X2_allFell : Cond.code yX2_allFell cX2_allFell 3 (some .int) ∈ wAll := wAll_in (i := 306) (by decide +kernel) (by decide +kernel)
theorem wi_X2_allFell : Cond.instanceMethod yX2_allFell ∈ wAll := wAll_in (i := 305) (by decide +kernel) (by decide +kernel)
theorem wse_X2_allFell : Cond.selects RX2 yX2_allFell yX2_allFell ∈ wAll := wAll_in (i := 20) (by decide +kernel) (by decide +kernel)
theorem wc_X2_allThrown : Cond.code yX2_allThrown cX2_allThrown 3 (some .int) ∈ wAll := wAll_in (i := 288) (by decide +kernel) (by decide +kernel)
theorem wi_X2_allThrown : Cond.instanceMethod yX2_allThrown ∈ wAll := wAll_in (i := 287) (by decide +kernel) (by decide +kernel)
theorem wse_X2_allThrown : Cond.selects RX2 yX2_allThrown yX2_allThrown ∈ wAll := wAll_in (i := 17) (by decide +kernel) (by decide +kernel)
theorem wc_X2_comeDown : Cond.code yX2_comeDown cX2_comeDown 6 (some .int) ∈ wAll := wAll_in (i := 233) (by decide +kernel) (by decide +kernel)
theorem wi_X2_comeDown : Cond.instanceMethod yX2_comeDown ∈ wAll := wAll_in (i := 232) (by decide +kernel) (by decide +kernel)
theorem wse_X2_comeDown : Cond.selects RX2 yX2_comeDown yX2_comeDown ∈ wAll := wAll_in (i := 5) (by decide +kernel) (by decide +kernel)
theorem wc_X2_copyFrom : Cond.code yX2_copyFrom cX2_copyFrom 3 none ∈ wAll := wAll_in (i := 213) (by decide +kernel) (by decide +kernel)
theorem wi_X2_copyFrom : Cond.instanceMethod yX2_copyFrom ∈ wAll := wAll_in (i := 212) (by decide +kernel) (by decide +kernel)
theorem wse_X2_copyFrom : Cond.selects RX2 yX2_copyFrom yX2_copyFrom ∈ wAll := wAll_in (i := 0) (by decide +kernel) (by decide +kernel)
theorem wc_X2_hasJuggler : Cond.code yX2_hasJuggler cX2_hasJuggler 2 (some .boolean) ∈ wAll := wAll_in (i := 241) (by decide +kernel) (by decide +kernel)
theorem wi_X2_hasJuggler : Cond.instanceMethod yX2_hasJuggler ∈ wAll := wAll_in (i := 240) (by decide +kernel) (by decide +kernel)
theorem wse_X2_hasJuggler : Cond.selects RX2 yX2_hasJuggler yX2_hasJuggler ∈ wAll := wAll_in (i := 7) (by decide +kernel) (by decide +kernel)
theorem wc_X2_hasThing : Cond.code yX2_hasThing cX2_hasThing 2 (some .boolean) ∈ wAll := wAll_in (i := 272) (by decide +kernel) (by decide +kernel)
theorem wi_X2_hasThing : Cond.instanceMethod yX2_hasThing ∈ wAll := wAll_in (i := 271) (by decide +kernel) (by decide +kernel)
theorem wse_X2_hasThing : Cond.selects RX2 yX2_hasThing yX2_hasThing ∈ wAll := wAll_in (i := 14) (by decide +kernel) (by decide +kernel)
theorem wc_X2_init : Cond.code yX2_init cX2_init 2 none ∈ wAll := wAll_in (i := 81) (by decide +kernel) (by decide +kernel)
theorem wi_X2_init : Cond.instanceMethod yX2_init ∈ wAll := wAll_in (i := 80) (by decide +kernel) (by decide +kernel)
theorem wc_X2_play : Cond.code yX2_play cX2_play 4 (some .int) ∈ wAll := wAll_in (i := 583) (by decide +kernel) (by decide +kernel)
theorem wi_X2_play : Cond.instanceMethod yX2_play ∈ wAll := wAll_in (i := 582) (by decide +kernel) (by decide +kernel)
theorem wse_X2_play : Cond.selects RX2 yX2_play yX2_play ∈ wAll := wAll_in (i := 37) (by decide +kernel) (by decide +kernel)
theorem wc_X2_playBeat : Cond.code yX2_playBeat cX2_playBeat 4 (some .int) ∈ wAll := wAll_in (i := 229) (by decide +kernel) (by decide +kernel)
theorem wi_X2_playBeat : Cond.instanceMethod yX2_playBeat ∈ wAll := wAll_in (i := 228) (by decide +kernel) (by decide +kernel)
theorem wse_X2_playBeat : Cond.selects RX2 yX2_playBeat yX2_playBeat ∈ wAll := wAll_in (i := 4) (by decide +kernel) (by decide +kernel)
theorem wc_X2_putIntoHand : Cond.code yX2_putIntoHand cX2_putIntoHand 5 none ∈ wAll := wAll_in (i := 249) (by decide +kernel) (by decide +kernel)
theorem wi_X2_putIntoHand : Cond.instanceMethod yX2_putIntoHand ∈ wAll := wAll_in (i := 248) (by decide +kernel) (by decide +kernel)
theorem wse_X2_putIntoHand : Cond.selects RX2 yX2_putIntoHand yX2_putIntoHand ∈ wAll := wAll_in (i := 9) (by decide +kernel) (by decide +kernel)
theorem wc_X2_tellCount : Cond.code yX2_tellCount cX2_tellCount 2 (some .int) ∈ wAll := wAll_in (i := 298) (by decide +kernel) (by decide +kernel)
theorem wi_X2_tellCount : Cond.instanceMethod yX2_tellCount ∈ wAll := wAll_in (i := 297) (by decide +kernel) (by decide +kernel)
theorem wse_X2_tellCount : Cond.selects RX2 yX2_tellCount yX2_tellCount ∈ wAll := wAll_in (i := 18) (by decide +kernel) (by decide +kernel)
theorem wc_X2_tellJuggler : Cond.code yX2_tellJuggler cX2_tellJuggler 4 (some .int) ∈ wAll := wAll_in (i := 311) (by decide +kernel) (by decide +kernel)
theorem wi_X2_tellJuggler : Cond.instanceMethod yX2_tellJuggler ∈ wAll := wAll_in (i := 310) (by decide +kernel) (by decide +kernel)
theorem wse_X2_tellJuggler : Cond.selects RX2 yX2_tellJuggler yX2_tellJuggler ∈ wAll := wAll_in (i := 21) (by decide +kernel) (by decide +kernel)
theorem wc_X2_tellThing : Cond.code yX2_tellThing cX2_tellThing 4 (some .int) ∈ wAll := wAll_in (i := 324) (by decide +kernel) (by decide +kernel)
theorem wi_X2_tellThing : Cond.instanceMethod yX2_tellThing ∈ wAll := wAll_in (i := 323) (by decide +kernel) (by decide +kernel)
theorem wse_X2_tellThing : Cond.selects RX2 yX2_tellThing yX2_tellThing ∈ wAll := wAll_in (i := 24) (by decide +kernel) (by decide +kernel)
theorem wc_X2_thingsFlyingTo : Cond.code yX2_thingsFlyingTo cX2_thingsFlyingTo 4 (some .int) ∈ wAll := wAll_in (i := 315) (by decide +kernel) (by decide +kernel)
theorem wi_X2_thingsFlyingTo : Cond.instanceMethod yX2_thingsFlyingTo ∈ wAll := wAll_in (i := 314) (by decide +kernel) (by decide +kernel)
theorem wse_X2_thingsFlyingTo : Cond.selects RX2 yX2_thingsFlyingTo yX2_thingsFlyingTo ∈ wAll := wAll_in (i := 22) (by decide +kernel) (by decide +kernel)
theorem wc_X2_thingsIn : Cond.code yX2_thingsIn cX2_thingsIn 4 (some .int) ∈ wAll := wAll_in (i := 302) (by decide +kernel) (by decide +kernel)
theorem wi_X2_thingsIn : Cond.instanceMethod yX2_thingsIn ∈ wAll := wAll_in (i := 301) (by decide +kernel) (by decide +kernel)
theorem wse_X2_thingsIn : Cond.selects RX2 yX2_thingsIn yX2_thingsIn ∈ wAll := wAll_in (i := 19) (by decide +kernel) (by decide +kernel)
theorem wc_X2_throwFrom : Cond.code yX2_throwFrom cX2_throwFrom 6 none ∈ wAll := wAll_in (i := 261) (by decide +kernel) (by decide +kernel)
theorem wi_X2_throwFrom : Cond.instanceMethod yX2_throwFrom ∈ wAll := wAll_in (i := 260) (by decide +kernel) (by decide +kernel)
theorem wse_X2_throwFrom : Cond.selects RX2 yX2_throwFrom yX2_throwFrom ∈ wAll := wAll_in (i := 12) (by decide +kernel) (by decide +kernel)
theorem wc_X3_beatsInAir : Cond.code yX3_beatsInAir cX3_beatsInAir 2 (some .int) ∈ wAll := wAll_in (i := 280) (by decide +kernel) (by decide +kernel)
theorem wi_X3_beatsInAir : Cond.instanceMethod yX3_beatsInAir ∈ wAll := wAll_in (i := 279) (by decide +kernel) (by decide +kernel)
theorem wse_X3_beatsInAir : Cond.selects RX3 yX3_beatsInAir yX3_beatsInAir ∈ wAll := wAll_in (i := 16) (by decide +kernel) (by decide +kernel)
theorem wc_X3_comesDownIn : Cond.code yX3_comesDownIn cX3_comesDownIn 2 (some .boolean) ∈ wAll := wAll_in (i := 237) (by decide +kernel) (by decide +kernel)
theorem wi_X3_comesDownIn : Cond.instanceMethod yX3_comesDownIn ∈ wAll := wAll_in (i := 236) (by decide +kernel) (by decide +kernel)
theorem wse_X3_comesDownIn : Cond.selects RX3 yX3_comesDownIn yX3_comesDownIn ∈ wAll := wAll_in (i := 6) (by decide +kernel) (by decide +kernel)
theorem wc_X3_copyFrom : Cond.code yX3_copyFrom cX3_copyFrom 2 none ∈ wAll := wAll_in (i := 225) (by decide +kernel) (by decide +kernel)
theorem wi_X3_copyFrom : Cond.instanceMethod yX3_copyFrom ∈ wAll := wAll_in (i := 224) (by decide +kernel) (by decide +kernel)
theorem wse_X3_copyFrom : Cond.selects RX3 yX3_copyFrom yX3_copyFrom ∈ wAll := wAll_in (i := 3) (by decide +kernel) (by decide +kernel)
theorem wc_X3_fall : Cond.code yX3_fall cX3_fall 1 none ∈ wAll := wAll_in (i := 257) (by decide +kernel) (by decide +kernel)
theorem wi_X3_fall : Cond.instanceMethod yX3_fall ∈ wAll := wAll_in (i := 256) (by decide +kernel) (by decide +kernel)
theorem wse_X3_fall : Cond.selects RX3 yX3_fall yX3_fall ∈ wAll := wAll_in (i := 11) (by decide +kernel) (by decide +kernel)
theorem wc_X3_fly : Cond.code yX3_fly cX3_fly 4 none ∈ wAll := wAll_in (i := 276) (by decide +kernel) (by decide +kernel)
theorem wi_X3_fly : Cond.instanceMethod yX3_fly ∈ wAll := wAll_in (i := 275) (by decide +kernel) (by decide +kernel)
theorem wse_X3_fly : Cond.selects RX3 yX3_fly yX3_fly ∈ wAll := wAll_in (i := 15) (by decide +kernel) (by decide +kernel)
theorem wc_X3_init : Cond.code yX3_init cX3_init 1 none ∈ wAll := wAll_in (i := 141) (by decide +kernel) (by decide +kernel)
theorem wi_X3_init : Cond.instanceMethod yX3_init ∈ wAll := wAll_in (i := 140) (by decide +kernel) (by decide +kernel)
theorem wc_X4_advise : Cond.code yX4_advise cX4_advise 9 (some .int) ∈ wAll := wAll_in (i := 610) (by decide +kernel) (by decide +kernel)
theorem wi_X4_advise : Cond.instanceMethod yX4_advise ∈ wAll := wAll_in (i := 608) (by decide +kernel) (by decide +kernel)
theorem wse_X4_advise : Cond.selects RX4 yX4_advise yX4_advise ∈ wAll := wAll_in (i := 609) (by decide +kernel) (by decide +kernel)
theorem wc_X4_asks : Cond.code yX4_asks cX4_asks 2 (some .int) ∈ wAll := wAll_in (i := 549) (by decide +kernel) (by decide +kernel)
theorem wi_X4_asks : Cond.instanceMethod yX4_asks ∈ wAll := wAll_in (i := 547) (by decide +kernel) (by decide +kernel)
theorem wse_X4_asks : Cond.selects RX4 yX4_asks yX4_asks ∈ wAll := wAll_in (i := 548) (by decide +kernel) (by decide +kernel)
theorem wc_X4_come : Cond.code yX4_come cX4_come 2 (some .int) ∈ wAll := wAll_in (i := 333) (by decide +kernel) (by decide +kernel)
theorem wi_X4_come : Cond.instanceMethod yX4_come ∈ wAll := wAll_in (i := 331) (by decide +kernel) (by decide +kernel)
theorem wse_X4_come : Cond.selects RX4 yX4_come yX4_come ∈ wAll := wAll_in (i := 332) (by decide +kernel) (by decide +kernel)
theorem wc_X4_count : Cond.code yX4_count cX4_count 2 (some .int) ∈ wAll := wAll_in (i := 591) (by decide +kernel) (by decide +kernel)
theorem wi_X4_count : Cond.instanceMethod yX4_count ∈ wAll := wAll_in (i := 589) (by decide +kernel) (by decide +kernel)
theorem wse_X4_count : Cond.selects RX4 yX4_count yX4_count ∈ wAll := wAll_in (i := 590) (by decide +kernel) (by decide +kernel)
theorem wc_X4_digest : Cond.code yX4_digest cX4_digest 5 (some .long) ∈ wAll := wAll_in (i := 292) (by decide +kernel) (by decide +kernel)
theorem wi_X4_digest : Cond.instanceMethod yX4_digest ∈ wAll := wAll_in (i := 290) (by decide +kernel) (by decide +kernel)
theorem wse_X4_digest : Cond.selects RX4 yX4_digest yX4_digest ∈ wAll := wAll_in (i := 291) (by decide +kernel) (by decide +kernel)
theorem wc_X4_fallenWith : Cond.code yX4_fallenWith cX4_fallenWith 5 (some .int) ∈ wAll := wAll_in (i := 614) (by decide +kernel) (by decide +kernel)
theorem wi_X4_fallenWith : Cond.instanceMethod yX4_fallenWith ∈ wAll := wAll_in (i := 613) (by decide +kernel) (by decide +kernel)
theorem wse_X4_fallenWith : Cond.selects RX4 yX4_fallenWith yX4_fallenWith ∈ wAll := wAll_in (i := 39) (by decide +kernel) (by decide +kernel)
theorem wc_X4_falls : Cond.code yX4_falls cX4_falls 2 (some .int) ∈ wAll := wAll_in (i := 209) (by decide +kernel) (by decide +kernel)
theorem wi_X4_falls : Cond.instanceMethod yX4_falls ∈ wAll := wAll_in (i := 207) (by decide +kernel) (by decide +kernel)
theorem wse_X4_falls : Cond.selects RX4 yX4_falls yX4_falls ∈ wAll := wAll_in (i := 208) (by decide +kernel) (by decide +kernel)
theorem wc_X4_foresee : Cond.code yX4_foresee cX4_foresee 4 (some .int) ∈ wAll := wAll_in (i := 598) (by decide +kernel) (by decide +kernel)
theorem wi_X4_foresee : Cond.instanceMethod yX4_foresee ∈ wAll := wAll_in (i := 596) (by decide +kernel) (by decide +kernel)
theorem wse_X4_foresee : Cond.selects RX4 yX4_foresee yX4_foresee ∈ wAll := wAll_in (i := 597) (by decide +kernel) (by decide +kernel)
theorem wc_X4_give : Cond.code yX4_give cX4_give 4 (some .int) ∈ wAll := wAll_in (i := 503) (by decide +kernel) (by decide +kernel)
theorem wi_X4_give : Cond.instanceMethod yX4_give ∈ wAll := wAll_in (i := 501) (by decide +kernel) (by decide +kernel)
theorem wse_X4_give : Cond.selects RX4 yX4_give yX4_give ∈ wAll := wAll_in (i := 502) (by decide +kernel) (by decide +kernel)
theorem wc_X4_go : Cond.code yX4_go cX4_go 2 (some .int) ∈ wAll := wAll_in (i := 575) (by decide +kernel) (by decide +kernel)
theorem wi_X4_go : Cond.instanceMethod yX4_go ∈ wAll := wAll_in (i := 573) (by decide +kernel) (by decide +kernel)
theorem wse_X4_go : Cond.selects RX4 yX4_go yX4_go ∈ wAll := wAll_in (i := 574) (by decide +kernel) (by decide +kernel)
theorem wc_X4_init : Cond.code yX4_init cX4_init 1 none ∈ wAll := wAll_in (i := 73) (by decide +kernel) (by decide +kernel)
theorem wi_X4_init : Cond.instanceMethod yX4_init ∈ wAll := wAll_in (i := 72) (by decide +kernel) (by decide +kernel)
theorem wc_X4_juggler : Cond.code yX4_juggler cX4_juggler 3 (some .int) ∈ wAll := wAll_in (i := 531) (by decide +kernel) (by decide +kernel)
theorem wi_X4_juggler : Cond.instanceMethod yX4_juggler ∈ wAll := wAll_in (i := 529) (by decide +kernel) (by decide +kernel)
theorem wse_X4_juggler : Cond.selects RX4 yX4_juggler yX4_juggler ∈ wAll := wAll_in (i := 530) (by decide +kernel) (by decide +kernel)
theorem wc_X4_lasts : Cond.code yX4_lasts cX4_lasts 2 (some .boolean) ∈ wAll := wAll_in (i := 538) (by decide +kernel) (by decide +kernel)
theorem wi_X4_lasts : Cond.instanceMethod yX4_lasts ∈ wAll := wAll_in (i := 536) (by decide +kernel) (by decide +kernel)
theorem wse_X4_lasts : Cond.selects RX4 yX4_lasts yX4_lasts ∈ wAll := wAll_in (i := 537) (by decide +kernel) (by decide +kernel)
theorem wc_X4_make : Cond.code yX4_make cX4_make 2 (some .int) ∈ wAll := wAll_in (i := 490) (by decide +kernel) (by decide +kernel)
theorem wi_X4_make : Cond.instanceMethod yX4_make ∈ wAll := wAll_in (i := 488) (by decide +kernel) (by decide +kernel)
theorem wse_X4_make : Cond.selects RX4 yX4_make yX4_make ∈ wAll := wAll_in (i := 489) (by decide +kernel) (by decide +kernel)
theorem wc_X4_mean : Cond.code yX4_mean cX4_mean 1 (some .double) ∈ wAll := wAll_in (i := 284) (by decide +kernel) (by decide +kernel)
theorem wi_X4_mean : Cond.instanceMethod yX4_mean ∈ wAll := wAll_in (i := 282) (by decide +kernel) (by decide +kernel)
theorem wse_X4_mean : Cond.selects RX4 yX4_mean yX4_mean ∈ wAll := wAll_in (i := 283) (by decide +kernel) (by decide +kernel)
theorem wc_X4_pass : Cond.code yX4_pass cX4_pass 6 (some .int) ∈ wAll := wAll_in (i := 467) (by decide +kernel) (by decide +kernel)
theorem wi_X4_pass : Cond.instanceMethod yX4_pass ∈ wAll := wAll_in (i := 465) (by decide +kernel) (by decide +kernel)
theorem wse_X4_pass : Cond.selects RX4 yX4_pass yX4_pass ∈ wAll := wAll_in (i := 466) (by decide +kernel) (by decide +kernel)
theorem wc_X4_powerOfTen : Cond.code yX4_powerOfTen cX4_powerOfTen 3 (some .int) ∈ wAll := wAll_in (i := 458) (by decide +kernel) (by decide +kernel)
theorem wst_X4_powerOfTen : Cond.static yX4_powerOfTen ∈ wAll := wAll_in (i := 457) (by decide +kernel) (by decide +kernel)
theorem wc_X4_setPattern : Cond.code yX4_setPattern cX4_setPattern 6 (some .int) ∈ wAll := wAll_in (i := 433) (by decide +kernel) (by decide +kernel)
theorem wi_X4_setPattern : Cond.instanceMethod yX4_setPattern ∈ wAll := wAll_in (i := 431) (by decide +kernel) (by decide +kernel)
theorem wse_X4_setPattern : Cond.selects RX4 yX4_setPattern yX4_setPattern ∈ wAll := wAll_in (i := 432) (by decide +kernel) (by decide +kernel)
theorem wc_X4_shortest : Cond.code yX4_shortest cX4_shortest 2 (some .int) ∈ wAll := wAll_in (i := 560) (by decide +kernel) (by decide +kernel)
theorem wi_X4_shortest : Cond.instanceMethod yX4_shortest ∈ wAll := wAll_in (i := 558) (by decide +kernel) (by decide +kernel)
theorem wse_X4_shortest : Cond.selects RX4 yX4_shortest yX4_shortest ∈ wAll := wAll_in (i := 559) (by decide +kernel) (by decide +kernel)
theorem wc_X4_testBeats : Cond.code yX4_testBeats cX4_testBeats 2 none ∈ wAll := wAll_in (i := 578) (by decide +kernel) (by decide +kernel)
theorem wst_X4_testBeats : Cond.static yX4_testBeats ∈ wAll := wAll_in (i := 577) (by decide +kernel) (by decide +kernel)
theorem wc_X4_testJuggler : Cond.code yX4_testJuggler cX4_testJuggler 2 none ∈ wAll := wAll_in (i := 437) (by decide +kernel) (by decide +kernel)
theorem wi_X4_testJuggler : Cond.instanceMethod yX4_testJuggler ∈ wAll := wAll_in (i := 436) (by decide +kernel) (by decide +kernel)
theorem wse_X4_testJuggler : Cond.selects RX4 yX4_testJuggler yX4_testJuggler ∈ wAll := wAll_in (i := 28) (by decide +kernel) (by decide +kernel)
theorem wc_X4_testPlace : Cond.code yX4_testPlace cX4_testPlace 3 none ∈ wAll := wAll_in (i := 471) (by decide +kernel) (by decide +kernel)
theorem wi_X4_testPlace : Cond.instanceMethod yX4_testPlace ∈ wAll := wAll_in (i := 470) (by decide +kernel) (by decide +kernel)
theorem wse_X4_testPlace : Cond.selects RX4 yX4_testPlace yX4_testPlace ∈ wAll := wAll_in (i := 29) (by decide +kernel) (by decide +kernel)
theorem wc_X4_testThing : Cond.code yX4_testThing cX4_testThing 2 none ∈ wAll := wAll_in (i := 507) (by decide +kernel) (by decide +kernel)
theorem wi_X4_testThing : Cond.instanceMethod yX4_testThing ∈ wAll := wAll_in (i := 506) (by decide +kernel) (by decide +kernel)
theorem wse_X4_testThing : Cond.selects RX4 yX4_testThing yX4_testThing ∈ wAll := wAll_in (i := 31) (by decide +kernel) (by decide +kernel)
theorem wc_X4_testWhat : Cond.code yX4_testWhat cX4_testWhat 2 none ∈ wAll := wAll_in (i := 482) (by decide +kernel) (by decide +kernel)
theorem wst_X4_testWhat : Cond.static yX4_testWhat ∈ wAll := wAll_in (i := 481) (by decide +kernel) (by decide +kernel)
theorem wc_X4_thing : Cond.code yX4_thing cX4_thing 3 (some .int) ∈ wAll := wAll_in (i := 524) (by decide +kernel) (by decide +kernel)
theorem wi_X4_thing : Cond.instanceMethod yX4_thing ∈ wAll := wAll_in (i := 522) (by decide +kernel) (by decide +kernel)
theorem wse_X4_thing : Cond.selects RX4 yX4_thing yX4_thing ∈ wAll := wAll_in (i := 523) (by decide +kernel) (by decide +kernel)
theorem wc_X4_written : Cond.code yX4_written cX4_written 5 (some .int) ∈ wAll := wAll_in (i := 479) (by decide +kernel) (by decide +kernel)
theorem wi_X4_written : Cond.instanceMethod yX4_written ∈ wAll := wAll_in (i := 477) (by decide +kernel) (by decide +kernel)
theorem wse_X4_written : Cond.selects RX4 yX4_written yX4_written ∈ wAll := wAll_in (i := 478) (by decide +kernel) (by decide +kernel)
theorem wc_X5_are : Cond.code yX5_are cX5_are 4 (some .int) ∈ wAll := wAll_in (i := 829) (by decide +kernel) (by decide +kernel)
theorem wi_X5_are : Cond.instanceMethod yX5_are ∈ wAll := wAll_in (i := 827) (by decide +kernel) (by decide +kernel)
theorem wse_X5_are : Cond.selects RX5 yX5_are yX5_are ∈ wAll := wAll_in (i := 828) (by decide +kernel) (by decide +kernel)
theorem wc_X5_become : Cond.code yX5_become cX5_become 2 none ∈ wAll := wAll_in (i := 837) (by decide +kernel) (by decide +kernel)
theorem wi_X5_become : Cond.instanceMethod yX5_become ∈ wAll := wAll_in (i := 835) (by decide +kernel) (by decide +kernel)
theorem wse_X5_become : Cond.selects RX5 yX5_become yX5_become ∈ wAll := wAll_in (i := 836) (by decide +kernel) (by decide +kernel)
theorem wc_X5_comeDown : Cond.code yX5_comeDown cX5_comeDown 4 none ∈ wAll := wAll_in (i := 810) (by decide +kernel) (by decide +kernel)
theorem wi_X5_comeDown : Cond.instanceMethod yX5_comeDown ∈ wAll := wAll_in (i := 809) (by decide +kernel) (by decide +kernel)
theorem wse_X5_comeDown : Cond.selects RX5 yX5_comeDown yX5_comeDown ∈ wAll := wAll_in (i := 48) (by decide +kernel) (by decide +kernel)
theorem wc_X5_copy : Cond.code yX5_copy cX5_copy 3 none ∈ wAll := wAll_in (i := 841) (by decide +kernel) (by decide +kernel)
theorem wi_X5_copy : Cond.instanceMethod yX5_copy ∈ wAll := wAll_in (i := 840) (by decide +kernel) (by decide +kernel)
theorem wse_X5_copy : Cond.selects RX5 yX5_copy yX5_copy ∈ wAll := wAll_in (i := 51) (by decide +kernel) (by decide +kernel)
theorem wc_X5_go : Cond.code yX5_go cX5_go 2 none ∈ wAll := wAll_in (i := 806) (by decide +kernel) (by decide +kernel)
theorem wi_X5_go : Cond.instanceMethod yX5_go ∈ wAll := wAll_in (i := 804) (by decide +kernel) (by decide +kernel)
theorem wse_X5_go : Cond.selects RX5 yX5_go yX5_go ∈ wAll := wAll_in (i := 805) (by decide +kernel) (by decide +kernel)
theorem wc_X5_handOf : Cond.code yX5_handOf cX5_handOf 3 (some .int) ∈ wAll := wAll_in (i := 770) (by decide +kernel) (by decide +kernel)
theorem wi_X5_handOf : Cond.instanceMethod yX5_handOf ∈ wAll := wAll_in (i := 768) (by decide +kernel) (by decide +kernel)
theorem wse_X5_handOf : Cond.selects RX5 yX5_handOf yX5_handOf ∈ wAll := wAll_in (i := 769) (by decide +kernel) (by decide +kernel)
theorem wc_X5_init : Cond.code yX5_init cX5_init 2 none ∈ wAll := wAll_in (i := 625) (by decide +kernel) (by decide +kernel)
theorem wi_X5_init : Cond.instanceMethod yX5_init ∈ wAll := wAll_in (i := 624) (by decide +kernel) (by decide +kernel)
theorem wc_X5_sum : Cond.code yX5_sum cX5_sum 7 (some .int) ∈ wAll := wAll_in (i := 802) (by decide +kernel) (by decide +kernel)
theorem wi_X5_sum : Cond.instanceMethod yX5_sum ∈ wAll := wAll_in (i := 800) (by decide +kernel) (by decide +kernel)
theorem wse_X5_sum : Cond.selects RX5 yX5_sum yX5_sum ∈ wAll := wAll_in (i := 801) (by decide +kernel) (by decide +kernel)
theorem wc_X5_throwFrom : Cond.code yX5_throwFrom cX5_throwFrom 5 none ∈ wAll := wAll_in (i := 814) (by decide +kernel) (by decide +kernel)
theorem wi_X5_throwFrom : Cond.instanceMethod yX5_throwFrom ∈ wAll := wAll_in (i := 813) (by decide +kernel) (by decide +kernel)
theorem wse_X5_throwFrom : Cond.selects RX5 yX5_throwFrom yX5_throwFrom ∈ wAll := wAll_in (i := 49) (by decide +kernel) (by decide +kernel)
theorem wc_X6_advise : Cond.code yX6_advise cX6_advise 10 (some .int) ∈ wAll := wAll_in (i := 856) (by decide +kernel) (by decide +kernel)
theorem wi_X6_advise : Cond.instanceMethod yX6_advise ∈ wAll := wAll_in (i := 854) (by decide +kernel) (by decide +kernel)
theorem wse_X6_advise : Cond.selects RX6 yX6_advise yX6_advise ∈ wAll := wAll_in (i := 855) (by decide +kernel) (by decide +kernel)
theorem wc_X6_asks : Cond.code yX6_asks cX6_asks 4 (some .int) ∈ wAll := wAll_in (i := 786) (by decide +kernel) (by decide +kernel)
theorem wi_X6_asks : Cond.instanceMethod yX6_asks ∈ wAll := wAll_in (i := 784) (by decide +kernel) (by decide +kernel)
theorem wse_X6_asks : Cond.selects RX6 yX6_asks yX6_asks ∈ wAll := wAll_in (i := 785) (by decide +kernel) (by decide +kernel)
theorem wc_X6_beatsOf : Cond.code yX6_beatsOf cX6_beatsOf 2 (some .int) ∈ wAll := wAll_in (i := 817) (by decide +kernel) (by decide +kernel)
theorem wst_X6_beatsOf : Cond.static yX6_beatsOf ∈ wAll := wAll_in (i := 816) (by decide +kernel) (by decide +kernel)
theorem wc_X6_come : Cond.code yX6_come cX6_come 2 (some .int) ∈ wAll := wAll_in (i := 715) (by decide +kernel) (by decide +kernel)
theorem wi_X6_come : Cond.instanceMethod yX6_come ∈ wAll := wAll_in (i := 713) (by decide +kernel) (by decide +kernel)
theorem wse_X6_come : Cond.selects RX6 yX6_come yX6_come ∈ wAll := wAll_in (i := 714) (by decide +kernel) (by decide +kernel)
theorem wc_X6_count : Cond.code yX6_count cX6_count 2 (some .int) ∈ wAll := wAll_in (i := 821) (by decide +kernel) (by decide +kernel)
theorem wi_X6_count : Cond.instanceMethod yX6_count ∈ wAll := wAll_in (i := 819) (by decide +kernel) (by decide +kernel)
theorem wse_X6_count : Cond.selects RX6 yX6_count yX6_count ∈ wAll := wAll_in (i := 820) (by decide +kernel) (by decide +kernel)
theorem wc_X6_counted : Cond.code yX6_counted cX6_counted 3 (some .int) ∈ wAll := wAll_in (i := 825) (by decide +kernel) (by decide +kernel)
theorem wi_X6_counted : Cond.instanceMethod yX6_counted ∈ wAll := wAll_in (i := 824) (by decide +kernel) (by decide +kernel)
theorem wse_X6_counted : Cond.selects RX6 yX6_counted yX6_counted ∈ wAll := wAll_in (i := 50) (by decide +kernel) (by decide +kernel)
theorem wc_X6_digest : Cond.code yX6_digest cX6_digest 5 (some .long) ∈ wAll := wAll_in (i := 864) (by decide +kernel) (by decide +kernel)
theorem wi_X6_digest : Cond.instanceMethod yX6_digest ∈ wAll := wAll_in (i := 862) (by decide +kernel) (by decide +kernel)
theorem wse_X6_digest : Cond.selects RX6 yX6_digest yX6_digest ∈ wAll := wAll_in (i := 863) (by decide +kernel) (by decide +kernel)
theorem wc_X6_falls : Cond.code yX6_falls cX6_falls 3 (some .int) ∈ wAll := wAll_in (i := 833) (by decide +kernel) (by decide +kernel)
theorem wi_X6_falls : Cond.instanceMethod yX6_falls ∈ wAll := wAll_in (i := 831) (by decide +kernel) (by decide +kernel)
theorem wse_X6_falls : Cond.selects RX6 yX6_falls yX6_falls ∈ wAll := wAll_in (i := 832) (by decide +kernel) (by decide +kernel)
theorem wc_X6_fallsIn : Cond.code yX6_fallsIn cX6_fallsIn 3 (some .int) ∈ wAll := wAll_in (i := 852) (by decide +kernel) (by decide +kernel)
theorem wi_X6_fallsIn : Cond.instanceMethod yX6_fallsIn ∈ wAll := wAll_in (i := 851) (by decide +kernel) (by decide +kernel)
theorem wse_X6_fallsIn : Cond.selects RX6 yX6_fallsIn yX6_fallsIn ∈ wAll := wAll_in (i := 52) (by decide +kernel) (by decide +kernel)
theorem wc_X6_foresee : Cond.code yX6_foresee cX6_foresee 4 (some .int) ∈ wAll := wAll_in (i := 848) (by decide +kernel) (by decide +kernel)
theorem wi_X6_foresee : Cond.instanceMethod yX6_foresee ∈ wAll := wAll_in (i := 846) (by decide +kernel) (by decide +kernel)
theorem wse_X6_foresee : Cond.selects RX6 yX6_foresee yX6_foresee ∈ wAll := wAll_in (i := 847) (by decide +kernel) (by decide +kernel)
theorem wc_X6_give : Cond.code yX6_give cX6_give 4 (some .int) ∈ wAll := wAll_in (i := 750) (by decide +kernel) (by decide +kernel)
theorem wi_X6_give : Cond.instanceMethod yX6_give ∈ wAll := wAll_in (i := 748) (by decide +kernel) (by decide +kernel)
theorem wse_X6_give : Cond.selects RX6 yX6_give yX6_give ∈ wAll := wAll_in (i := 749) (by decide +kernel) (by decide +kernel)
theorem wc_X6_go : Cond.code yX6_go cX6_go 4 (some .int) ∈ wAll := wAll_in (i := 798) (by decide +kernel) (by decide +kernel)
theorem wi_X6_go : Cond.instanceMethod yX6_go ∈ wAll := wAll_in (i := 796) (by decide +kernel) (by decide +kernel)
theorem wse_X6_go : Cond.selects RX6 yX6_go yX6_go ∈ wAll := wAll_in (i := 797) (by decide +kernel) (by decide +kernel)
theorem wc_X6_holds : Cond.code yX6_holds cX6_holds 2 (some .int) ∈ wAll := wAll_in (i := 758) (by decide +kernel) (by decide +kernel)
theorem wi_X6_holds : Cond.instanceMethod yX6_holds ∈ wAll := wAll_in (i := 757) (by decide +kernel) (by decide +kernel)
theorem wse_X6_holds : Cond.selects RX6 yX6_holds yX6_holds ∈ wAll := wAll_in (i := 44) (by decide +kernel) (by decide +kernel)
theorem wc_X6_init : Cond.code yX6_init cX6_init 1 none ∈ wAll := wAll_in (i := 619) (by decide +kernel) (by decide +kernel)
theorem wi_X6_init : Cond.instanceMethod yX6_init ∈ wAll := wAll_in (i := 618) (by decide +kernel) (by decide +kernel)
theorem wc_X6_isIn : Cond.code yX6_isIn cX6_isIn 3 (some .boolean) ∈ wAll := wAll_in (i := 718) (by decide +kernel) (by decide +kernel)
theorem wst_X6_isIn : Cond.static yX6_isIn ∈ wAll := wAll_in (i := 717) (by decide +kernel) (by decide +kernel)
theorem wc_X6_isJuggler : Cond.code yX6_isJuggler cX6_isJuggler 2 (some .boolean) ∈ wAll := wAll_in (i := 730) (by decide +kernel) (by decide +kernel)
theorem wi_X6_isJuggler : Cond.instanceMethod yX6_isJuggler ∈ wAll := wAll_in (i := 729) (by decide +kernel) (by decide +kernel)
theorem wse_X6_isJuggler : Cond.selects RX6 yX6_isJuggler yX6_isJuggler ∈ wAll := wAll_in (i := 41) (by decide +kernel) (by decide +kernel)
theorem wc_X6_isPlace : Cond.code yX6_isPlace cX6_isPlace 3 (some .boolean) ∈ wAll := wAll_in (i := 738) (by decide +kernel) (by decide +kernel)
theorem wi_X6_isPlace : Cond.instanceMethod yX6_isPlace ∈ wAll := wAll_in (i := 737) (by decide +kernel) (by decide +kernel)
theorem wse_X6_isPlace : Cond.selects RX6 yX6_isPlace yX6_isPlace ∈ wAll := wAll_in (i := 42) (by decide +kernel) (by decide +kernel)
theorem wc_X6_isThing : Cond.code yX6_isThing cX6_isThing 2 (some .boolean) ∈ wAll := wAll_in (i := 754) (by decide +kernel) (by decide +kernel)
theorem wi_X6_isThing : Cond.instanceMethod yX6_isThing ∈ wAll := wAll_in (i := 753) (by decide +kernel) (by decide +kernel)
theorem wse_X6_isThing : Cond.selects RX6 yX6_isThing yX6_isThing ∈ wAll := wAll_in (i := 43) (by decide +kernel) (by decide +kernel)
theorem wc_X6_isWritten : Cond.code yX6_isWritten cX6_isWritten 5 (some .boolean) ∈ wAll := wAll_in (i := 794) (by decide +kernel) (by decide +kernel)
theorem wi_X6_isWritten : Cond.instanceMethod yX6_isWritten ∈ wAll := wAll_in (i := 793) (by decide +kernel) (by decide +kernel)
theorem wse_X6_isWritten : Cond.selects RX6 yX6_isWritten yX6_isWritten ∈ wAll := wAll_in (i := 47) (by decide +kernel) (by decide +kernel)
theorem wc_X6_juggler : Cond.code yX6_juggler cX6_juggler 3 (some .int) ∈ wAll := wAll_in (i := 774) (by decide +kernel) (by decide +kernel)
theorem wi_X6_juggler : Cond.instanceMethod yX6_juggler ∈ wAll := wAll_in (i := 772) (by decide +kernel) (by decide +kernel)
theorem wse_X6_juggler : Cond.selects RX6 yX6_juggler yX6_juggler ∈ wAll := wAll_in (i := 773) (by decide +kernel) (by decide +kernel)
theorem wc_X6_jugglerTold : Cond.code yX6_jugglerTold cX6_jugglerTold 5 (some .int) ∈ wAll := wAll_in (i := 778) (by decide +kernel) (by decide +kernel)
theorem wi_X6_jugglerTold : Cond.instanceMethod yX6_jugglerTold ∈ wAll := wAll_in (i := 777) (by decide +kernel) (by decide +kernel)
theorem wse_X6_jugglerTold : Cond.selects RX6 yX6_jugglerTold yX6_jugglerTold ∈ wAll := wAll_in (i := 46) (by decide +kernel) (by decide +kernel)
theorem wc_X6_lasts : Cond.code yX6_lasts cX6_lasts 4 (some .boolean) ∈ wAll := wAll_in (i := 782) (by decide +kernel) (by decide +kernel)
theorem wi_X6_lasts : Cond.instanceMethod yX6_lasts ∈ wAll := wAll_in (i := 780) (by decide +kernel) (by decide +kernel)
theorem wse_X6_lasts : Cond.selects RX6 yX6_lasts yX6_lasts ∈ wAll := wAll_in (i := 781) (by decide +kernel) (by decide +kernel)
theorem wc_X6_make : Cond.code yX6_make cX6_make 2 (some .int) ∈ wAll := wAll_in (i := 746) (by decide +kernel) (by decide +kernel)
theorem wi_X6_make : Cond.instanceMethod yX6_make ∈ wAll := wAll_in (i := 744) (by decide +kernel) (by decide +kernel)
theorem wse_X6_make : Cond.selects RX6 yX6_make yX6_make ∈ wAll := wAll_in (i := 745) (by decide +kernel) (by decide +kernel)
theorem wc_X6_mean : Cond.code yX6_mean cX6_mean 1 (some .double) ∈ wAll := wAll_in (i := 860) (by decide +kernel) (by decide +kernel)
theorem wi_X6_mean : Cond.instanceMethod yX6_mean ∈ wAll := wAll_in (i := 858) (by decide +kernel) (by decide +kernel)
theorem wse_X6_mean : Cond.selects RX6 yX6_mean yX6_mean ∈ wAll := wAll_in (i := 859) (by decide +kernel) (by decide +kernel)
theorem wc_X6_no : Cond.code yX6_no cX6_no 2 (some .int) ∈ wAll := wAll_in (i := 722) (by decide +kernel) (by decide +kernel)
theorem wi_X6_no : Cond.instanceMethod yX6_no ∈ wAll := wAll_in (i := 721) (by decide +kernel) (by decide +kernel)
theorem wse_X6_no : Cond.selects RX6 yX6_no yX6_no ∈ wAll := wAll_in (i := 40) (by decide +kernel) (by decide +kernel)
theorem wc_X6_pass : Cond.code yX6_pass cX6_pass 5 (some .int) ∈ wAll := wAll_in (i := 734) (by decide +kernel) (by decide +kernel)
theorem wi_X6_pass : Cond.instanceMethod yX6_pass ∈ wAll := wAll_in (i := 732) (by decide +kernel) (by decide +kernel)
theorem wse_X6_pass : Cond.selects RX6 yX6_pass yX6_pass ∈ wAll := wAll_in (i := 733) (by decide +kernel) (by decide +kernel)
theorem wc_X6_setPattern : Cond.code yX6_setPattern cX6_setPattern 8 (some .int) ∈ wAll := wAll_in (i := 726) (by decide +kernel) (by decide +kernel)
theorem wi_X6_setPattern : Cond.instanceMethod yX6_setPattern ∈ wAll := wAll_in (i := 724) (by decide +kernel) (by decide +kernel)
theorem wse_X6_setPattern : Cond.selects RX6 yX6_setPattern yX6_setPattern ∈ wAll := wAll_in (i := 725) (by decide +kernel) (by decide +kernel)
theorem wc_X6_shortest : Cond.code yX6_shortest cX6_shortest 3 (some .int) ∈ wAll := wAll_in (i := 790) (by decide +kernel) (by decide +kernel)
theorem wi_X6_shortest : Cond.instanceMethod yX6_shortest ∈ wAll := wAll_in (i := 788) (by decide +kernel) (by decide +kernel)
theorem wse_X6_shortest : Cond.selects RX6 yX6_shortest yX6_shortest ∈ wAll := wAll_in (i := 789) (by decide +kernel) (by decide +kernel)
theorem wc_X6_thing : Cond.code yX6_thing cX6_thing 3 (some .int) ∈ wAll := wAll_in (i := 762) (by decide +kernel) (by decide +kernel)
theorem wi_X6_thing : Cond.instanceMethod yX6_thing ∈ wAll := wAll_in (i := 760) (by decide +kernel) (by decide +kernel)
theorem wse_X6_thing : Cond.selects RX6 yX6_thing yX6_thing ∈ wAll := wAll_in (i := 761) (by decide +kernel) (by decide +kernel)
theorem wc_X6_thingTold : Cond.code yX6_thingTold cX6_thingTold 6 (some .int) ∈ wAll := wAll_in (i := 766) (by decide +kernel) (by decide +kernel)
theorem wi_X6_thingTold : Cond.instanceMethod yX6_thingTold ∈ wAll := wAll_in (i := 765) (by decide +kernel) (by decide +kernel)
theorem wse_X6_thingTold : Cond.selects RX6 yX6_thingTold yX6_thingTold ∈ wAll := wAll_in (i := 45) (by decide +kernel) (by decide +kernel)
theorem wc_X6_thrown : Cond.code yX6_thrown cX6_thrown 1 (some .int) ∈ wAll := wAll_in (i := 711) (by decide +kernel) (by decide +kernel)
theorem wi_X6_thrown : Cond.instanceMethod yX6_thrown ∈ wAll := wAll_in (i := 709) (by decide +kernel) (by decide +kernel)
theorem wse_X6_thrown : Cond.selects RX6 yX6_thrown yX6_thrown ∈ wAll := wAll_in (i := 710) (by decide +kernel) (by decide +kernel)
theorem wc_X6_written : Cond.code yX6_written cX6_written 4 (some .int) ∈ wAll := wAll_in (i := 742) (by decide +kernel) (by decide +kernel)
theorem wi_X6_written : Cond.instanceMethod yX6_written ∈ wAll := wAll_in (i := 740) (by decide +kernel) (by decide +kernel)
theorem wse_X6_written : Cond.selects RX6 yX6_written yX6_written ∈ wAll := wAll_in (i := 741) (by decide +kernel) (by decide +kernel)
theorem wcl_X4_7 : Cond.classLink RX4 7 RX2 ∈ wAll := wAll_in (i := 77) (by decide +kernel) (by decide +kernel)
theorem wml_X4_9 : Cond.methodLinkNest RX4 9 yX2_init "HammerEggs" ∈ nestW := nest_in (i := 26) (by decide +kernel) rfl
theorem wf_X4_10 : Cond.fieldLink RX4 10 RX4 "now" "LHammerEggs$Ring;" ∈ wAll := wAll_in (i := 199) (by decide +kernel) (by decide +kernel)
theorem wf_X4_16 : Cond.fieldLink RX4 16 RX4 "trial" "LHammerEggs$Ring;" ∈ wAll := wAll_in (i := 200) (by decide +kernel) (by decide +kernel)
theorem wcl_X4_19 : Cond.classLink RX4 19 "java/lang/IllegalArgumentException" ∈ wAll := wAll_in (i := 334) (by decide +kernel) (by decide +kernel)
theorem wf_X4_26 : Cond.fieldLinkNest RX4 26 RX2 "jugglerCount" "I" "HammerEggs" ∈ nestW := nest_in (i := 130) (by decide +kernel) rfl
theorem wcl_X4_30 : Cond.classLink RX4 30 "java/lang/IllegalStateException" ∈ wAll := wAll_in (i := 402) (by decide +kernel) (by decide +kernel)
theorem wml_X4_35 : Cond.methodLinkNest RX4 35 yX2_addJuggler "HammerEggs" ∈ nestW := nest_in (i := 365) (by decide +kernel) rfl
theorem wm_X4_35 : Wn RX4 35 RX2 yX2_addJuggler cX2_addJuggler 3 (some .int) 1 := ⟨by decide +kernel, ⟨_, wml_X4_35⟩, wi_X2_addJuggler, wse_X2_addJuggler, wini_X2, wc_X2_addJuggler⟩
theorem wml_X4_39 : Cond.methodLink RX4 39 yX4_testJuggler ∈ wAll := wAll_in (i := 434) (by decide +kernel) (by decide +kernel)
theorem wm_X4_39 : Wv RX4 39 RX4 yX4_testJuggler cX4_testJuggler 2 none 1 := ⟨by decide +kernel, wml_X4_39, wi_X4_testJuggler, wse_X4_testJuggler, wini_X4, wc_X4_testJuggler⟩
theorem wml_X4_45 : Cond.methodLink RX4 45 yX4_powerOfTen ∈ wAll := wAll_in (i := 456) (by decide +kernel) (by decide +kernel)
theorem wm_X4_45 : Ws RX4 45 yX4_powerOfTen cX4_powerOfTen 3 (some .int) 1 := ⟨by decide +kernel, wml_X4_45, wst_X4_powerOfTen, wini_X4, wc_X4_powerOfTen⟩
theorem wf_X4_50 : Cond.fieldLinkNest RX4 50 RX2 "jugglers" "[LHammerEggs$Juggler;" "HammerEggs" ∈ nestW := nest_in (i := 126) (by decide +kernel) rfl
theorem wf_X4_54 : Cond.fieldLinkNest RX4 54 RX0 "pattern" "LHammerEggs$Pattern;" "HammerEggs" ∈ nestW := nest_in (i := 61) (by decide +kernel) rfl
theorem wf_X4_60 : Cond.fieldLinkNest RX4 60 RX1 "length" "I" "HammerEggs" ∈ nestW := nest_in (i := 50) (by decide +kernel) rfl
theorem wml_X4_65 : Cond.methodLinkNest RX4 65 yX1_write "HammerEggs" ∈ nestW := nest_in (i := 407) (by decide +kernel) rfl
theorem wm_X4_65 : Wn RX4 65 RX1 yX1_write cX1_write 6 none 3 := ⟨by decide +kernel, ⟨_, wml_X4_65⟩, wi_X1_write, wse_X1_write, wini_X1, wc_X1_write⟩
theorem wml_X4_69 : Cond.methodLink RX4 69 yX4_testPlace ∈ wAll := wAll_in (i := 468) (by decide +kernel) (by decide +kernel)
theorem wm_X4_69 : Wv RX4 69 RX4 yX4_testPlace cX4_testPlace 3 none 2 := ⟨by decide +kernel, wml_X4_69, wi_X4_testPlace, wse_X4_testPlace, wini_X4, wc_X4_testPlace⟩
theorem wf_X4_73 : Cond.fieldLinkNest RX4 73 RX1 "receivers" "[I" "HammerEggs" ∈ nestW := nest_in (i := 47) (by decide +kernel) rfl
theorem wml_X4_77 : Cond.methodLink RX4 77 yX4_testWhat ∈ wAll := wAll_in (i := 480) (by decide +kernel) (by decide +kernel)
theorem wm_X4_77 : Ws RX4 77 yX4_testWhat cX4_testWhat 2 none 2 := ⟨by decide +kernel, wml_X4_77, wst_X4_testWhat, wini_X4, wc_X4_testWhat⟩
theorem wf_X4_80 : Cond.fieldLinkNest RX4 80 RX1 "heights" "[I" "HammerEggs" ∈ nestW := nest_in (i := 44) (by decide +kernel) rfl
theorem wf_X4_85 : Cond.fieldLinkNest RX4 85 RX2 "thingCount" "I" "HammerEggs" ∈ nestW := nest_in (i := 132) (by decide +kernel) rfl
theorem wml_X4_90 : Cond.methodLinkNest RX4 90 yX2_addThing "HammerEggs" ∈ nestW := nest_in (i := 440) (by decide +kernel) rfl
theorem wm_X4_90 : Wn RX4 90 RX2 yX2_addThing cX2_addThing 3 (some .int) 1 := ⟨by decide +kernel, ⟨_, wml_X4_90⟩, wi_X2_addThing, wse_X2_addThing, wini_X2, wc_X2_addThing⟩
theorem wml_X4_93 : Cond.methodLink RX4 93 yX4_testThing ∈ wAll := wAll_in (i := 504) (by decide +kernel) (by decide +kernel)
theorem wm_X4_93 : Wv RX4 93 RX4 yX4_testThing cX4_testThing 2 none 1 := ⟨by decide +kernel, wml_X4_93, wi_X4_testThing, wse_X4_testThing, wini_X4, wc_X4_testThing⟩
theorem wcl_X4_96 : Cond.classLink RX4 96 "java/lang/IndexOutOfBoundsException" ∈ wAll := wAll_in (i := 439) (by decide +kernel) (by decide +kernel)
theorem wf_X4_101 : Cond.fieldLinkNest RX4 101 RX2 "things" "[LHammerEggs$Thing;" "HammerEggs" ∈ nestW := nest_in (i := 128) (by decide +kernel) rfl
theorem wf_X4_105 : Cond.fieldLinkNest RX4 105 RX3 "state" "I" "HammerEggs" ∈ nestW := nest_in (i := 95) (by decide +kernel) rfl
theorem wf_X4_112 : Cond.fieldLinkNest RX4 112 RX0 "hands" "[I" "HammerEggs" ∈ nestW := nest_in (i := 65) (by decide +kernel) rfl
theorem wml_X4_117 : Cond.methodLinkNest RX4 117 yX2_putIntoHand "HammerEggs" ∈ nestW := nest_in (i := 460) (by decide +kernel) rfl
theorem wm_X4_117 : Wn RX4 117 RX2 yX2_putIntoHand cX2_putIntoHand 5 none 3 := ⟨by decide +kernel, ⟨_, wml_X4_117⟩, wi_X2_putIntoHand, wse_X2_putIntoHand, wini_X2, wc_X2_putIntoHand⟩
theorem wml_X4_120 : Cond.methodLinkNest RX4 120 yX0_thingsHeld "HammerEggs" ∈ nestW := nest_in (i := 461) (by decide +kernel) rfl
theorem wm_X4_120 : Wn RX4 120 RX0 yX0_thingsHeld cX0_thingsHeld 3 (some .int) 0 := ⟨by decide +kernel, ⟨_, wml_X4_120⟩, wi_X0_thingsHeld, wse_X0_thingsHeld, wini_X0, wc_X0_thingsHeld⟩
theorem wml_X4_124 : Cond.methodLinkNest RX4 124 yX2_tellThing "HammerEggs" ∈ nestW := nest_in (i := 268) (by decide +kernel) rfl
theorem wm_X4_124 : Wn RX4 124 RX2 yX2_tellThing cX2_tellThing 4 (some .int) 2 := ⟨by decide +kernel, ⟨_, wml_X4_124⟩, wi_X2_tellThing, wse_X2_tellThing, wini_X2, wc_X2_tellThing⟩
theorem wml_X4_128 : Cond.methodLinkNest RX4 128 yX2_tellJuggler "HammerEggs" ∈ nestW := nest_in (i := 255) (by decide +kernel) rfl
theorem wm_X4_128 : Wn RX4 128 RX2 yX2_tellJuggler cX2_tellJuggler 4 (some .int) 2 := ⟨by decide +kernel, ⟨_, wml_X4_128⟩, wi_X2_tellJuggler, wse_X2_tellJuggler, wini_X2, wc_X2_tellJuggler⟩
theorem wml_X4_131 : Cond.methodLinkNest RX4 131 yX1_landsApart "HammerEggs" ∈ nestW := nest_in (i := 486) (by decide +kernel) rfl
theorem wm_X4_131 : Wn RX4 131 RX1 yX1_landsApart cX1_landsApart 4 (some .boolean) 0 := ⟨by decide +kernel, ⟨_, wml_X4_131⟩, wi_X1_landsApart, wse_X1_landsApart, wini_X1, wc_X1_landsApart⟩
theorem wml_X4_135 : Cond.methodLinkNest RX4 135 yX1_ballsAsked "HammerEggs" ∈ nestW := nest_in (i := 497) (by decide +kernel) rfl
theorem wm_X4_135 : Wn RX4 135 RX1 yX1_ballsAsked cX1_ballsAsked 3 (some .int) 0 := ⟨by decide +kernel, ⟨_, wml_X4_135⟩, wi_X1_ballsAsked, wse_X1_ballsAsked, wini_X1, wc_X1_ballsAsked⟩
theorem wml_X4_138 : Cond.methodLinkNest RX4 138 yX1_shortestLength "HammerEggs" ∈ nestW := nest_in (i := 508) (by decide +kernel) rfl
theorem wm_X4_138 : Wn RX4 138 RX1 yX1_shortestLength cX1_shortestLength 2 (some .int) 0 := ⟨by decide +kernel, ⟨_, wml_X4_138⟩, wi_X1_shortestLength, wse_X1_shortestLength, wini_X1, wc_X1_shortestLength⟩
theorem wml_X4_141 : Cond.methodLink RX4 141 yX4_testBeats ∈ wAll := wAll_in (i := 576) (by decide +kernel) (by decide +kernel)
theorem wm_X4_141 : Ws RX4 141 yX4_testBeats cX4_testBeats 2 none 2 := ⟨by decide +kernel, wml_X4_141, wst_X4_testBeats, wini_X4, wc_X4_testBeats⟩
theorem wml_X4_144 : Cond.methodLinkNest RX4 144 yX2_play "HammerEggs" ∈ nestW := nest_in (i := 527) (by decide +kernel) rfl
theorem wm_X4_144 : Wn RX4 144 RX2 yX2_play cX2_play 4 (some .int) 1 := ⟨by decide +kernel, ⟨_, wml_X4_144⟩, wi_X2_play, wse_X2_play, wini_X2, wc_X2_play⟩
theorem wml_X4_147 : Cond.methodLinkNest RX4 147 yX2_tellCount "HammerEggs" ∈ nestW := nest_in (i := 242) (by decide +kernel) rfl
theorem wm_X4_147 : Wn RX4 147 RX2 yX2_tellCount cX2_tellCount 2 (some .int) 1 := ⟨by decide +kernel, ⟨_, wml_X4_147⟩, wi_X2_tellCount, wse_X2_tellCount, wini_X2, wc_X2_tellCount⟩
theorem wml_X4_150 : Cond.methodLinkNest RX4 150 yX2_copyFrom "HammerEggs" ∈ nestW := nest_in (i := 157) (by decide +kernel) rfl
theorem wm_X4_150 : Wn RX4 150 RX2 yX2_copyFrom cX2_copyFrom 3 none 1 := ⟨by decide +kernel, ⟨_, wml_X4_150⟩, wi_X2_copyFrom, wse_X2_copyFrom, wini_X2, wc_X2_copyFrom⟩
theorem wml_X4_154 : Cond.methodLinkNest RX4 154 yX2_playBeat "HammerEggs" ∈ nestW := nest_in (i := 173) (by decide +kernel) rfl
theorem wm_X4_154 : Wn RX4 154 RX2 yX2_playBeat cX2_playBeat 4 (some .int) 0 := ⟨by decide +kernel, ⟨_, wml_X4_154⟩, wi_X2_playBeat, wse_X2_playBeat, wini_X2, wc_X2_playBeat⟩
theorem wml_X4_157 : Cond.methodLinkNest RX4 157 yX2_thingsIn "HammerEggs" ∈ nestW := nest_in (i := 546) (by decide +kernel) rfl
theorem wm_X4_157 : Wn RX4 157 RX2 yX2_thingsIn cX2_thingsIn 4 (some .int) 1 := ⟨by decide +kernel, ⟨_, wml_X4_157⟩, wi_X2_thingsIn, wse_X2_thingsIn, wini_X2, wc_X2_thingsIn⟩
theorem wml_X4_160 : Cond.methodLinkNest RX4 160 yX2_allBruises "HammerEggs" ∈ nestW := nest_in (i := 547) (by decide +kernel) rfl
theorem wm_X4_160 : Wn RX4 160 RX2 yX2_allBruises cX2_allBruises 3 (some .int) 0 := ⟨by decide +kernel, ⟨_, wml_X4_160⟩, wi_X2_allBruises, wse_X2_allBruises, wini_X2, wc_X2_allBruises⟩
theorem wml_X4_163 : Cond.methodLink RX4 163 yX4_fallenWith ∈ wAll := wAll_in (i := 611) (by decide +kernel) (by decide +kernel)
theorem wm_X4_163 : Wv RX4 163 RX4 yX4_fallenWith cX4_fallenWith 5 (some .int) 4 := ⟨by decide +kernel, wml_X4_163, wi_X4_fallenWith, wse_X4_fallenWith, wini_X4, wc_X4_fallenWith⟩
theorem wf_X4_167 : Cond.fieldLinkNest RX4 167 RX2 "beat" "I" "HammerEggs" ∈ nestW := nest_in (i := 134) (by decide +kernel) rfl
theorem wml_X4_170 : Cond.methodLinkNest RX4 170 yX2_allThrown "HammerEggs" ∈ nestW := nest_in (i := 232) (by decide +kernel) rfl
theorem wm_X4_170 : Wn RX4 170 RX2 yX2_allThrown cX2_allThrown 3 (some .int) 0 := ⟨by decide +kernel, ⟨_, wml_X4_170⟩, wi_X2_allThrown, wse_X2_allThrown, wini_X2, wc_X2_allThrown⟩
theorem wk_X4_173 : Cond.constantLong RX4 173 953 ∈ wAll := wAll_in (i := 293) (by decide +kernel) (by decide +kernel)
theorem wk_X4_175 : Cond.constantLong RX4 175 31 ∈ wAll := wAll_in (i := 294) (by decide +kernel) (by decide +kernel)
theorem wml_X4_177 : Cond.methodLinkNest RX4 177 yX1_addTo "HammerEggs" ∈ nestW := nest_in (i := 263) (by decide +kernel) rfl
theorem wm_X4_177 : Wn RX4 177 RX1 yX1_addTo cX1_addTo 6 (some .long) 1 := ⟨by decide +kernel, ⟨_, wml_X4_177⟩, wi_X1_addTo, wse_X1_addTo, wini_X1, wc_X1_addTo⟩
theorem wml_X4_181 : Cond.methodLinkNest RX4 181 yX2_hasJuggler "HammerEggs" ∈ nestW := nest_in (i := 385) (by decide +kernel) rfl
theorem wm_X4_181 : Wn RX4 181 RX2 yX2_hasJuggler cX2_hasJuggler 2 (some .boolean) 1 := ⟨by decide +kernel, ⟨_, wml_X4_181⟩, wi_X2_hasJuggler, wse_X2_hasJuggler, wini_X2, wc_X2_hasJuggler⟩
theorem wml_X4_189 : Cond.methodLinkNest RX4 189 yX2_hasThing "HammerEggs" ∈ nestW := nest_in (i := 455) (by decide +kernel) rfl
theorem wm_X4_189 : Wn RX4 189 RX2 yX2_hasThing cX2_hasThing 2 (some .boolean) 1 := ⟨by decide +kernel, ⟨_, wml_X4_189⟩, wi_X2_hasThing, wse_X2_hasThing, wini_X2, wc_X2_hasThing⟩
theorem wcl_X0_9 : Cond.classLink RX0 9 RX1 ∈ wAll := wAll_in (i := 90) (by decide +kernel) (by decide +kernel)
theorem wml_X0_11 : Cond.methodLinkNest RX0 11 yX1_init "HammerEggs" ∈ nestW := nest_in (i := 39) (by decide +kernel) rfl
theorem wf_X0_12 : Cond.fieldLink RX0 12 RX0 "pattern" "LHammerEggs$Pattern;" ∈ wAll := wAll_in (i := 113) (by decide +kernel) (by decide +kernel)
theorem wf_X0_18 : Cond.fieldLink RX0 18 RX0 "hands" "[I" ∈ wAll := wAll_in (i := 116) (by decide +kernel) (by decide +kernel)
theorem wml_X0_22 : Cond.methodLinkNest RX0 22 yX1_copyFrom "HammerEggs" ∈ nestW := nest_in (i := 165) (by decide +kernel) rfl
theorem wm_X0_22 : Wn RX0 22 RX1 yX1_copyFrom cX1_copyFrom 3 none 1 := ⟨by decide +kernel, ⟨_, wml_X0_22⟩, wi_X1_copyFrom, wse_X1_copyFrom, wini_X1, wc_X1_copyFrom⟩
theorem wf_X0_26 : Cond.fieldLink RX0 26 RX0 "skill" "I" ∈ wAll := wAll_in (i := 119) (by decide +kernel) (by decide +kernel)
theorem wf_X0_30 : Cond.fieldLink RX0 30 RX0 "bruises" "I" ∈ wAll := wAll_in (i := 121) (by decide +kernel) (by decide +kernel)
theorem wf_X0_33 : Cond.fieldLink RX0 33 RX0 "caught" "I" ∈ wAll := wAll_in (i := 123) (by decide +kernel) (by decide +kernel)
theorem wf_X0_36 : Cond.fieldLinkNest RX0 36 RX3 "kind" "I" "HammerEggs" ∈ nestW := nest_in (i := 91) (by decide +kernel) rfl
theorem wml_X0_41 : Cond.methodLinkNest RX0 41 yX3_fall "HammerEggs" ∈ nestW := nest_in (i := 201) (by decide +kernel) rfl
theorem wm_X0_41 : Wn RX0 41 RX3 yX3_fall cX3_fall 1 none 0 := ⟨by decide +kernel, ⟨_, wml_X0_41⟩, wi_X3_fall, wse_X3_fall, wini_X3, wc_X3_fall⟩
theorem wf_X1_9 : Cond.fieldLink RX1 9 RX1 "heights" "[I" ∈ wAll := wAll_in (i := 96) (by decide +kernel) (by decide +kernel)
theorem wf_X1_15 : Cond.fieldLink RX1 15 RX1 "receivers" "[I" ∈ wAll := wAll_in (i := 99) (by decide +kernel) (by decide +kernel)
theorem wf_X1_18 : Cond.fieldLink RX1 18 RX1 "length" "I" ∈ wAll := wAll_in (i := 102) (by decide +kernel) (by decide +kernel)
theorem wml_X1_22 : Cond.methodLink RX1 22 yJ9_floorMod_7cf53 ∈ wAll := wAll_in (i := 266) (by decide +kernel) (by decide +kernel)
theorem wm_X1_22 : Ws RX1 22 yJ9_floorMod_7cf53 cJ9_floorMod_7cf53 3 (some .int) 2 := ⟨by decide +kernel, wml_X1_22, wst_J9_floorMod_7cf53, wini_Math, wc_J9_floorMod_7cf53⟩
theorem wml_X1_28 : Cond.methodLink RX1 28 yX1_repeatsAfter ∈ wAll := wAll_in (i := 565) (by decide +kernel) (by decide +kernel)
theorem wm_X1_28 : Wv RX1 28 RX1 yX1_repeatsAfter cX1_repeatsAfter 4 (some .boolean) 1 := ⟨by decide +kernel, wml_X1_28, wi_X1_repeatsAfter, wse_X1_repeatsAfter, wini_X1, wc_X1_repeatsAfter⟩
theorem wk_X1_32 : Cond.constantLong RX1 32 31 ∈ wAll := wAll_in (i := 320) (by decide +kernel) (by decide +kernel)
theorem wcl_X2_9 : Cond.classLink RX2 9 RX0 ∈ wAll := wAll_in (i := 83) (by decide +kernel) (by decide +kernel)
theorem wf_X2_11 : Cond.fieldLink RX2 11 RX2 "jugglers" "[LHammerEggs$Juggler;" ∈ wAll := wAll_in (i := 178) (by decide +kernel) (by decide +kernel)
theorem wml_X2_17 : Cond.methodLinkNest RX2 17 yX0_init "HammerEggs" ∈ nestW := nest_in (i := 33) (by decide +kernel) rfl
theorem wcl_X2_18 : Cond.classLink RX2 18 RX3 ∈ wAll := wAll_in (i := 136) (by decide +kernel) (by decide +kernel)
theorem wf_X2_20 : Cond.fieldLink RX2 20 RX2 "things" "[LHammerEggs$Thing;" ∈ wAll := wAll_in (i := 180) (by decide +kernel) (by decide +kernel)
theorem wml_X2_24 : Cond.methodLinkNest RX2 24 yX3_init "HammerEggs" ∈ nestW := nest_in (i := 86) (by decide +kernel) rfl
theorem wf_X2_25 : Cond.fieldLink RX2 25 RX2 "jugglerCount" "I" ∈ wAll := wAll_in (i := 182) (by decide +kernel) (by decide +kernel)
theorem wf_X2_29 : Cond.fieldLink RX2 29 RX2 "thingCount" "I" ∈ wAll := wAll_in (i := 184) (by decide +kernel) (by decide +kernel)
theorem wf_X2_32 : Cond.fieldLink RX2 32 RX2 "beat" "I" ∈ wAll := wAll_in (i := 186) (by decide +kernel) (by decide +kernel)
theorem wml_X2_35 : Cond.methodLinkNest RX2 35 yX0_copyFrom "HammerEggs" ∈ nestW := nest_in (i := 161) (by decide +kernel) rfl
theorem wm_X2_35 : Wn RX2 35 RX0 yX0_copyFrom cX0_copyFrom 3 none 1 := ⟨by decide +kernel, ⟨_, wml_X2_35⟩, wi_X0_copyFrom, wse_X0_copyFrom, wini_X0, wc_X0_copyFrom⟩
theorem wml_X2_39 : Cond.methodLinkNest RX2 39 yX3_copyFrom "HammerEggs" ∈ nestW := nest_in (i := 169) (by decide +kernel) rfl
theorem wm_X2_39 : Wn RX2 39 RX3 yX3_copyFrom cX3_copyFrom 2 none 1 := ⟨by decide +kernel, ⟨_, wml_X2_39⟩, wi_X3_copyFrom, wse_X3_copyFrom, wini_X3, wc_X3_copyFrom⟩
theorem wf_X2_42 : Cond.fieldLinkNest RX2 42 RX0 "skill" "I" "HammerEggs" ∈ nestW := nest_in (i := 67) (by decide +kernel) rfl
theorem wf_X2_45 : Cond.fieldLinkNest RX2 45 RX0 "pattern" "LHammerEggs$Pattern;" "HammerEggs" ∈ nestW := nest_in (i := 62) (by decide +kernel) rfl
theorem wml_X2_49 : Cond.methodLinkNest RX2 49 yX1_write "HammerEggs" ∈ nestW := nest_in (i := 369) (by decide +kernel) rfl
theorem wm_X2_49 : Wn RX2 49 RX1 yX1_write cX1_write 6 none 3 := ⟨by decide +kernel, ⟨_, wml_X2_49⟩, wi_X1_write, wse_X1_write, wini_X1, wc_X1_write⟩
theorem wf_X2_55 : Cond.fieldLinkNest RX2 55 RX3 "kind" "I" "HammerEggs" ∈ nestW := nest_in (i := 92) (by decide +kernel) rfl
theorem wf_X2_58 : Cond.fieldLinkNest RX2 58 RX0 "hands" "[I" "HammerEggs" ∈ nestW := nest_in (i := 64) (by decide +kernel) rfl
theorem wf_X2_62 : Cond.fieldLinkNest RX2 62 RX3 "state" "I" "HammerEggs" ∈ nestW := nest_in (i := 94) (by decide +kernel) rfl
theorem wf_X2_65 : Cond.fieldLinkNest RX2 65 RX3 "juggler" "I" "HammerEggs" ∈ nestW := nest_in (i := 97) (by decide +kernel) rfl
theorem wf_X2_68 : Cond.fieldLinkNest RX2 68 RX3 "hand" "I" "HammerEggs" ∈ nestW := nest_in (i := 99) (by decide +kernel) rfl
theorem wml_X2_71 : Cond.methodLink RX2 71 yX2_playBeat ∈ wAll := wAll_in (i := 584) (by decide +kernel) (by decide +kernel)
theorem wm_X2_71 : Wv RX2 71 RX2 yX2_playBeat cX2_playBeat 4 (some .int) 0 := ⟨by decide +kernel, wml_X2_71, wi_X2_playBeat, wse_X2_playBeat, wini_X2, wc_X2_playBeat⟩
theorem wml_X2_75 : Cond.methodLink RX2 75 yX2_comeDown ∈ wAll := wAll_in (i := 230) (by decide +kernel) (by decide +kernel)
theorem wm_X2_75 : Wv RX2 75 RX2 yX2_comeDown cX2_comeDown 6 (some .int) 1 := ⟨by decide +kernel, wml_X2_75, wi_X2_comeDown, wse_X2_comeDown, wini_X2, wc_X2_comeDown⟩
theorem wml_X2_79 : Cond.methodLink RX2 79 yX2_throwFrom ∈ wAll := wAll_in (i := 258) (by decide +kernel) (by decide +kernel)
theorem wm_X2_79 : Wv RX2 79 RX2 yX2_throwFrom cX2_throwFrom 6 none 2 := ⟨by decide +kernel, wml_X2_79, wi_X2_throwFrom, wse_X2_throwFrom, wini_X2, wc_X2_throwFrom⟩
theorem wml_X2_83 : Cond.methodLinkNest RX2 83 yX3_comesDownIn "HammerEggs" ∈ nestW := nest_in (i := 181) (by decide +kernel) rfl
theorem wm_X2_83 : Wn RX2 83 RX3 yX3_comesDownIn cX3_comesDownIn 2 (some .boolean) 1 := ⟨by decide +kernel, ⟨_, wml_X2_83⟩, wi_X3_comesDownIn, wse_X3_comesDownIn, wini_X3, wc_X3_comesDownIn⟩
theorem wml_X2_87 : Cond.methodLink RX2 87 yX2_hasJuggler ∈ wAll := wAll_in (i := 238) (by decide +kernel) (by decide +kernel)
theorem wm_X2_87 : Wv RX2 87 RX2 yX2_hasJuggler cX2_hasJuggler 2 (some .boolean) 1 := ⟨by decide +kernel, wml_X2_87, wi_X2_hasJuggler, wse_X2_hasJuggler, wini_X2, wc_X2_hasJuggler⟩
theorem wf_X2_90 : Cond.fieldLinkNest RX2 90 RX3 "height" "I" "HammerEggs" ∈ nestW := nest_in (i := 103) (by decide +kernel) rfl
theorem wml_X2_93 : Cond.methodLinkNest RX2 93 yX0_canCatch "HammerEggs" ∈ nestW := nest_in (i := 189) (by decide +kernel) rfl
theorem wm_X2_93 : Wn RX2 93 RX0 yX0_canCatch cX0_canCatch 3 (some .boolean) 2 := ⟨by decide +kernel, ⟨_, wml_X2_93⟩, wi_X0_canCatch, wse_X0_canCatch, wini_X0, wc_X0_canCatch⟩
theorem wml_X2_97 : Cond.methodLink RX2 97 yX2_putIntoHand ∈ wAll := wAll_in (i := 246) (by decide +kernel) (by decide +kernel)
theorem wm_X2_97 : Wv RX2 97 RX2 yX2_putIntoHand cX2_putIntoHand 5 none 3 := ⟨by decide +kernel, wml_X2_97, wi_X2_putIntoHand, wse_X2_putIntoHand, wini_X2, wc_X2_putIntoHand⟩
theorem wf_X2_100 : Cond.fieldLinkNest RX2 100 RX0 "caught" "I" "HammerEggs" ∈ nestW := nest_in (i := 71) (by decide +kernel) rfl
theorem wml_X2_103 : Cond.methodLinkNest RX2 103 yX0_miss "HammerEggs" ∈ nestW := nest_in (i := 197) (by decide +kernel) rfl
theorem wm_X2_103 : Wn RX2 103 RX0 yX0_miss cX0_miss 2 none 1 := ⟨by decide +kernel, ⟨_, wml_X2_103⟩, wi_X0_miss, wse_X0_miss, wini_X0, wc_X0_miss⟩
theorem wml_X2_106 : Cond.methodLinkNest RX2 106 yX1_placeIn "HammerEggs" ∈ nestW := nest_in (i := 209) (by decide +kernel) rfl
theorem wm_X2_106 : Wn RX2 106 RX1 yX1_placeIn cX1_placeIn 2 (some .int) 1 := ⟨by decide +kernel, ⟨_, wml_X2_106⟩, wi_X1_placeIn, wse_X1_placeIn, wini_X1, wc_X1_placeIn⟩
theorem wf_X2_109 : Cond.fieldLinkNest RX2 109 RX1 "heights" "[I" "HammerEggs" ∈ nestW := nest_in (i := 45) (by decide +kernel) rfl
theorem wml_X2_112 : Cond.methodLink RX2 112 yX2_hasThing ∈ wAll := wAll_in (i := 269) (by decide +kernel) (by decide +kernel)
theorem wm_X2_112 : Wv RX2 112 RX2 yX2_hasThing cX2_hasThing 2 (some .boolean) 1 := ⟨by decide +kernel, wml_X2_112, wi_X2_hasThing, wse_X2_hasThing, wini_X2, wc_X2_hasThing⟩
theorem wf_X2_115 : Cond.fieldLinkNest RX2 115 RX1 "receivers" "[I" "HammerEggs" ∈ nestW := nest_in (i := 48) (by decide +kernel) rfl
theorem wml_X2_118 : Cond.methodLinkNest RX2 118 yX3_fly "HammerEggs" ∈ nestW := nest_in (i := 220) (by decide +kernel) rfl
theorem wm_X2_118 : Wn RX2 118 RX3 yX3_fly cX3_fly 4 none 3 := ⟨by decide +kernel, ⟨_, wml_X2_118⟩, wi_X3_fly, wse_X3_fly, wini_X3, wc_X3_fly⟩
theorem wf_X2_121 : Cond.fieldLinkNest RX2 121 RX3 "thrown" "I" "HammerEggs" ∈ nestW := nest_in (i := 105) (by decide +kernel) rfl
theorem wf_X2_124 : Cond.fieldLinkNest RX2 124 RX3 "fell" "I" "HammerEggs" ∈ nestW := nest_in (i := 107) (by decide +kernel) rfl
theorem wf_X2_127 : Cond.fieldLinkNest RX2 127 RX0 "bruises" "I" "HammerEggs" ∈ nestW := nest_in (i := 69) (by decide +kernel) rfl
theorem wf_X2_130 : Cond.fieldLinkNest RX2 130 RX3 "due" "I" "HammerEggs" ∈ nestW := nest_in (i := 101) (by decide +kernel) rfl
theorem wf_X2_133 : Cond.fieldLinkNest RX2 133 RX1 "length" "I" "HammerEggs" ∈ nestW := nest_in (i := 51) (by decide +kernel) rfl
theorem wml_X2_136 : Cond.methodLink RX2 136 yX2_thingsFlyingTo ∈ wAll := wAll_in (i := 312) (by decide +kernel) (by decide +kernel)
theorem wm_X2_136 : Wv RX2 136 RX2 yX2_thingsFlyingTo cX2_thingsFlyingTo 4 (some .int) 1 := ⟨by decide +kernel, wml_X2_136, wi_X2_thingsFlyingTo, wse_X2_thingsFlyingTo, wini_X2, wc_X2_thingsFlyingTo⟩
theorem wml_X2_139 : Cond.methodLink RX2 139 yX2_thingsIn ∈ wAll := wAll_in (i := 299) (by decide +kernel) (by decide +kernel)
theorem wm_X2_139 : Wv RX2 139 RX2 yX2_thingsIn cX2_thingsIn 4 (some .int) 1 := ⟨by decide +kernel, wml_X2_139, wi_X2_thingsIn, wse_X2_thingsIn, wini_X2, wc_X2_thingsIn⟩
theorem wml_X2_142 : Cond.methodLink RX2 142 yX2_allFell ∈ wAll := wAll_in (i := 303) (by decide +kernel) (by decide +kernel)
theorem wm_X2_142 : Wv RX2 142 RX2 yX2_allFell cX2_allFell 3 (some .int) 0 := ⟨by decide +kernel, wml_X2_142, wi_X2_allFell, wse_X2_allFell, wini_X2, wc_X2_allFell⟩
theorem wml_X2_145 : Cond.methodLink RX2 145 yX2_allThrown ∈ wAll := wAll_in (i := 307) (by decide +kernel) (by decide +kernel)
theorem wm_X2_145 : Wv RX2 145 RX2 yX2_allThrown cX2_allThrown 3 (some .int) 0 := ⟨by decide +kernel, wml_X2_145, wi_X2_allThrown, wse_X2_allThrown, wini_X2, wc_X2_allThrown⟩
theorem wf_X3_9 : Cond.fieldLink RX3 9 RX3 "state" "I" ∈ wAll := wAll_in (i := 146) (by decide +kernel) (by decide +kernel)
theorem wf_X3_15 : Cond.fieldLink RX3 15 RX3 "juggler" "I" ∈ wAll := wAll_in (i := 149) (by decide +kernel) (by decide +kernel)
theorem wf_X3_18 : Cond.fieldLink RX3 18 RX3 "hand" "I" ∈ wAll := wAll_in (i := 151) (by decide +kernel) (by decide +kernel)
theorem wf_X3_21 : Cond.fieldLink RX3 21 RX3 "kind" "I" ∈ wAll := wAll_in (i := 143) (by decide +kernel) (by decide +kernel)
theorem wf_X3_24 : Cond.fieldLink RX3 24 RX3 "due" "I" ∈ wAll := wAll_in (i := 153) (by decide +kernel) (by decide +kernel)
theorem wf_X3_27 : Cond.fieldLink RX3 27 RX3 "height" "I" ∈ wAll := wAll_in (i := 155) (by decide +kernel) (by decide +kernel)
theorem wf_X3_30 : Cond.fieldLink RX3 30 RX3 "thrown" "I" ∈ wAll := wAll_in (i := 157) (by decide +kernel) (by decide +kernel)
theorem wf_X3_33 : Cond.fieldLink RX3 33 RX3 "fell" "I" ∈ wAll := wAll_in (i := 159) (by decide +kernel) (by decide +kernel)
theorem wml_X3_36 : Cond.methodLink RX3 36 yX3_beatsInAir ∈ wAll := wAll_in (i := 277) (by decide +kernel) (by decide +kernel)
theorem wm_X3_36 : Wv RX3 36 RX3 yX3_beatsInAir cX3_beatsInAir 2 (some .int) 1 := ⟨by decide +kernel, wml_X3_36, wi_X3_beatsInAir, wse_X3_beatsInAir, wini_X3, wc_X3_beatsInAir⟩
theorem wml_L_7 : Cond.methodLink RL 7 yX4_come ∈ wAll := wAll_in (i := 330) (by decide +kernel) (by decide +kernel)
theorem wm_L_7 : Wv RL 7 RX4 yX4_come cX4_come 2 (some .int) 1 := ⟨by decide +kernel, wml_L_7, wi_X4_come, wse_X4_come, wini_X4, wc_X4_come⟩
theorem wcl_L_8 : Cond.classLink RL 8 RX4 ∈ wAll := wAll_in (i := 69) (by decide +kernel) (by decide +kernel)
theorem wml_L_17 : Cond.methodLink RL 17 yX4_setPattern ∈ wAll := wAll_in (i := 430) (by decide +kernel) (by decide +kernel)
theorem wm_L_17 : Wv RL 17 RX4 yX4_setPattern cX4_setPattern 6 (some .int) 3 := ⟨by decide +kernel, wml_L_17, wi_X4_setPattern, wse_X4_setPattern, wini_X4, wc_X4_setPattern⟩
theorem wml_L_23 : Cond.methodLink RL 23 yX4_pass ∈ wAll := wAll_in (i := 464) (by decide +kernel) (by decide +kernel)
theorem wm_L_23 : Wv RL 23 RX4 yX4_pass cX4_pass 6 (some .int) 3 := ⟨by decide +kernel, wml_L_23, wi_X4_pass, wse_X4_pass, wini_X4, wc_X4_pass⟩
theorem wml_L_26 : Cond.methodLink RL 26 yX4_written ∈ wAll := wAll_in (i := 476) (by decide +kernel) (by decide +kernel)
theorem wm_L_26 : Wv RL 26 RX4 yX4_written cX4_written 5 (some .int) 3 := ⟨by decide +kernel, wml_L_26, wi_X4_written, wse_X4_written, wini_X4, wc_X4_written⟩
theorem wml_L_29 : Cond.methodLink RL 29 yX4_make ∈ wAll := wAll_in (i := 487) (by decide +kernel) (by decide +kernel)
theorem wm_L_29 : Wv RL 29 RX4 yX4_make cX4_make 2 (some .int) 1 := ⟨by decide +kernel, wml_L_29, wi_X4_make, wse_X4_make, wini_X4, wc_X4_make⟩
theorem wml_L_32 : Cond.methodLink RL 32 yX4_give ∈ wAll := wAll_in (i := 500) (by decide +kernel) (by decide +kernel)
theorem wm_L_32 : Wv RL 32 RX4 yX4_give cX4_give 4 (some .int) 3 := ⟨by decide +kernel, wml_L_32, wi_X4_give, wse_X4_give, wini_X4, wc_X4_give⟩
theorem wml_L_35 : Cond.methodLink RL 35 yX4_thing ∈ wAll := wAll_in (i := 521) (by decide +kernel) (by decide +kernel)
theorem wm_L_35 : Wv RL 35 RX4 yX4_thing cX4_thing 3 (some .int) 2 := ⟨by decide +kernel, wml_L_35, wi_X4_thing, wse_X4_thing, wini_X4, wc_X4_thing⟩
theorem wml_L_39 : Cond.methodLink RL 39 yX4_juggler ∈ wAll := wAll_in (i := 528) (by decide +kernel) (by decide +kernel)
theorem wm_L_39 : Wv RL 39 RX4 yX4_juggler cX4_juggler 3 (some .int) 2 := ⟨by decide +kernel, wml_L_39, wi_X4_juggler, wse_X4_juggler, wini_X4, wc_X4_juggler⟩
theorem wml_L_42 : Cond.methodLink RL 42 yX4_lasts ∈ wAll := wAll_in (i := 535) (by decide +kernel) (by decide +kernel)
theorem wm_L_42 : Wv RL 42 RX4 yX4_lasts cX4_lasts 2 (some .boolean) 1 := ⟨by decide +kernel, wml_L_42, wi_X4_lasts, wse_X4_lasts, wini_X4, wc_X4_lasts⟩
theorem wml_L_46 : Cond.methodLink RL 46 yX4_asks ∈ wAll := wAll_in (i := 546) (by decide +kernel) (by decide +kernel)
theorem wm_L_46 : Wv RL 46 RX4 yX4_asks cX4_asks 2 (some .int) 1 := ⟨by decide +kernel, wml_L_46, wi_X4_asks, wse_X4_asks, wini_X4, wc_X4_asks⟩
theorem wml_L_49 : Cond.methodLink RL 49 yX4_shortest ∈ wAll := wAll_in (i := 557) (by decide +kernel) (by decide +kernel)
theorem wm_L_49 : Wv RL 49 RX4 yX4_shortest cX4_shortest 2 (some .int) 1 := ⟨by decide +kernel, wml_L_49, wi_X4_shortest, wse_X4_shortest, wini_X4, wc_X4_shortest⟩
theorem wml_L_52 : Cond.methodLink RL 52 yX4_go ∈ wAll := wAll_in (i := 572) (by decide +kernel) (by decide +kernel)
theorem wm_L_52 : Wv RL 52 RX4 yX4_go cX4_go 2 (some .int) 1 := ⟨by decide +kernel, wml_L_52, wi_X4_go, wse_X4_go, wini_X4, wc_X4_go⟩
theorem wml_L_55 : Cond.methodLink RL 55 yX4_count ∈ wAll := wAll_in (i := 588) (by decide +kernel) (by decide +kernel)
theorem wm_L_55 : Wv RL 55 RX4 yX4_count cX4_count 2 (some .int) 1 := ⟨by decide +kernel, wml_L_55, wi_X4_count, wse_X4_count, wini_X4, wc_X4_count⟩
theorem wml_L_58 : Cond.methodLink RL 58 yX4_foresee ∈ wAll := wAll_in (i := 595) (by decide +kernel) (by decide +kernel)
theorem wm_L_58 : Wv RL 58 RX4 yX4_foresee cX4_foresee 4 (some .int) 2 := ⟨by decide +kernel, wml_L_58, wi_X4_foresee, wse_X4_foresee, wini_X4, wc_X4_foresee⟩
theorem wml_L_61 : Cond.methodLink RL 61 yX4_advise ∈ wAll := wAll_in (i := 607) (by decide +kernel) (by decide +kernel)
theorem wm_L_61 : Wv RL 61 RX4 yX4_advise cX4_advise 9 (some .int) 2 := ⟨by decide +kernel, wml_L_61, wi_X4_advise, wse_X4_advise, wini_X4, wc_X4_advise⟩
theorem wml_L_64 : Cond.methodLink RL 64 yX4_init ∈ wAll := wAll_in (i := 71) (by decide +kernel) (by decide +kernel)
theorem wcl_L_65 : Cond.classLink RL 65 RX6 ∈ wAll := wAll_in (i := 615) (by decide +kernel) (by decide +kernel)
theorem wml_L_67 : Cond.methodLink RL 67 yX6_init ∈ wAll := wAll_in (i := 617) (by decide +kernel) (by decide +kernel)
theorem wml_L_68 : Cond.methodLink RL 68 yL_come ∈ wAll := wAll_in (i := 325) (by decide +kernel) (by decide +kernel)
theorem wml_L_73 : Cond.methodLink RL 73 yX6_come ∈ wAll := wAll_in (i := 712) (by decide +kernel) (by decide +kernel)
theorem wm_L_73 : Wv RL 73 RX6 yX6_come cX6_come 2 (some .int) 1 := ⟨by decide +kernel, wml_L_73, wi_X6_come, wse_X6_come, wini_X6, wc_X6_come⟩
theorem wml_L_74 : Cond.methodLink RL 74 yX6_thrown ∈ wAll := wAll_in (i := 708) (by decide +kernel) (by decide +kernel)
theorem wm_L_74 : Wv RL 74 RX6 yX6_thrown cX6_thrown 1 (some .int) 0 := ⟨by decide +kernel, wml_L_74, wi_X6_thrown, wse_X6_thrown, wini_X6, wc_X6_thrown⟩
theorem wml_L_78 : Cond.methodLink RL 78 yL_setPattern ∈ wAll := wAll_in (i := 426) (by decide +kernel) (by decide +kernel)
theorem wml_L_81 : Cond.methodLink RL 81 yX6_setPattern ∈ wAll := wAll_in (i := 723) (by decide +kernel) (by decide +kernel)
theorem wm_L_81 : Wv RL 81 RX6 yX6_setPattern cX6_setPattern 8 (some .int) 3 := ⟨by decide +kernel, wml_L_81, wi_X6_setPattern, wse_X6_setPattern, wini_X6, wc_X6_setPattern⟩
theorem wml_L_82 : Cond.methodLink RL 82 yL_pass ∈ wAll := wAll_in (i := 461) (by decide +kernel) (by decide +kernel)
theorem wml_L_84 : Cond.methodLink RL 84 yX6_pass ∈ wAll := wAll_in (i := 731) (by decide +kernel) (by decide +kernel)
theorem wm_L_84 : Wv RL 84 RX6 yX6_pass cX6_pass 5 (some .int) 3 := ⟨by decide +kernel, wml_L_84, wi_X6_pass, wse_X6_pass, wini_X6, wc_X6_pass⟩
theorem wml_L_85 : Cond.methodLink RL 85 yL_written ∈ wAll := wAll_in (i := 473) (by decide +kernel) (by decide +kernel)
theorem wml_L_87 : Cond.methodLink RL 87 yX6_written ∈ wAll := wAll_in (i := 739) (by decide +kernel) (by decide +kernel)
theorem wm_L_87 : Wv RL 87 RX6 yX6_written cX6_written 4 (some .int) 3 := ⟨by decide +kernel, wml_L_87, wi_X6_written, wse_X6_written, wini_X6, wc_X6_written⟩
theorem wml_L_88 : Cond.methodLink RL 88 yL_make ∈ wAll := wAll_in (i := 484) (by decide +kernel) (by decide +kernel)
theorem wml_L_90 : Cond.methodLink RL 90 yX6_make ∈ wAll := wAll_in (i := 743) (by decide +kernel) (by decide +kernel)
theorem wm_L_90 : Wv RL 90 RX6 yX6_make cX6_make 2 (some .int) 1 := ⟨by decide +kernel, wml_L_90, wi_X6_make, wse_X6_make, wini_X6, wc_X6_make⟩
theorem wml_L_91 : Cond.methodLink RL 91 yL_give ∈ wAll := wAll_in (i := 497) (by decide +kernel) (by decide +kernel)
theorem wml_L_93 : Cond.methodLink RL 93 yX6_give ∈ wAll := wAll_in (i := 747) (by decide +kernel) (by decide +kernel)
theorem wm_L_93 : Wv RL 93 RX6 yX6_give cX6_give 4 (some .int) 3 := ⟨by decide +kernel, wml_L_93, wi_X6_give, wse_X6_give, wini_X6, wc_X6_give⟩
theorem wml_L_94 : Cond.methodLink RL 94 yL_thing ∈ wAll := wAll_in (i := 518) (by decide +kernel) (by decide +kernel)
theorem wml_L_97 : Cond.methodLink RL 97 yX6_thing ∈ wAll := wAll_in (i := 759) (by decide +kernel) (by decide +kernel)
theorem wm_L_97 : Wv RL 97 RX6 yX6_thing cX6_thing 3 (some .int) 2 := ⟨by decide +kernel, wml_L_97, wi_X6_thing, wse_X6_thing, wini_X6, wc_X6_thing⟩
theorem wml_L_98 : Cond.methodLink RL 98 yL_juggler ∈ wAll := wAll_in (i := 525) (by decide +kernel) (by decide +kernel)
theorem wml_L_100 : Cond.methodLink RL 100 yX6_juggler ∈ wAll := wAll_in (i := 771) (by decide +kernel) (by decide +kernel)
theorem wm_L_100 : Wv RL 100 RX6 yX6_juggler cX6_juggler 3 (some .int) 2 := ⟨by decide +kernel, wml_L_100, wi_X6_juggler, wse_X6_juggler, wini_X6, wc_X6_juggler⟩
theorem wml_L_101 : Cond.methodLink RL 101 yL_lasts ∈ wAll := wAll_in (i := 532) (by decide +kernel) (by decide +kernel)
theorem wml_L_103 : Cond.methodLink RL 103 yX6_lasts ∈ wAll := wAll_in (i := 779) (by decide +kernel) (by decide +kernel)
theorem wm_L_103 : Wv RL 103 RX6 yX6_lasts cX6_lasts 4 (some .boolean) 1 := ⟨by decide +kernel, wml_L_103, wi_X6_lasts, wse_X6_lasts, wini_X6, wc_X6_lasts⟩
theorem wml_L_104 : Cond.methodLink RL 104 yL_asks ∈ wAll := wAll_in (i := 543) (by decide +kernel) (by decide +kernel)
theorem wml_L_106 : Cond.methodLink RL 106 yX6_asks ∈ wAll := wAll_in (i := 783) (by decide +kernel) (by decide +kernel)
theorem wm_L_106 : Wv RL 106 RX6 yX6_asks cX6_asks 4 (some .int) 1 := ⟨by decide +kernel, wml_L_106, wi_X6_asks, wse_X6_asks, wini_X6, wc_X6_asks⟩
theorem wml_L_107 : Cond.methodLink RL 107 yL_shortest ∈ wAll := wAll_in (i := 554) (by decide +kernel) (by decide +kernel)
theorem wml_L_109 : Cond.methodLink RL 109 yX6_shortest ∈ wAll := wAll_in (i := 787) (by decide +kernel) (by decide +kernel)
theorem wm_L_109 : Wv RL 109 RX6 yX6_shortest cX6_shortest 3 (some .int) 1 := ⟨by decide +kernel, wml_L_109, wi_X6_shortest, wse_X6_shortest, wini_X6, wc_X6_shortest⟩
theorem wml_L_110 : Cond.methodLink RL 110 yL_go ∈ wAll := wAll_in (i := 569) (by decide +kernel) (by decide +kernel)
theorem wml_L_112 : Cond.methodLink RL 112 yX6_go ∈ wAll := wAll_in (i := 795) (by decide +kernel) (by decide +kernel)
theorem wm_L_112 : Wv RL 112 RX6 yX6_go cX6_go 4 (some .int) 1 := ⟨by decide +kernel, wml_L_112, wi_X6_go, wse_X6_go, wini_X6, wc_X6_go⟩
theorem wml_L_113 : Cond.methodLink RL 113 yL_count ∈ wAll := wAll_in (i := 585) (by decide +kernel) (by decide +kernel)
theorem wml_L_115 : Cond.methodLink RL 115 yX6_count ∈ wAll := wAll_in (i := 818) (by decide +kernel) (by decide +kernel)
theorem wm_L_115 : Wv RL 115 RX6 yX6_count cX6_count 2 (some .int) 1 := ⟨by decide +kernel, wml_L_115, wi_X6_count, wse_X6_count, wini_X6, wc_X6_count⟩
theorem wml_L_116 : Cond.methodLink RL 116 yX4_falls ∈ wAll := wAll_in (i := 206) (by decide +kernel) (by decide +kernel)
theorem wm_L_116 : Wv RL 116 RX4 yX4_falls cX4_falls 2 (some .int) 0 := ⟨by decide +kernel, wml_L_116, wi_X4_falls, wse_X4_falls, wini_X4, wc_X4_falls⟩
theorem wml_L_119 : Cond.methodLink RL 119 yX6_falls ∈ wAll := wAll_in (i := 830) (by decide +kernel) (by decide +kernel)
theorem wm_L_119 : Wv RL 119 RX6 yX6_falls cX6_falls 3 (some .int) 0 := ⟨by decide +kernel, wml_L_119, wi_X6_falls, wse_X6_falls, wini_X6, wc_X6_falls⟩
theorem wml_L_120 : Cond.methodLink RL 120 yL_foresee ∈ wAll := wAll_in (i := 592) (by decide +kernel) (by decide +kernel)
theorem wml_L_122 : Cond.methodLink RL 122 yX6_foresee ∈ wAll := wAll_in (i := 845) (by decide +kernel) (by decide +kernel)
theorem wm_L_122 : Wv RL 122 RX6 yX6_foresee cX6_foresee 4 (some .int) 2 := ⟨by decide +kernel, wml_L_122, wi_X6_foresee, wse_X6_foresee, wini_X6, wc_X6_foresee⟩
theorem wml_L_123 : Cond.methodLink RL 123 yL_advise ∈ wAll := wAll_in (i := 604) (by decide +kernel) (by decide +kernel)
theorem wml_L_125 : Cond.methodLink RL 125 yX6_advise ∈ wAll := wAll_in (i := 853) (by decide +kernel) (by decide +kernel)
theorem wm_L_125 : Wv RL 125 RX6 yX6_advise cX6_advise 10 (some .int) 2 := ⟨by decide +kernel, wml_L_125, wi_X6_advise, wse_X6_advise, wini_X6, wc_X6_advise⟩
theorem wml_L_126 : Cond.methodLink RL 126 yX4_mean ∈ wAll := wAll_in (i := 281) (by decide +kernel) (by decide +kernel)
theorem wm_L_126 : Wv RL 126 RX4 yX4_mean cX4_mean 1 (some .double) 0 := ⟨by decide +kernel, wml_L_126, wi_X4_mean, wse_X4_mean, wini_X4, wc_X4_mean⟩
theorem wml_L_130 : Cond.methodLink RL 130 yX6_mean ∈ wAll := wAll_in (i := 857) (by decide +kernel) (by decide +kernel)
theorem wm_L_130 : Wv RL 130 RX6 yX6_mean cX6_mean 1 (some .double) 0 := ⟨by decide +kernel, wml_L_130, wi_X6_mean, wse_X6_mean, wini_X6, wc_X6_mean⟩
theorem wml_L_131 : Cond.methodLink RL 131 yX4_digest ∈ wAll := wAll_in (i := 289) (by decide +kernel) (by decide +kernel)
theorem wm_L_131 : Wv RL 131 RX4 yX4_digest cX4_digest 5 (some .long) 0 := ⟨by decide +kernel, wml_L_131, wi_X4_digest, wse_X4_digest, wini_X4, wc_X4_digest⟩
theorem wml_L_135 : Cond.methodLink RL 135 yX6_digest ∈ wAll := wAll_in (i := 861) (by decide +kernel) (by decide +kernel)
theorem wm_L_135 : Wv RL 135 RX6 yX6_digest cX6_digest 5 (some .long) 0 := ⟨by decide +kernel, wml_L_135, wi_X6_digest, wse_X6_digest, wini_X6, wc_X6_digest⟩
theorem wf_X6_9 : Cond.fieldLink RX6 9 RX6 "skill" "[I" ∈ wAll := wAll_in (i := 675) (by decide +kernel) (by decide +kernel)
theorem wf_X6_13 : Cond.fieldLink RX6 13 RX6 "length" "[I" ∈ wAll := wAll_in (i := 677) (by decide +kernel) (by decide +kernel)
theorem wf_X6_16 : Cond.fieldLink RX6 16 RX6 "height" "[I" ∈ wAll := wAll_in (i := 679) (by decide +kernel) (by decide +kernel)
theorem wf_X6_19 : Cond.fieldLink RX6 19 RX6 "to" "[I" ∈ wAll := wAll_in (i := 681) (by decide +kernel) (by decide +kernel)
theorem wf_X6_22 : Cond.fieldLink RX6 22 RX6 "kind" "[I" ∈ wAll := wAll_in (i := 683) (by decide +kernel) (by decide +kernel)
theorem wcl_X6_25 : Cond.classLink RX6 25 RX5 ∈ wAll := wAll_in (i := 621) (by decide +kernel) (by decide +kernel)
theorem wml_X6_27 : Cond.methodLinkNest RX6 27 yX5_init "HammerEggsModel" ∈ nestW := nest_in (i := 570) (by decide +kernel) rfl
theorem wf_X6_30 : Cond.fieldLink RX6 30 RX6 "s" "LHammerEggsModel$State;" ∈ wAll := wAll_in (i := 685) (by decide +kernel) (by decide +kernel)
theorem wf_X6_34 : Cond.fieldLink RX6 34 RX6 "ahead" "LHammerEggsModel$State;" ∈ wAll := wAll_in (i := 686) (by decide +kernel) (by decide +kernel)
theorem wf_X6_37 : Cond.fieldLink RX6 37 RX6 "thrown" "I" ∈ wAll := wAll_in (i := 670) (by decide +kernel) (by decide +kernel)
theorem wf_X6_41 : Cond.fieldLink RX6 41 RX6 "jugglers" "I" ∈ wAll := wAll_in (i := 671) (by decide +kernel) (by decide +kernel)
theorem wml_X6_44 : Cond.methodLink RX6 44 yX6_isIn ∈ wAll := wAll_in (i := 716) (by decide +kernel) (by decide +kernel)
theorem wm_X6_44 : Ws RX6 44 yX6_isIn cX6_isIn 3 (some .boolean) 3 := ⟨by decide +kernel, wml_X6_44, wst_X6_isIn, wini_X6, wc_X6_isIn⟩
theorem wf_X6_48 : Cond.fieldLink RX6 48 RX6 "things" "I" ∈ wAll := wAll_in (i := 673) (by decide +kernel) (by decide +kernel)
theorem wml_X6_51 : Cond.methodLink RX6 51 yX6_isJuggler ∈ wAll := wAll_in (i := 727) (by decide +kernel) (by decide +kernel)
theorem wm_X6_51 : Wv RX6 51 RX6 yX6_isJuggler cX6_isJuggler 2 (some .boolean) 1 := ⟨by decide +kernel, wml_X6_51, wi_X6_isJuggler, wse_X6_isJuggler, wini_X6, wc_X6_isJuggler⟩
theorem wml_X6_55 : Cond.methodLink RX6 55 yX6_no ∈ wAll := wAll_in (i := 719) (by decide +kernel) (by decide +kernel)
theorem wm_X6_55 : Wv RX6 55 RX6 yX6_no cX6_no 2 (some .int) 1 := ⟨by decide +kernel, wml_X6_55, wi_X6_no, wse_X6_no, wini_X6, wc_X6_no⟩
theorem wml_X6_59 : Cond.methodLink RX6 59 yX6_isPlace ∈ wAll := wAll_in (i := 735) (by decide +kernel) (by decide +kernel)
theorem wm_X6_59 : Wv RX6 59 RX6 yX6_isPlace cX6_isPlace 3 (some .boolean) 2 := ⟨by decide +kernel, wml_X6_59, wi_X6_isPlace, wse_X6_isPlace, wini_X6, wc_X6_isPlace⟩
theorem wf_X6_63 : Cond.fieldLinkNest RX6 63 RX5 "held" "[I" "HammerEggsModel" ∈ nestW := nest_in (i := 581) (by decide +kernel) rfl
theorem wml_X6_66 : Cond.methodLink RX6 66 yX6_isThing ∈ wAll := wAll_in (i := 751) (by decide +kernel) (by decide +kernel)
theorem wm_X6_66 : Wv RX6 66 RX6 yX6_isThing cX6_isThing 2 (some .boolean) 1 := ⟨by decide +kernel, wml_X6_66, wi_X6_isThing, wse_X6_isThing, wini_X6, wc_X6_isThing⟩
theorem wf_X6_69 : Cond.fieldLinkNest RX6 69 RX5 "where" "[I" "HammerEggsModel" ∈ nestW := nest_in (i := 583) (by decide +kernel) rfl
theorem wml_X6_72 : Cond.methodLink RX6 72 yX6_holds ∈ wAll := wAll_in (i := 755) (by decide +kernel) (by decide +kernel)
theorem wm_X6_72 : Wv RX6 72 RX6 yX6_holds cX6_holds 2 (some .int) 1 := ⟨by decide +kernel, wml_X6_72, wi_X6_holds, wse_X6_holds, wini_X6, wc_X6_holds⟩
theorem wml_X6_75 : Cond.methodLink RX6 75 yX5_handOf ∈ wAll := wAll_in (i := 767) (by decide +kernel) (by decide +kernel)
theorem wm_X6_75 : Wv RX6 75 RX5 yX5_handOf cX5_handOf 3 (some .int) 1 := ⟨by decide +kernel, wml_X6_75, wi_X5_handOf, wse_X5_handOf, wini_X5, wc_X5_handOf⟩
theorem wf_X6_78 : Cond.fieldLinkNest RX6 78 RX5 "whose" "[I" "HammerEggsModel" ∈ nestW := nest_in (i := 585) (by decide +kernel) rfl
theorem wf_X6_81 : Cond.fieldLinkNest RX6 81 RX5 "down" "[I" "HammerEggsModel" ∈ nestW := nest_in (i := 587) (by decide +kernel) rfl
theorem wf_X6_84 : Cond.fieldLinkNest RX6 84 RX5 "beat" "I" "HammerEggsModel" ∈ nestW := nest_in (i := 575) (by decide +kernel) rfl
theorem wf_X6_87 : Cond.fieldLinkNest RX6 87 RX5 "throwsOf" "[I" "HammerEggsModel" ∈ nestW := nest_in (i := 590) (by decide +kernel) rfl
theorem wf_X6_90 : Cond.fieldLinkNest RX6 90 RX5 "fallsOf" "[I" "HammerEggsModel" ∈ nestW := nest_in (i := 592) (by decide +kernel) rfl
theorem wml_X6_93 : Cond.methodLink RX6 93 yX6_thingTold ∈ wAll := wAll_in (i := 763) (by decide +kernel) (by decide +kernel)
theorem wm_X6_93 : Wv RX6 93 RX6 yX6_thingTold cX6_thingTold 6 (some .int) 2 := ⟨by decide +kernel, wml_X6_93, wi_X6_thingTold, wse_X6_thingTold, wini_X6, wc_X6_thingTold⟩
theorem wf_X6_97 : Cond.fieldLinkNest RX6 97 RX5 "bruises" "[I" "HammerEggsModel" ∈ nestW := nest_in (i := 577) (by decide +kernel) rfl
theorem wf_X6_100 : Cond.fieldLinkNest RX6 100 RX5 "caught" "[I" "HammerEggsModel" ∈ nestW := nest_in (i := 579) (by decide +kernel) rfl
theorem wml_X6_103 : Cond.methodLink RX6 103 yX6_jugglerTold ∈ wAll := wAll_in (i := 775) (by decide +kernel) (by decide +kernel)
theorem wm_X6_103 : Wv RX6 103 RX6 yX6_jugglerTold cX6_jugglerTold 5 (some .int) 2 := ⟨by decide +kernel, wml_X6_103, wi_X6_jugglerTold, wse_X6_jugglerTold, wini_X6, wc_X6_jugglerTold⟩
theorem wml_X6_106 : Cond.methodLink RX6 106 yX6_isWritten ∈ wAll := wAll_in (i := 791) (by decide +kernel) (by decide +kernel)
theorem wm_X6_106 : Wv RX6 106 RX6 yX6_isWritten cX6_isWritten 5 (some .boolean) 2 := ⟨by decide +kernel, wml_X6_106, wi_X6_isWritten, wse_X6_isWritten, wini_X6, wc_X6_isWritten⟩
theorem wml_X6_109 : Cond.methodLink RX6 109 yX5_sum ∈ wAll := wAll_in (i := 799) (by decide +kernel) (by decide +kernel)
theorem wm_X6_109 : Wv RX6 109 RX5 yX5_sum cX5_sum 7 (some .int) 1 := ⟨by decide +kernel, wml_X6_109, wi_X5_sum, wse_X5_sum, wini_X5, wc_X5_sum⟩
theorem wml_X6_113 : Cond.methodLink RX6 113 yX5_go ∈ wAll := wAll_in (i := 803) (by decide +kernel) (by decide +kernel)
theorem wm_X6_113 : Wv RX6 113 RX5 yX5_go cX5_go 2 none 0 := ⟨by decide +kernel, wml_X6_113, wi_X5_go, wse_X5_go, wini_X5, wc_X5_go⟩
theorem wml_X6_116 : Cond.methodLink RX6 116 yX5_are ∈ wAll := wAll_in (i := 826) (by decide +kernel) (by decide +kernel)
theorem wm_X6_116 : Wv RX6 116 RX5 yX5_are cX5_are 4 (some .int) 1 := ⟨by decide +kernel, wml_X6_116, wi_X5_are, wse_X5_are, wini_X5, wc_X5_are⟩
theorem wml_X6_119 : Cond.methodLink RX6 119 yX6_counted ∈ wAll := wAll_in (i := 822) (by decide +kernel) (by decide +kernel)
theorem wm_X6_119 : Wv RX6 119 RX6 yX6_counted cX6_counted 3 (some .int) 1 := ⟨by decide +kernel, wml_X6_119, wi_X6_counted, wse_X6_counted, wini_X6, wc_X6_counted⟩
theorem wml_X6_122 : Cond.methodLink RX6 122 yX5_become ∈ wAll := wAll_in (i := 834) (by decide +kernel) (by decide +kernel)
theorem wm_X6_122 : Wv RX6 122 RX5 yX5_become cX5_become 2 none 1 := ⟨by decide +kernel, wml_X6_122, wi_X5_become, wse_X5_become, wini_X5, wc_X5_become⟩
theorem wml_X6_126 : Cond.methodLink RX6 126 yX6_fallsIn ∈ wAll := wAll_in (i := 849) (by decide +kernel) (by decide +kernel)
theorem wm_X6_126 : Wv RX6 126 RX6 yX6_fallsIn cX6_fallsIn 3 (some .int) 1 := ⟨by decide +kernel, wml_X6_126, wi_X6_fallsIn, wse_X6_fallsIn, wini_X6, wc_X6_fallsIn⟩
theorem wk_X6_129 : Cond.constantLong RX6 129 953 ∈ wAll := wAll_in (i := 865) (by decide +kernel) (by decide +kernel)
theorem wk_X6_131 : Cond.constantLong RX6 131 31 ∈ wAll := wAll_in (i := 866) (by decide +kernel) (by decide +kernel)
theorem wf_X5_3 : Cond.fieldLink RX5 3 RX5 "this$0" "LHammerEggsModel;" ∈ wAll := wAll_in (i := 646) (by decide +kernel) (by decide +kernel)
theorem wf_X5_15 : Cond.fieldLink RX5 15 RX5 "bruises" "[I" ∈ wAll := wAll_in (i := 629) (by decide +kernel) (by decide +kernel)
theorem wf_X5_19 : Cond.fieldLink RX5 19 RX5 "caught" "[I" ∈ wAll := wAll_in (i := 631) (by decide +kernel) (by decide +kernel)
theorem wf_X5_22 : Cond.fieldLink RX5 22 RX5 "held" "[I" ∈ wAll := wAll_in (i := 633) (by decide +kernel) (by decide +kernel)
theorem wf_X5_25 : Cond.fieldLink RX5 25 RX5 "where" "[I" ∈ wAll := wAll_in (i := 635) (by decide +kernel) (by decide +kernel)
theorem wf_X5_28 : Cond.fieldLink RX5 28 RX5 "whose" "[I" ∈ wAll := wAll_in (i := 637) (by decide +kernel) (by decide +kernel)
theorem wf_X5_31 : Cond.fieldLink RX5 31 RX5 "down" "[I" ∈ wAll := wAll_in (i := 639) (by decide +kernel) (by decide +kernel)
theorem wf_X5_34 : Cond.fieldLink RX5 34 RX5 "high" "[I" ∈ wAll := wAll_in (i := 641) (by decide +kernel) (by decide +kernel)
theorem wf_X5_37 : Cond.fieldLink RX5 37 RX5 "throwsOf" "[I" ∈ wAll := wAll_in (i := 642) (by decide +kernel) (by decide +kernel)
theorem wf_X5_40 : Cond.fieldLink RX5 40 RX5 "fallsOf" "[I" ∈ wAll := wAll_in (i := 644) (by decide +kernel) (by decide +kernel)
theorem wf_X5_49 : Cond.fieldLink RX5 49 RX5 "beat" "I" ∈ wAll := wAll_in (i := 627) (by decide +kernel) (by decide +kernel)
theorem wml_X5_53 : Cond.methodLink RX5 53 yX5_copy ∈ wAll := wAll_in (i := 838) (by decide +kernel) (by decide +kernel)
theorem wm_X5_53 : Wv RX5 53 RX5 yX5_copy cX5_copy 3 none 2 := ⟨by decide +kernel, wml_X5_53, wi_X5_copy, wse_X5_copy, wini_X5, wc_X5_copy⟩
theorem wf_X5_57 : Cond.fieldLinkNest RX5 57 RX6 "skill" "[I" "HammerEggsModel" ∈ nestW := nest_in (i := 623) (by decide +kernel) rfl
theorem wf_X5_60 : Cond.fieldLinkNest RX5 60 RX6 "kind" "[I" "HammerEggsModel" ∈ nestW := nest_in (i := 631) (by decide +kernel) rfl
theorem wf_X5_63 : Cond.fieldLinkNest RX5 63 RX6 "length" "[I" "HammerEggsModel" ∈ nestW := nest_in (i := 625) (by decide +kernel) rfl
theorem wf_X5_66 : Cond.fieldLinkNest RX5 66 RX6 "height" "[I" "HammerEggsModel" ∈ nestW := nest_in (i := 627) (by decide +kernel) rfl
theorem wf_X5_69 : Cond.fieldLinkNest RX5 69 RX6 "to" "[I" "HammerEggsModel" ∈ nestW := nest_in (i := 629) (by decide +kernel) rfl
theorem wml_X5_72 : Cond.methodLinkNest RX5 72 yX6_beatsOf "HammerEggsModel" ∈ nestW := nest_in (i := 762) (by decide +kernel) rfl
theorem wf_X5_76 : Cond.fieldLinkNest RX5 76 RX6 "things" "I" "HammerEggsModel" ∈ nestW := nest_in (i := 621) (by decide +kernel) rfl
theorem wml_X5_79 : Cond.methodLink RX5 79 yX5_comeDown ∈ wAll := wAll_in (i := 807) (by decide +kernel) (by decide +kernel)
theorem wm_X5_79 : Wv RX5 79 RX5 yX5_comeDown cX5_comeDown 4 none 1 := ⟨by decide +kernel, wml_X5_79, wi_X5_comeDown, wse_X5_comeDown, wini_X5, wc_X5_comeDown⟩
theorem wf_X5_83 : Cond.fieldLinkNest RX5 83 RX6 "jugglers" "I" "HammerEggsModel" ∈ nestW := nest_in (i := 619) (by decide +kernel) rfl
theorem wml_X5_86 : Cond.methodLink RX5 86 yX5_throwFrom ∈ wAll := wAll_in (i := 811) (by decide +kernel) (by decide +kernel)
theorem wm_X5_86 : Wv RX5 86 RX5 yX5_throwFrom cX5_throwFrom 5 none 1 := ⟨by decide +kernel, wml_X5_86, wi_X5_throwFrom, wse_X5_throwFrom, wini_X5, wc_X5_throwFrom⟩
theorem wit_X4 : Cond.instantiable RX4 2 ∈ wAll := wAll_in (i := 70) (by decide +kernel) (by decide +kernel)
theorem wit_X2 : Cond.instantiable RX2 5 ∈ wAll := wAll_in (i := 78) (by decide +kernel) (by decide +kernel)
theorem wit_X0 : Cond.instantiable RX0 5 ∈ wAll := wAll_in (i := 85) (by decide +kernel) (by decide +kernel)
theorem wit_X1 : Cond.instantiable RX1 3 ∈ wAll := wAll_in (i := 91) (by decide +kernel) (by decide +kernel)
theorem wit_X3 : Cond.instantiable RX3 8 ∈ wAll := wAll_in (i := 138) (by decide +kernel) (by decide +kernel)
theorem wit_X5 : Cond.instantiable RX5 11 ∈ wAll := wAll_in (i := 622) (by decide +kernel) (by decide +kernel)
theorem wit_X6 : Cond.instantiable RX6 10 ∈ wAll := wAll_in (i := 616) (by decide +kernel) (by decide +kernel)
