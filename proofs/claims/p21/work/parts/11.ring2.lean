/-! ===== contracts of a ring ===== -/
abbrev rm_X2_hasJuggler : Room := { frames := 0, cells := 0, slots := 0, locals := 0 }
abbrev rm_X2_hasThing : Room := { frames := 0, cells := 0, slots := 0, locals := 0 }
abbrev rm_X2_putIntoHand : Room := { frames := 0, cells := 0, slots := 0, locals := 0 }
abbrev rm_X2_addThing : Room := { frames := 0, cells := 0, slots := 0, locals := 0 }
abbrev rm_X2_addJuggler : Room := { frames := 1, cells := 0, slots := 0, locals := 25 }
abbrev rm_X2_thingsIn : Room := { frames := 0, cells := 0, slots := 0, locals := 0 }
abbrev rm_X2_thingsFlyingTo : Room := { frames := 0, cells := 0, slots := 0, locals := 0 }
abbrev rm_X2_allThrown : Room := { frames := 0, cells := 0, slots := 0, locals := 0 }
abbrev rm_X2_allFell : Room := { frames := 0, cells := 0, slots := 0, locals := 0 }
abbrev rm_X2_allBruises : Room := { frames := 0, cells := 0, slots := 0, locals := 0 }
abbrev rm_X2_comeDown : Room := { frames := 2, cells := 0, slots := 0, locals := 41 }
abbrev rm_X2_throwFrom : Room := { frames := 2, cells := 0, slots := 0, locals := 44 }
abbrev rm_X2_playBeat : Room := { frames := 3, cells := 0, slots := 0, locals := 69 }
abbrev rm_X2_play : Room := { frames := 4, cells := 0, slots := 0, locals := 92 }
abbrev rm_X2_tellThing : Room := { frames := 0, cells := 0, slots := 0, locals := 0 }
abbrev rm_X2_tellJuggler : Room := { frames := 1, cells := 0, slots := 0, locals := 23 }
abbrev rm_X2_tellCount : Room := { frames := 1, cells := 0, slots := 0, locals := 23 }
abbrev rm_X2_copyFrom : Room := { frames := 2, cells := 0, slots := 0, locals := 44 }
set_option maxHeartbeats 4000000 in
set_option maxRecDepth 100000 in
theorem c_X2_hasJuggler {X : Cx} {l : Launch} (G : Gx X l) {M : Mem} {lf : Lf} {r : Nat} (hr0 : r < 2) {σ : Sg} (x : Int32) : CI X l yX2_hasJuggler (wsc yX2_hasJuggler cX2_hasJuggler 2 (some .boolean)) rm_X2_hasJuggler [.ref (X.2.1 r 0 0), .int x] (uC M r σ) lf (fHasJ σ x) (uC M r σ) lf 0 0 := by
  refine CI_of (lv := [(0, .ref _), (1, .int _)]) G (by decide) (Nat.le_of_ble_eq_true rfl) rfl (fun p e s m args below meth c F hr => ?_)
  have F : Fx p l s m args meth c cX2_hasJuggler 2 RX2 X := F
  refine v_iload_n F dX2_hasJuggler_0 rfl 1 rfl ?_
  refine v_if_lt F (tgt := 16) dX2_hasJuggler_1 (by decide) (fun c1 => ?_) (fun c1 => ?_)
  · have := c1
    refine v_iconst F (v := 0) dX2_hasJuggler_16 (by decide) ?_
    refine v_zret F hr dX2_hasJuggler_17 rfl ?_ rfl rfl
    simp_all [fHasJ]
  · have := c1
    refine v_iload_n F dX2_hasJuggler_4 rfl 1 rfl ?_
    refine v_aload_n F dX2_hasJuggler_5 rfl 0 rfl ?_
    refine v_get F (id_R hr0 (by decide) (by decide)) (heR hr0) rfl uw_X2 2 (by decide) rfl rfl wf_X2_25 dX2_hasJuggler_6 ?_
    refine v_icmp_ge F (tgt := 16) dX2_hasJuggler_9 (by decide) (fun c9 => ?_) (fun c9 => ?_)
    · have := c9
      refine v_iconst F (v := 0) dX2_hasJuggler_16 (by decide) ?_
      refine v_zret F hr dX2_hasJuggler_17 rfl ?_ rfl rfl
      simp_all [fHasJ]
    · have := c9
      refine v_iconst F (v := 1) dX2_hasJuggler_12 (by decide) ?_
      refine v_goto F (tgt := 17) dX2_hasJuggler_13 (by decide) ?_
      refine v_zret F hr dX2_hasJuggler_17 rfl ?_ rfl rfl
      simp_all [fHasJ]
set_option maxHeartbeats 4000000 in
set_option maxRecDepth 100000 in
theorem c_X2_hasThing {X : Cx} {l : Launch} (G : Gx X l) {M : Mem} {lf : Lf} {r : Nat} (hr0 : r < 2) {σ : Sg} (x : Int32) : CI X l yX2_hasThing (wsc yX2_hasThing cX2_hasThing 2 (some .boolean)) rm_X2_hasThing [.ref (X.2.1 r 0 0), .int x] (uC M r σ) lf (fHasT σ x) (uC M r σ) lf 0 0 := by
  refine CI_of (lv := [(0, .ref _), (1, .int _)]) G (by decide) (Nat.le_of_ble_eq_true rfl) rfl (fun p e s m args below meth c F hr => ?_)
  have F : Fx p l s m args meth c cX2_hasThing 2 RX2 X := F
  refine v_iload_n F dX2_hasThing_0 rfl 1 rfl ?_
  refine v_if_lt F (tgt := 16) dX2_hasThing_1 (by decide) (fun c1 => ?_) (fun c1 => ?_)
  · have := c1
    refine v_iconst F (v := 0) dX2_hasThing_16 (by decide) ?_
    refine v_zret F hr dX2_hasThing_17 rfl ?_ rfl rfl
    simp_all [fHasT]
  · have := c1
    refine v_iload_n F dX2_hasThing_4 rfl 1 rfl ?_
    refine v_aload_n F dX2_hasThing_5 rfl 0 rfl ?_
    refine v_get F (id_R hr0 (by decide) (by decide)) (heR hr0) rfl uw_X2 3 (by decide) rfl rfl wf_X2_29 dX2_hasThing_6 ?_
    refine v_icmp_ge F (tgt := 16) dX2_hasThing_9 (by decide) (fun c9 => ?_) (fun c9 => ?_)
    · have := c9
      refine v_iconst F (v := 0) dX2_hasThing_16 (by decide) ?_
      refine v_zret F hr dX2_hasThing_17 rfl ?_ rfl rfl
      simp_all [fHasT]
    · have := c9
      refine v_iconst F (v := 1) dX2_hasThing_12 (by decide) ?_
      refine v_goto F (tgt := 17) dX2_hasThing_13 (by decide) ?_
      refine v_zret F hr dX2_hasThing_17 rfl ?_ rfl rfl
      simp_all [fHasT]
set_option maxHeartbeats 4000000 in
set_option maxRecDepth 100000 in
theorem c_X2_putIntoHand {X : Cx} {l : Launch} (G : Gx X l) {M : Mem} {lf : Lf} {r : Nat} (hr0 : r < 2) {σ : Sg} {k : Nat} (hk : k < 12) (to : Int32) {j : Nat} (hx : Ix to j 4) {hd : Nat} (hh : hd < 2) : CV X l yX2_putIntoHand (wsc yX2_putIntoHand cX2_putIntoHand 5 none) rm_X2_putIntoHand [.ref (X.2.1 r 0 0), .int (nI k), .int to, .int (nI hd)] (uC M r σ) lf (uC M r (fPut σ k to j hd)) lf 0 0 := by
  refine CV_of (lv := [(0, .ref _), (1, .int _), (2, .int _), (3, .int _)]) G (by decide) (Nat.le_of_ble_eq_true rfl) rfl (fun p e s m args below meth c F hr => ?_)
  have F : Fx p l s m args meth c cX2_putIntoHand 5 RX2 X := F
  refine v_aload_n F dX2_putIntoHand_0 rfl 0 rfl ?_
  refine v_get F (id_R hr0 (by decide) (by decide)) (heR hr0) rfl uw_X2 0 (by decide) rfl rfl wf_X2_11 dX2_putIntoHand_1 ?_
  refine v_iload_n F dX2_putIntoHand_4 rfl 2 rfl ?_
  refine v_aaldJ F hr0 (j) hx dX2_putIntoHand_5 ?_
  refine v_getN F (id_R hr0 (by decide) hx.2.2) (heR hr0) rfl uw_X0 1 (by decide) rfl rfl wf_X2_58 dX2_putIntoHand_6 ?_
  refine v_iload_n F dX2_putIntoHand_9 rfl 3 rfl ?_
  refine v_iload_n F dX2_putIntoHand_10 rfl 1 rfl ?_
  refine v_iastC F (id_R hr0 (by decide) hx.2.2) (celD_R hr0) rfl (hd) (Ix_nI hh) (celD_R hr0) dX2_putIntoHand_11 ?_
  refine v_aload_n F dX2_putIntoHand_12 rfl 0 rfl ?_
  refine v_get F (id_R hr0 (by decide) (by decide)) (heR hr0) rfl uw_X2 1 (by decide) rfl rfl wf_X2_20 dX2_putIntoHand_13 ?_
  refine v_iload_n F dX2_putIntoHand_16 rfl 1 rfl ?_
  refine v_aaldT F hr0 (k) (Ix_nI hk) dX2_putIntoHand_17 ?_
  refine v_astore F dX2_putIntoHand_18 (by decide) (lv' := [(4, .ref _), (0, .ref _), (1, .int _), (2, .int _), (3, .int _)]) rfl ?_
  refine v_aload F dX2_putIntoHand_20 0 rfl ?_
  refine v_iconst F (v := 1) dX2_putIntoHand_22 (by decide) ?_
  refine v_putNC F tyX3 tyX3_ok nmX3 (id_R hr0 (by decide) hk) (celD_R hr0) rfl uw_X3 1 (by decide) rfl rfl (by decide +kernel) (celD_R hr0) (Nat.le_of_ble_eq_true rfl) wf_X2_62 dX2_putIntoHand_23 ?_
  refine v_aload F dX2_putIntoHand_26 0 rfl ?_
  refine v_iload_n F dX2_putIntoHand_28 rfl 3 rfl ?_
  refine v_putNC F tyX3 tyX3_ok nmX3 (id_R hr0 (by decide) hk) (celD_R hr0) rfl uw_X3 2 (by decide) rfl rfl (by decide +kernel) (celD_R hr0) (Nat.le_of_ble_eq_true rfl) wf_X2_65 dX2_putIntoHand_29 ?_
  refine v_aload F dX2_putIntoHand_32 0 rfl ?_
  refine v_iload_n F dX2_putIntoHand_34 rfl 4 rfl ?_
  refine v_putNC F tyX3 tyX3_ok nmX3 (id_R hr0 (by decide) hk) (celD_R hr0) rfl uw_X3 3 (by decide) rfl rfl (by decide +kernel) (celD_R hr0) (Nat.le_of_ble_eq_true rfl) wf_X2_68 dX2_putIntoHand_35 ?_
  exact v_vret F hr dX2_putIntoHand_38 rfl rfl
set_option maxHeartbeats 4000000 in
set_option maxRecDepth 100000 in
theorem c_X2_addThing {X : Cx} {l : Launch} (G : Gx X l) {M : Mem} {lf : Lf} {r : Nat} (hr0 : r < 2) {σ : Sg} {k : Nat} (hk : k < 12) (hσ : σ 0 0 3 = nI k) (x : Int32) : CI X l yX2_addThing (wsc yX2_addThing cX2_addThing 3 (some .int)) rm_X2_addThing [.ref (X.2.1 r 0 0), .int x] (uC M r σ) lf (nI k) (uC M r (fAddT σ k x)) lf 0 0 := by
  refine CI_of (lv := [(0, .ref _), (1, .int _)]) G (by decide) (Nat.le_of_ble_eq_true rfl) rfl (fun p e s m args below meth c F hr => ?_)
  have F : Fx p l s m args meth c cX2_addThing 3 RX2 X := F
  refine v_aload_n F dX2_addThing_0 rfl 0 rfl ?_
  refine v_get F (id_R hr0 (by decide) (by decide)) (heR hr0) rfl uw_X2 3 (by decide) rfl rfl wf_X2_29 dX2_addThing_1 ?_
  refine v_topr (nI k) hσ ?_
  refine v_istore_n F dX2_addThing_4 rfl (by decide) (lv' := [(2, .int _), (0, .ref _), (1, .int _)]) rfl ?_
  refine v_aload_n F dX2_addThing_5 rfl 1 rfl ?_
  refine v_get F (id_R hr0 (by decide) (by decide)) (heR hr0) rfl uw_X2 1 (by decide) rfl rfl wf_X2_20 dX2_addThing_6 ?_
  refine v_iload_n F dX2_addThing_9 rfl 0 rfl ?_
  refine v_aaldT F hr0 (k) (Ix_nI hk) dX2_addThing_10 ?_
  refine v_iload_n F dX2_addThing_11 rfl 2 rfl ?_
  refine v_putNC F tyX3 tyX3_ok nmX3 (id_R hr0 (by decide) hk) (celD_R hr0) rfl uw_X3 0 (by decide) rfl rfl (by decide +kernel) (celD_R hr0) (Nat.le_of_ble_eq_true rfl) wf_X2_55 dX2_addThing_12 ?_
  refine v_aload_n F dX2_addThing_15 rfl 1 rfl ?_
  refine v_dup F dX2_addThing_16 rfl ?_
  refine v_get F (id_R hr0 (by decide) (by decide)) (heR hr0) rfl uw_X2 3 (by decide) rfl rfl wf_X2_29 dX2_addThing_17 ?_
  refine v_topr (nI k) (by rw [u3_ne (by omega)]; exact hσ) ?_
  refine v_iconst F (v := 1) dX2_addThing_20 (by decide) ?_
  refine v_iadd F dX2_addThing_21 ?_
  refine v_putC F tyX2 tyX2_ok nmX2 (id_R hr0 (by decide) (by decide)) (celD_R hr0) rfl uw_X2 3 (by decide) rfl rfl (by decide +kernel) (celD_R hr0) (Nat.le_of_ble_eq_true rfl) wf_X2_29 dX2_addThing_22 ?_
  refine v_iload_n F dX2_addThing_25 rfl 0 rfl ?_
  exact v_iret F hr dX2_addThing_26 rfl rfl rfl
set_option maxHeartbeats 4000000 in
set_option maxRecDepth 100000 in
theorem c_X2_addJuggler {X : Cx} {l : Launch} (G : Gx X l) {M : Mem} {lf : Lf} {r : Nat} (hr0 : r < 2) {σ : Sg} {j : Nat} (hj : j < 4) (hσ : σ 0 0 2 = nI j) (x : Int32) : CI X l yX2_addJuggler (wsc yX2_addJuggler cX2_addJuggler 3 (some .int)) rm_X2_addJuggler [.ref (X.2.1 r 0 0), .int x] (uC M r σ) lf (nI j) (uC M r (fAddJ σ j x)) lf 0 0 := by
  refine CI_of (lv := [(0, .ref _), (1, .int _)]) G (by decide) (Nat.le_of_ble_eq_true rfl) rfl (fun p e s m args below meth c F hr => ?_)
  have F : Fx p l s m args meth c cX2_addJuggler 3 RX2 X := F
  refine v_aload_n F dX2_addJuggler_0 rfl 0 rfl ?_
  refine v_get F (id_R hr0 (by decide) (by decide)) (heR hr0) rfl uw_X2 2 (by decide) rfl rfl wf_X2_25 dX2_addJuggler_1 ?_
  refine v_topr (nI j) hσ ?_
  refine v_istore_n F dX2_addJuggler_4 rfl (by decide) (lv' := [(2, .int _), (0, .ref _), (1, .int _)]) rfl ?_
  refine v_aload_n F dX2_addJuggler_5 rfl 1 rfl ?_
  refine v_get F (id_R hr0 (by decide) (by decide)) (heR hr0) rfl uw_X2 0 (by decide) rfl rfl wf_X2_11 dX2_addJuggler_6 ?_
  refine v_iload_n F dX2_addJuggler_9 rfl 0 rfl ?_
  refine v_aaldJ F hr0 (j) (Ix_nI hj) dX2_addJuggler_10 ?_
  refine v_iload_n F dX2_addJuggler_11 rfl 2 rfl ?_
  refine v_putNC F tyX0 tyX0_ok nmX0 (id_R hr0 (by decide) hj) (celD_R hr0) rfl uw_X0 2 (by decide) rfl rfl (by decide +kernel) (celD_R hr0) (Nat.le_of_ble_eq_true rfl) wf_X2_42 dX2_addJuggler_12 ?_
  refine v_aload_n F dX2_addJuggler_15 rfl 1 rfl ?_
  refine v_get F (id_R hr0 (by decide) (by decide)) (heR hr0) rfl uw_X2 0 (by decide) rfl rfl wf_X2_11 dX2_addJuggler_16 ?_
  refine v_iload_n F dX2_addJuggler_19 rfl 0 rfl ?_
  refine v_aaldJ F hr0 (j) (Ix_nI hj) dX2_addJuggler_20 ?_
  refine v_getN F (id_R hr0 (by decide) hj) (heR hr0) rfl uw_X0 0 (by decide) rfl rfl wf_X2_45 dX2_addJuggler_21 ?_
  refine v_iload_n F dX2_addJuggler_24 rfl 0 rfl ?_
  refine v_iconst F (v := nI 1) dX2_addJuggler_25 (by decide) ?_
  refine v_iconst F (v := 0) dX2_addJuggler_26 (by decide) ?_
  refine v_callNv F (As := [_, _, _]) (rest := []) rfl (c_X1_write G hr0 hj (nI j) 0 (Nat.le_refl 1) (by decide)) (Rv_P hr0 hj) wm_X2_49 rfl ⟨rfl, rfl, Nat.le_of_ble_eq_true rfl, Nat.le_of_ble_eq_true rfl, Nat.le_of_ble_eq_true rfl, Nat.le_of_ble_eq_true rfl, Nat.le_of_ble_eq_true rfl⟩ dX2_addJuggler_27 ?_
  refine v_gen (fun τ1 h1 => ?_)
  refine v_aload_n F dX2_addJuggler_30 rfl 1 rfl ?_
  refine v_dup F dX2_addJuggler_31 rfl ?_
  refine v_get F (id_R hr0 (by decide) (by decide)) (heR hr0) rfl uw_X2 2 (by decide) rfl rfl wf_X2_25 dX2_addJuggler_32 ?_
  refine v_topr (nI j) (by rw [h1, fWrite_k (by decide) (by decide) (by decide), u3_ne (by omega)]; exact hσ) ?_
  refine v_iconst F (v := 1) dX2_addJuggler_35 (by decide) ?_
  refine v_iadd F dX2_addJuggler_36 ?_
  refine v_putC F tyX2 tyX2_ok nmX2 (id_R hr0 (by decide) (by decide)) (celD_R hr0) rfl uw_X2 2 (by decide) rfl rfl (by decide +kernel) (celD_R hr0) (Nat.le_of_ble_eq_true rfl) wf_X2_25 dX2_addJuggler_37 ?_
  refine v_iload_n F dX2_addJuggler_40 rfl 0 rfl ?_
  refine v_iret F hr dX2_addJuggler_41 rfl ?_ rfl
  rw [h1]
  rfl
section RR
variable {p : Program} {l : Launch} {e : Env} {R : Room} {s : State} {m : MethodId} {args : Array Value} {below : List Frame} {meth : Method} {c : Code} {Q : State → Prop} {X : Cx} {nL : Nat} {ex : va_W} {M : Mem} {lf : Lf} {cells slots : Nat}
set_option maxHeartbeats 4000000 in
set_option maxRecDepth 100000 in
theorem L_X2_allThrown (F : Fx p l s m args meth c cX2_allThrown 3 RX2 X) {r : Nat} (hr0 : r < 2) {σ : Sg} {jc tc : Nat} {ln : Nat → Nat} (hS : Shp σ jc tc ln) (hb : tc ≤ 12) (K : V p l e R s m args below meth c Q X 3 ex (uC M r σ) lf cells slots 30 [(2, .int (nI tc)), (1, .int (sI (fun k => σ 8 k 6) tc)), (0, .ref (X.2.1 r 0 0))] []) : ∀ (k q : Nat), k + q = tc → V p l e R s m args below meth c Q X 3 ex (uC M r σ) lf cells slots 4 [(2, .int (nI q)), (1, .int (sI (fun k => σ 8 k 6) q)), (0, .ref (X.2.1 r 0 0))] [] := by
  intro k
  induction k with
  | zero =>
    intro q hq
    obtain rfl : q = tc := by omega
    refine v_iload_n F dX2_allThrown_4 rfl 0 rfl ?_
    refine v_aload_n F dX2_allThrown_5 rfl 2 rfl ?_
    refine v_get F (id_R hr0 (by decide) (by decide)) (heR hr0) rfl uw_X2 3 (by decide) rfl rfl wf_X2_29 dX2_allThrown_6 ?_
    refine v_topr (nI q) hS.2.2.2.1 ?_
    refine v_icmp_ge F (tgt := 30) dX2_allThrown_9 (by decide) (fun c9 => ?_) (fun h => absurd (nI_le (Nat.le_refl _) (by omega)) h)
    exact K
  | succ k ih =>
    intro q hq
    refine v_iload_n F dX2_allThrown_4 rfl 0 rfl ?_
    refine v_aload_n F dX2_allThrown_5 rfl 2 rfl ?_
    refine v_get F (id_R hr0 (by decide) (by decide)) (heR hr0) rfl uw_X2 3 (by decide) rfl rfl wf_X2_29 dX2_allThrown_6 ?_
    refine v_topr (nI tc) hS.2.2.2.1 ?_
    refine v_icmp_ge F (tgt := 30) dX2_allThrown_9 (by decide) (fun h => absurd h (nI_ge (by omega) (by omega))) (fun c9 => ?_)
    refine v_iload_n F dX2_allThrown_12 rfl 1 rfl ?_
    refine v_aload_n F dX2_allThrown_13 rfl 2 rfl ?_
    refine v_get F (id_R hr0 (by decide) (by decide)) (heR hr0) rfl uw_X2 1 (by decide) rfl rfl wf_X2_20 dX2_allThrown_14 ?_
    refine v_iload_n F dX2_allThrown_17 rfl 0 rfl ?_
    refine v_aaldT F hr0 (q) (Ix_nI (by omega)) dX2_allThrown_18 ?_
    refine v_getN F (id_R hr0 (by decide) (show _ < 12 by omega)) (heR hr0) rfl uw_X3 6 (by decide) rfl rfl wf_X2_121 dX2_allThrown_19 ?_
    refine v_iadd F dX2_allThrown_22 ?_
    refine v_istore_n F dX2_allThrown_23 rfl (by decide) (lv' := [(1, .int _), (2, .int _), (0, .ref _)]) rfl ?_
    refine v_iinc F (k := 1) (nI (q + 1)) dX2_allThrown_24 rfl (iinc_nI q) (by decide) (lv' := [(2, .int _), (1, .int _), (0, .ref _)]) rfl ?_
    refine v_goto F (tgt := 4) dX2_allThrown_27 (by decide) ?_
    exact ih (q + 1) (by omega)
set_option maxHeartbeats 4000000 in
set_option maxRecDepth 100000 in
theorem c_X2_allThrown {X : Cx} {l : Launch} (G : Gx X l) {M : Mem} {lf : Lf} {r : Nat} (hr0 : r < 2) {σ : Sg} {jc tc : Nat} {ln : Nat → Nat} (hS : Shp σ jc tc ln)  : CI X l yX2_allThrown (wsc yX2_allThrown cX2_allThrown 3 (some .int)) rm_X2_allThrown [.ref (X.2.1 r 0 0)] (uC M r σ) lf (sI (fun k => σ 8 k 6) tc) (uC M r σ) lf 0 0 := by
  refine CI_of (lv := [(0, .ref _)]) G (by decide) (Nat.le_of_ble_eq_true rfl) rfl (fun p e s m args below meth c F hr => ?_)
  have F : Fx p l s m args meth c cX2_allThrown 3 RX2 X := F
  refine v_iconst F (v := 0) dX2_allThrown_0 (by decide) ?_
  refine v_istore_n F dX2_allThrown_1 rfl (by decide) (lv' := [(1, .int _), (0, .ref _)]) rfl ?_
  refine v_iconst F (v := nI 0) dX2_allThrown_2 (by decide) ?_
  refine v_istore_n F dX2_allThrown_3 rfl (by decide) (lv' := [(2, .int _), (1, .int _), (0, .ref _)]) rfl ?_
  refine L_X2_allThrown F hr0 hS (by have := hS.1; have := hS.2.1; omega) ?_ tc 0 (Nat.add_zero tc)
  · skip
    refine v_iload_n F dX2_allThrown_30 rfl 1 rfl ?_
    exact v_iret F hr dX2_allThrown_31 rfl rfl rfl
set_option maxHeartbeats 4000000 in
set_option maxRecDepth 100000 in
theorem L_X2_allFell (F : Fx p l s m args meth c cX2_allFell 3 RX2 X) {r : Nat} (hr0 : r < 2) {σ : Sg} {jc tc : Nat} {ln : Nat → Nat} (hS : Shp σ jc tc ln) (hb : tc ≤ 12) (K : V p l e R s m args below meth c Q X 3 ex (uC M r σ) lf cells slots 30 [(2, .int (nI tc)), (1, .int (sI (fun k => σ 8 k 7) tc)), (0, .ref (X.2.1 r 0 0))] []) : ∀ (k q : Nat), k + q = tc → V p l e R s m args below meth c Q X 3 ex (uC M r σ) lf cells slots 4 [(2, .int (nI q)), (1, .int (sI (fun k => σ 8 k 7) q)), (0, .ref (X.2.1 r 0 0))] [] := by
  intro k
  induction k with
  | zero =>
    intro q hq
    obtain rfl : q = tc := by omega
    refine v_iload_n F dX2_allFell_4 rfl 0 rfl ?_
    refine v_aload_n F dX2_allFell_5 rfl 2 rfl ?_
    refine v_get F (id_R hr0 (by decide) (by decide)) (heR hr0) rfl uw_X2 3 (by decide) rfl rfl wf_X2_29 dX2_allFell_6 ?_
    refine v_topr (nI q) hS.2.2.2.1 ?_
    refine v_icmp_ge F (tgt := 30) dX2_allFell_9 (by decide) (fun c9 => ?_) (fun h => absurd (nI_le (Nat.le_refl _) (by omega)) h)
    exact K
  | succ k ih =>
    intro q hq
    refine v_iload_n F dX2_allFell_4 rfl 0 rfl ?_
    refine v_aload_n F dX2_allFell_5 rfl 2 rfl ?_
    refine v_get F (id_R hr0 (by decide) (by decide)) (heR hr0) rfl uw_X2 3 (by decide) rfl rfl wf_X2_29 dX2_allFell_6 ?_
    refine v_topr (nI tc) hS.2.2.2.1 ?_
    refine v_icmp_ge F (tgt := 30) dX2_allFell_9 (by decide) (fun h => absurd h (nI_ge (by omega) (by omega))) (fun c9 => ?_)
    refine v_iload_n F dX2_allFell_12 rfl 1 rfl ?_
    refine v_aload_n F dX2_allFell_13 rfl 2 rfl ?_
    refine v_get F (id_R hr0 (by decide) (by decide)) (heR hr0) rfl uw_X2 1 (by decide) rfl rfl wf_X2_20 dX2_allFell_14 ?_
    refine v_iload_n F dX2_allFell_17 rfl 0 rfl ?_
    refine v_aaldT F hr0 (q) (Ix_nI (by omega)) dX2_allFell_18 ?_
    refine v_getN F (id_R hr0 (by decide) (show _ < 12 by omega)) (heR hr0) rfl uw_X3 7 (by decide) rfl rfl wf_X2_124 dX2_allFell_19 ?_
    refine v_iadd F dX2_allFell_22 ?_
    refine v_istore_n F dX2_allFell_23 rfl (by decide) (lv' := [(1, .int _), (2, .int _), (0, .ref _)]) rfl ?_
    refine v_iinc F (k := 1) (nI (q + 1)) dX2_allFell_24 rfl (iinc_nI q) (by decide) (lv' := [(2, .int _), (1, .int _), (0, .ref _)]) rfl ?_
    refine v_goto F (tgt := 4) dX2_allFell_27 (by decide) ?_
    exact ih (q + 1) (by omega)
set_option maxHeartbeats 4000000 in
set_option maxRecDepth 100000 in
theorem c_X2_allFell {X : Cx} {l : Launch} (G : Gx X l) {M : Mem} {lf : Lf} {r : Nat} (hr0 : r < 2) {σ : Sg} {jc tc : Nat} {ln : Nat → Nat} (hS : Shp σ jc tc ln)  : CI X l yX2_allFell (wsc yX2_allFell cX2_allFell 3 (some .int)) rm_X2_allFell [.ref (X.2.1 r 0 0)] (uC M r σ) lf (sI (fun k => σ 8 k 7) tc) (uC M r σ) lf 0 0 := by
  refine CI_of (lv := [(0, .ref _)]) G (by decide) (Nat.le_of_ble_eq_true rfl) rfl (fun p e s m args below meth c F hr => ?_)
  have F : Fx p l s m args meth c cX2_allFell 3 RX2 X := F
  refine v_iconst F (v := 0) dX2_allFell_0 (by decide) ?_
  refine v_istore_n F dX2_allFell_1 rfl (by decide) (lv' := [(1, .int _), (0, .ref _)]) rfl ?_
  refine v_iconst F (v := nI 0) dX2_allFell_2 (by decide) ?_
  refine v_istore_n F dX2_allFell_3 rfl (by decide) (lv' := [(2, .int _), (1, .int _), (0, .ref _)]) rfl ?_
  refine L_X2_allFell F hr0 hS (by have := hS.1; have := hS.2.1; omega) ?_ tc 0 (Nat.add_zero tc)
  · skip
    refine v_iload_n F dX2_allFell_30 rfl 1 rfl ?_
    exact v_iret F hr dX2_allFell_31 rfl rfl rfl
set_option maxHeartbeats 4000000 in
set_option maxRecDepth 100000 in
theorem L_X2_allBruises (F : Fx p l s m args meth c cX2_allBruises 3 RX2 X) {r : Nat} (hr0 : r < 2) {σ : Sg} {jc tc : Nat} {ln : Nat → Nat} (hS : Shp σ jc tc ln) (hb : jc ≤ 12) (hb4 : jc ≤ 4) (K : V p l e R s m args below meth c Q X 3 ex (uC M r σ) lf cells slots 30 [(2, .int (nI jc)), (1, .int (sI (fun k => σ 2 k 3) jc)), (0, .ref (X.2.1 r 0 0))] []) : ∀ (k q : Nat), k + q = jc → V p l e R s m args below meth c Q X 3 ex (uC M r σ) lf cells slots 4 [(2, .int (nI q)), (1, .int (sI (fun k => σ 2 k 3) q)), (0, .ref (X.2.1 r 0 0))] [] := by
  intro k
  induction k with
  | zero =>
    intro q hq
    obtain rfl : q = jc := by omega
    refine v_iload_n F dX2_allBruises_4 rfl 0 rfl ?_
    refine v_aload_n F dX2_allBruises_5 rfl 2 rfl ?_
    refine v_get F (id_R hr0 (by decide) (by decide)) (heR hr0) rfl uw_X2 2 (by decide) rfl rfl wf_X2_25 dX2_allBruises_6 ?_
    refine v_topr (nI q) hS.2.2.1 ?_
    refine v_icmp_ge F (tgt := 30) dX2_allBruises_9 (by decide) (fun c9 => ?_) (fun h => absurd (nI_le (Nat.le_refl _) (by omega)) h)
    exact K
  | succ k ih =>
    intro q hq
    refine v_iload_n F dX2_allBruises_4 rfl 0 rfl ?_
    refine v_aload_n F dX2_allBruises_5 rfl 2 rfl ?_
    refine v_get F (id_R hr0 (by decide) (by decide)) (heR hr0) rfl uw_X2 2 (by decide) rfl rfl wf_X2_25 dX2_allBruises_6 ?_
    refine v_topr (nI jc) hS.2.2.1 ?_
    refine v_icmp_ge F (tgt := 30) dX2_allBruises_9 (by decide) (fun h => absurd h (nI_ge (by omega) (by omega))) (fun c9 => ?_)
    refine v_iload_n F dX2_allBruises_12 rfl 1 rfl ?_
    refine v_aload_n F dX2_allBruises_13 rfl 2 rfl ?_
    refine v_get F (id_R hr0 (by decide) (by decide)) (heR hr0) rfl uw_X2 0 (by decide) rfl rfl wf_X2_11 dX2_allBruises_14 ?_
    refine v_iload_n F dX2_allBruises_17 rfl 0 rfl ?_
    refine v_aaldJ F hr0 (q) (Ix_nI (by omega)) dX2_allBruises_18 ?_
    refine v_getN F (id_R hr0 (by decide) (show _ < 4 by omega)) (heR hr0) rfl uw_X0 3 (by decide) rfl rfl wf_X2_127 dX2_allBruises_19 ?_
    refine v_iadd F dX2_allBruises_22 ?_
    refine v_istore_n F dX2_allBruises_23 rfl (by decide) (lv' := [(1, .int _), (2, .int _), (0, .ref _)]) rfl ?_
    refine v_iinc F (k := 1) (nI (q + 1)) dX2_allBruises_24 rfl (iinc_nI q) (by decide) (lv' := [(2, .int _), (1, .int _), (0, .ref _)]) rfl ?_
    refine v_goto F (tgt := 4) dX2_allBruises_27 (by decide) ?_
    exact ih (q + 1) (by omega)
set_option maxHeartbeats 4000000 in
set_option maxRecDepth 100000 in
theorem c_X2_allBruises {X : Cx} {l : Launch} (G : Gx X l) {M : Mem} {lf : Lf} {r : Nat} (hr0 : r < 2) {σ : Sg} {jc tc : Nat} {ln : Nat → Nat} (hS : Shp σ jc tc ln)  : CI X l yX2_allBruises (wsc yX2_allBruises cX2_allBruises 3 (some .int)) rm_X2_allBruises [.ref (X.2.1 r 0 0)] (uC M r σ) lf (sI (fun k => σ 2 k 3) jc) (uC M r σ) lf 0 0 := by
  refine CI_of (lv := [(0, .ref _)]) G (by decide) (Nat.le_of_ble_eq_true rfl) rfl (fun p e s m args below meth c F hr => ?_)
  have F : Fx p l s m args meth c cX2_allBruises 3 RX2 X := F
  refine v_iconst F (v := 0) dX2_allBruises_0 (by decide) ?_
  refine v_istore_n F dX2_allBruises_1 rfl (by decide) (lv' := [(1, .int _), (0, .ref _)]) rfl ?_
  refine v_iconst F (v := nI 0) dX2_allBruises_2 (by decide) ?_
  refine v_istore_n F dX2_allBruises_3 rfl (by decide) (lv' := [(2, .int _), (1, .int _), (0, .ref _)]) rfl ?_
  refine L_X2_allBruises F hr0 hS (by have := hS.1; have := hS.2.1; omega) hS.1 ?_ jc 0 (Nat.add_zero jc)
  · skip
    refine v_iload_n F dX2_allBruises_30 rfl 1 rfl ?_
    exact v_iret F hr dX2_allBruises_31 rfl rfl rfl
set_option maxHeartbeats 4000000 in
set_option maxRecDepth 100000 in
theorem L_X2_thingsIn (F : Fx p l s m args meth c cX2_thingsIn 4 RX2 X) {r : Nat} (hr0 : r < 2) {σ : Sg} {jc tc : Nat} {ln : Nat → Nat} (hS : Shp σ jc tc ln) (hb : tc ≤ 12) {x : Int32} (K : V p l e R s m args below meth c Q X 4 ex (uC M r σ) lf cells slots 34 [(3, .int (nI tc)), (2, .int (cI (fun k => decide (σ 8 k 1 = x)) tc)), (0, .ref (X.2.1 r 0 0)), (1, .int x)] []) : ∀ (k q : Nat), k + q = tc → V p l e R s m args below meth c Q X 4 ex (uC M r σ) lf cells slots 4 [(3, .int (nI q)), (2, .int (cI (fun k => decide (σ 8 k 1 = x)) q)), (0, .ref (X.2.1 r 0 0)), (1, .int x)] [] := by
  intro k
  induction k with
  | zero =>
    intro q hq
    obtain rfl : q = tc := by omega
    refine v_iload_n F dX2_thingsIn_4 rfl 0 rfl ?_
    refine v_aload_n F dX2_thingsIn_5 rfl 2 rfl ?_
    refine v_get F (id_R hr0 (by decide) (by decide)) (heR hr0) rfl uw_X2 3 (by decide) rfl rfl wf_X2_29 dX2_thingsIn_6 ?_
    refine v_topr (nI q) hS.2.2.2.1 ?_
    refine v_icmp_ge F (tgt := 34) dX2_thingsIn_9 (by decide) (fun c9 => ?_) (fun h => absurd (nI_le (Nat.le_refl _) (by omega)) h)
    exact K
  | succ k ih =>
    intro q hq
    refine v_iload_n F dX2_thingsIn_4 rfl 0 rfl ?_
    refine v_aload_n F dX2_thingsIn_5 rfl 2 rfl ?_
    refine v_get F (id_R hr0 (by decide) (by decide)) (heR hr0) rfl uw_X2 3 (by decide) rfl rfl wf_X2_29 dX2_thingsIn_6 ?_
    refine v_topr (nI tc) hS.2.2.2.1 ?_
    refine v_icmp_ge F (tgt := 34) dX2_thingsIn_9 (by decide) (fun h => absurd h (nI_ge (by omega) (by omega))) (fun c9 => ?_)
    refine v_aload_n F dX2_thingsIn_12 rfl 2 rfl ?_
    refine v_get F (id_R hr0 (by decide) (by decide)) (heR hr0) rfl uw_X2 1 (by decide) rfl rfl wf_X2_20 dX2_thingsIn_13 ?_
    refine v_iload_n F dX2_thingsIn_16 rfl 0 rfl ?_
    refine v_aaldT F hr0 (q) (Ix_nI (by omega)) dX2_thingsIn_17 ?_
    refine v_getN F (id_R hr0 (by decide) (show _ < 12 by omega)) (heR hr0) rfl uw_X3 1 (by decide) rfl rfl wf_X2_62 dX2_thingsIn_18 ?_
    refine v_iload_n F dX2_thingsIn_21 rfl 3 rfl ?_
    refine v_icmp_ne F (tgt := 28) dX2_thingsIn_22 (by decide) (fun c22 => ?_) (fun c22 => ?_)
    · have := c22
      refine v_iinc F (k := 0) (nI (q + 1)) dX2_thingsIn_28 rfl (iinc_nI q) (by decide) (lv' := [(3, .int _), (2, .int _), (0, .ref _), (1, .int _)]) rfl ?_
      refine v_goto F (tgt := 4) dX2_thingsIn_31 (by decide) ?_
      refine v_eq rfl ?_ rfl (ih (q + 1) (by omega))
      simp_all [cI, iinc_1]
    · have := c22
      refine v_iinc F (k := 1) (_) dX2_thingsIn_25 rfl rfl (by decide) (lv' := [(2, .int _), (3, .int _), (0, .ref _), (1, .int _)]) rfl ?_
      refine v_iinc F (k := 1) (nI (q + 1)) dX2_thingsIn_28 rfl (iinc_nI q) (by decide) (lv' := [(3, .int _), (2, .int _), (0, .ref _), (1, .int _)]) rfl ?_
      refine v_goto F (tgt := 4) dX2_thingsIn_31 (by decide) ?_
      refine v_eq rfl ?_ rfl (ih (q + 1) (by omega))
      simp_all [cI, iinc_1]
set_option maxHeartbeats 4000000 in
set_option maxRecDepth 100000 in
theorem c_X2_thingsIn {X : Cx} {l : Launch} (G : Gx X l) {M : Mem} {lf : Lf} {r : Nat} (hr0 : r < 2) {σ : Sg} {jc tc : Nat} {ln : Nat → Nat} (hS : Shp σ jc tc ln) (x : Int32) : CI X l yX2_thingsIn (wsc yX2_thingsIn cX2_thingsIn 4 (some .int)) rm_X2_thingsIn [.ref (X.2.1 r 0 0), .int x] (uC M r σ) lf (fIn σ tc x) (uC M r σ) lf 0 0 := by
  refine CI_of (lv := [(0, .ref _), (1, .int _)]) G (by decide) (Nat.le_of_ble_eq_true rfl) rfl (fun p e s m args below meth c F hr => ?_)
  have F : Fx p l s m args meth c cX2_thingsIn 4 RX2 X := F
  refine v_iconst F (v := 0) dX2_thingsIn_0 (by decide) ?_
  refine v_istore_n F dX2_thingsIn_1 rfl (by decide) (lv' := [(2, .int _), (0, .ref _), (1, .int _)]) rfl ?_
  refine v_iconst F (v := nI 0) dX2_thingsIn_2 (by decide) ?_
  refine v_istore_n F dX2_thingsIn_3 rfl (by decide) (lv' := [(3, .int _), (2, .int _), (0, .ref _), (1, .int _)]) rfl ?_
  refine L_X2_thingsIn F hr0 hS hS.2.1 ?_ tc 0 (Nat.add_zero tc)
  · skip
    refine v_iload_n F dX2_thingsIn_34 rfl 1 rfl ?_
    exact v_iret F hr dX2_thingsIn_35 rfl rfl rfl
set_option maxHeartbeats 4000000 in
set_option maxRecDepth 100000 in
theorem L_X2_thingsFlyingTo (F : Fx p l s m args meth c cX2_thingsFlyingTo 4 RX2 X) {r : Nat} (hr0 : r < 2) {σ : Sg} {jc tc : Nat} {ln : Nat → Nat} (hS : Shp σ jc tc ln) (hb : tc ≤ 12) {x : Int32} (K : V p l e R s m args below meth c Q X 4 ex (uC M r σ) lf cells slots 47 [(3, .int (nI tc)), (2, .int (cI (fun k => decide (σ 8 k 1 = 2) && decide (σ 8 k 2 = x)) tc)), (0, .ref (X.2.1 r 0 0)), (1, .int x)] []) : ∀ (k q : Nat), k + q = tc → V p l e R s m args below meth c Q X 4 ex (uC M r σ) lf cells slots 4 [(3, .int (nI q)), (2, .int (cI (fun k => decide (σ 8 k 1 = 2) && decide (σ 8 k 2 = x)) q)), (0, .ref (X.2.1 r 0 0)), (1, .int x)] [] := by
  intro k
  induction k with
  | zero =>
    intro q hq
    obtain rfl : q = tc := by omega
    refine v_iload_n F dX2_thingsFlyingTo_4 rfl 0 rfl ?_
    refine v_aload_n F dX2_thingsFlyingTo_5 rfl 2 rfl ?_
    refine v_get F (id_R hr0 (by decide) (by decide)) (heR hr0) rfl uw_X2 3 (by decide) rfl rfl wf_X2_29 dX2_thingsFlyingTo_6 ?_
    refine v_topr (nI q) hS.2.2.2.1 ?_
    refine v_icmp_ge F (tgt := 47) dX2_thingsFlyingTo_9 (by decide) (fun c9 => ?_) (fun h => absurd (nI_le (Nat.le_refl _) (by omega)) h)
    exact K
  | succ k ih =>
    intro q hq
    refine v_iload_n F dX2_thingsFlyingTo_4 rfl 0 rfl ?_
    refine v_aload_n F dX2_thingsFlyingTo_5 rfl 2 rfl ?_
    refine v_get F (id_R hr0 (by decide) (by decide)) (heR hr0) rfl uw_X2 3 (by decide) rfl rfl wf_X2_29 dX2_thingsFlyingTo_6 ?_
    refine v_topr (nI tc) hS.2.2.2.1 ?_
    refine v_icmp_ge F (tgt := 47) dX2_thingsFlyingTo_9 (by decide) (fun h => absurd h (nI_ge (by omega) (by omega))) (fun c9 => ?_)
    refine v_aload_n F dX2_thingsFlyingTo_12 rfl 2 rfl ?_
    refine v_get F (id_R hr0 (by decide) (by decide)) (heR hr0) rfl uw_X2 1 (by decide) rfl rfl wf_X2_20 dX2_thingsFlyingTo_13 ?_
    refine v_iload_n F dX2_thingsFlyingTo_16 rfl 0 rfl ?_
    refine v_aaldT F hr0 (q) (Ix_nI (by omega)) dX2_thingsFlyingTo_17 ?_
    refine v_getN F (id_R hr0 (by decide) (show _ < 12 by omega)) (heR hr0) rfl uw_X3 1 (by decide) rfl rfl wf_X2_62 dX2_thingsFlyingTo_18 ?_
    refine v_iconst F (v := 2) dX2_thingsFlyingTo_21 (by decide) ?_
    refine v_icmp_ne F (tgt := 41) dX2_thingsFlyingTo_22 (by decide) (fun c22 => ?_) (fun c22 => ?_)
    · have := c22
      refine v_iinc F (k := 0) (nI (q + 1)) dX2_thingsFlyingTo_41 rfl (iinc_nI q) (by decide) (lv' := [(3, .int _), (2, .int _), (0, .ref _), (1, .int _)]) rfl ?_
      refine v_goto F (tgt := 4) dX2_thingsFlyingTo_44 (by decide) ?_
      refine v_eq rfl ?_ rfl (ih (q + 1) (by omega))
      simp_all [cI, iinc_1]
    · have := c22
      refine v_aload_n F dX2_thingsFlyingTo_25 rfl 2 rfl ?_
      refine v_get F (id_R hr0 (by decide) (by decide)) (heR hr0) rfl uw_X2 1 (by decide) rfl rfl wf_X2_20 dX2_thingsFlyingTo_26 ?_
      refine v_iload_n F dX2_thingsFlyingTo_29 rfl 0 rfl ?_
      refine v_aaldT F hr0 (q) (Ix_nI (by omega)) dX2_thingsFlyingTo_30 ?_
      refine v_getN F (id_R hr0 (by decide) (show _ < 12 by omega)) (heR hr0) rfl uw_X3 2 (by decide) rfl rfl wf_X2_65 dX2_thingsFlyingTo_31 ?_
      refine v_iload_n F dX2_thingsFlyingTo_34 rfl 3 rfl ?_
      refine v_icmp_ne F (tgt := 41) dX2_thingsFlyingTo_35 (by decide) (fun c35 => ?_) (fun c35 => ?_)
      · have := c35
        refine v_iinc F (k := 0) (nI (q + 1)) dX2_thingsFlyingTo_41 rfl (iinc_nI q) (by decide) (lv' := [(3, .int _), (2, .int _), (0, .ref _), (1, .int _)]) rfl ?_
        refine v_goto F (tgt := 4) dX2_thingsFlyingTo_44 (by decide) ?_
        refine v_eq rfl ?_ rfl (ih (q + 1) (by omega))
        simp_all [cI, iinc_1]
      · have := c35
        refine v_iinc F (k := 1) (_) dX2_thingsFlyingTo_38 rfl rfl (by decide) (lv' := [(2, .int _), (3, .int _), (0, .ref _), (1, .int _)]) rfl ?_
        refine v_iinc F (k := 1) (nI (q + 1)) dX2_thingsFlyingTo_41 rfl (iinc_nI q) (by decide) (lv' := [(3, .int _), (2, .int _), (0, .ref _), (1, .int _)]) rfl ?_
        refine v_goto F (tgt := 4) dX2_thingsFlyingTo_44 (by decide) ?_
        refine v_eq rfl ?_ rfl (ih (q + 1) (by omega))
        simp_all [cI, iinc_1]
set_option maxHeartbeats 4000000 in
set_option maxRecDepth 100000 in
theorem c_X2_thingsFlyingTo {X : Cx} {l : Launch} (G : Gx X l) {M : Mem} {lf : Lf} {r : Nat} (hr0 : r < 2) {σ : Sg} {jc tc : Nat} {ln : Nat → Nat} (hS : Shp σ jc tc ln) (x : Int32) : CI X l yX2_thingsFlyingTo (wsc yX2_thingsFlyingTo cX2_thingsFlyingTo 4 (some .int)) rm_X2_thingsFlyingTo [.ref (X.2.1 r 0 0), .int x] (uC M r σ) lf (fFlies σ tc x) (uC M r σ) lf 0 0 := by
  refine CI_of (lv := [(0, .ref _), (1, .int _)]) G (by decide) (Nat.le_of_ble_eq_true rfl) rfl (fun p e s m args below meth c F hr => ?_)
  have F : Fx p l s m args meth c cX2_thingsFlyingTo 4 RX2 X := F
  refine v_iconst F (v := 0) dX2_thingsFlyingTo_0 (by decide) ?_
  refine v_istore_n F dX2_thingsFlyingTo_1 rfl (by decide) (lv' := [(2, .int _), (0, .ref _), (1, .int _)]) rfl ?_
  refine v_iconst F (v := nI 0) dX2_thingsFlyingTo_2 (by decide) ?_
  refine v_istore_n F dX2_thingsFlyingTo_3 rfl (by decide) (lv' := [(3, .int _), (2, .int _), (0, .ref _), (1, .int _)]) rfl ?_
  refine L_X2_thingsFlyingTo F hr0 hS hS.2.1 ?_ tc 0 (Nat.add_zero tc)
  · skip
    refine v_iload_n F dX2_thingsFlyingTo_47 rfl 1 rfl ?_
    exact v_iret F hr dX2_thingsFlyingTo_48 rfl rfl rfl
end RR
