/-! ===== contracts of a pattern, a thing, a juggler ===== -/
abbrev rm_X3_comesDownIn : Room := { frames := 0, cells := 0, slots := 0, locals := 0 }
abbrev rm_X3_beatsInAir : Room := { frames := 0, cells := 0, slots := 0, locals := 0 }
abbrev rm_X3_fly : Room := { frames := 1, cells := 0, slots := 0, locals := 21 }
abbrev rm_X3_fall : Room := { frames := 0, cells := 0, slots := 0, locals := 0 }
abbrev rm_X3_copyFrom : Room := { frames := 0, cells := 0, slots := 0, locals := 0 }
set_option maxHeartbeats 4000000 in
set_option maxRecDepth 100000 in
theorem c_X3_comesDownIn {X : Cx} {l : Launch} (G : Gx X l) {M : Mem} {lf : Lf} {r : Nat} (hr0 : r < 2) {σ : Sg} {k : Nat} (hk : k < 12) (b : Int32) : CI X l yX3_comesDownIn (wsc yX3_comesDownIn cX3_comesDownIn 2 (some .boolean)) rm_X3_comesDownIn [.ref (X.2.1 r 8 k), .int b] (uC M r σ) lf (fDown σ k b) (uC M r σ) lf 0 0 := by
  refine CI_of (lv := [(0, .ref _), (1, .int _)]) G (by decide) (Nat.le_of_ble_eq_true rfl) rfl (fun p e s m args below meth c F hr => ?_)
  have F : Fx p l s m args meth c cX3_comesDownIn 2 RX3 X := F
  refine v_aload_n F dX3_comesDownIn_0 rfl 0 rfl ?_
  refine v_get F (id_R hr0 (by decide) hk) (heR hr0) rfl uw_X3 1 (by decide) rfl rfl wf_X3_9 dX3_comesDownIn_1 ?_
  refine v_iconst F (v := 2) dX3_comesDownIn_4 (by decide) ?_
  refine v_icmp_ne F (tgt := 20) dX3_comesDownIn_5 (by decide) (fun c5 => ?_) (fun c5 => ?_)
  · have := c5
    refine v_iconst F (v := 0) dX3_comesDownIn_20 (by decide) ?_
    refine v_zret F hr dX3_comesDownIn_21 rfl ?_ rfl rfl
    simp_all [fDown]
  · have := c5
    refine v_aload_n F dX3_comesDownIn_8 rfl 0 rfl ?_
    refine v_get F (id_R hr0 (by decide) hk) (heR hr0) rfl uw_X3 4 (by decide) rfl rfl wf_X3_24 dX3_comesDownIn_9 ?_
    refine v_iload_n F dX3_comesDownIn_12 rfl 1 rfl ?_
    refine v_icmp_ne F (tgt := 20) dX3_comesDownIn_13 (by decide) (fun c13 => ?_) (fun c13 => ?_)
    · have := c13
      refine v_iconst F (v := 0) dX3_comesDownIn_20 (by decide) ?_
      refine v_zret F hr dX3_comesDownIn_21 rfl ?_ rfl rfl
      simp_all [fDown]
    · have := c13
      refine v_iconst F (v := 1) dX3_comesDownIn_16 (by decide) ?_
      refine v_goto F (tgt := 21) dX3_comesDownIn_17 (by decide) ?_
      refine v_zret F hr dX3_comesDownIn_21 rfl ?_ rfl rfl
      simp_all [fDown]
set_option maxHeartbeats 4000000 in
set_option maxRecDepth 100000 in
theorem c_X3_beatsInAir {X : Cx} {l : Launch} (G : Gx X l) {M : Mem} {lf : Lf} {r : Nat} (hr0 : r < 2) {σ : Sg} {k : Nat} (hk : k < 12) (h : Int32) : CI X l yX3_beatsInAir (wsc yX3_beatsInAir cX3_beatsInAir 2 (some .int)) rm_X3_beatsInAir [.ref (X.2.1 r 8 k), .int h] (uC M r σ) lf (fAir (σ 8 k 0) h) (uC M r σ) lf 0 0 := by
  refine CI_of (lv := [(0, .ref _), (1, .int _)]) G (by decide) (Nat.le_of_ble_eq_true rfl) rfl (fun p e s m args below meth c F hr => ?_)
  have F : Fx p l s m args meth c cX3_beatsInAir 2 RX3 X := F
  refine v_aload_n F dX3_beatsInAir_0 rfl 0 rfl ?_
  refine v_get F (id_R hr0 (by decide) hk) (heR hr0) rfl uw_X3 0 (by decide) rfl rfl wf_X3_21 dX3_beatsInAir_1 ?_
  refine v_iconst F (v := 1) dX3_beatsInAir_4 (by decide) ?_
  refine v_icmp_ne F (tgt := 17) dX3_beatsInAir_5 (by decide) (fun c5 => ?_) (fun c5 => ?_)
  · have := c5
    refine v_aload_n F dX3_beatsInAir_17 rfl 0 rfl ?_
    refine v_get F (id_R hr0 (by decide) hk) (heR hr0) rfl uw_X3 0 (by decide) rfl rfl wf_X3_21 dX3_beatsInAir_18 ?_
    refine v_iconst F (v := 2) dX3_beatsInAir_21 (by decide) ?_
    refine v_icmp_ne F (tgt := 34) dX3_beatsInAir_22 (by decide) (fun c22 => ?_) (fun c22 => ?_)
    · have := c22
      refine v_iload_n F dX3_beatsInAir_34 rfl 1 rfl ?_
      refine v_iret F hr dX3_beatsInAir_35 ?_ rfl rfl
      simp_all [fAir]
    · have := c22
      refine v_iload_n F dX3_beatsInAir_25 rfl 1 rfl ?_
      refine v_iconst F (v := 5) dX3_beatsInAir_26 (by decide) ?_
      refine v_icmp_lt F (tgt := 34) dX3_beatsInAir_27 (by decide) (fun c27 => ?_) (fun c27 => ?_)
      · have := c27
        refine v_iload_n F dX3_beatsInAir_34 rfl 1 rfl ?_
        refine v_iret F hr dX3_beatsInAir_35 ?_ rfl rfl
        simp_all [fAir]
      · have := c27
        refine v_iload_n F dX3_beatsInAir_30 rfl 1 rfl ?_
        refine v_iconst F (v := 1) dX3_beatsInAir_31 (by decide) ?_
        refine v_iadd F dX3_beatsInAir_32 ?_
        refine v_iret F hr dX3_beatsInAir_33 ?_ rfl rfl
        simp_all [fAir]
  · have := c5
    refine v_iload_n F dX3_beatsInAir_8 rfl 1 rfl ?_
    refine v_iconst F (v := 3) dX3_beatsInAir_9 (by decide) ?_
    refine v_icmp_lt F (tgt := 17) dX3_beatsInAir_10 (by decide) (fun c10 => ?_) (fun c10 => ?_)
    · have := c10
      refine v_aload_n F dX3_beatsInAir_17 rfl 0 rfl ?_
      refine v_get F (id_R hr0 (by decide) hk) (heR hr0) rfl uw_X3 0 (by decide) rfl rfl wf_X3_21 dX3_beatsInAir_18 ?_
      refine v_iconst F (v := 2) dX3_beatsInAir_21 (by decide) ?_
      refine v_icmp_ne F (tgt := 34) dX3_beatsInAir_22 (by decide) (fun c22 => ?_) (fun c22 => ?_)
      · have := c22
        refine v_iload_n F dX3_beatsInAir_34 rfl 1 rfl ?_
        refine v_iret F hr dX3_beatsInAir_35 ?_ rfl rfl
        simp_all [fAir]
      · have := c22
        refine v_iload_n F dX3_beatsInAir_25 rfl 1 rfl ?_
        refine v_iconst F (v := 5) dX3_beatsInAir_26 (by decide) ?_
        refine v_icmp_lt F (tgt := 34) dX3_beatsInAir_27 (by decide) (fun c27 => ?_) (fun c27 => ?_)
        · have := c27
          refine v_iload_n F dX3_beatsInAir_34 rfl 1 rfl ?_
          refine v_iret F hr dX3_beatsInAir_35 ?_ rfl rfl
          simp_all [fAir]
        · have := c27
          refine v_iload_n F dX3_beatsInAir_30 rfl 1 rfl ?_
          refine v_iconst F (v := 1) dX3_beatsInAir_31 (by decide) ?_
          refine v_iadd F dX3_beatsInAir_32 ?_
          refine v_iret F hr dX3_beatsInAir_33 ?_ rfl rfl
          simp_all [fAir]
    · have := c10
      refine v_iload_n F dX3_beatsInAir_13 rfl 1 rfl ?_
      refine v_iconst F (v := 1) dX3_beatsInAir_14 (by decide) ?_
      refine v_isub F dX3_beatsInAir_15 ?_
      refine v_iret F hr dX3_beatsInAir_16 ?_ rfl rfl
      simp_all [fAir]
set_option maxHeartbeats 4000000 in
set_option maxRecDepth 100000 in
theorem c_X3_fly {X : Cx} {l : Launch} (G : Gx X l) {M : Mem} {lf : Lf} {r : Nat} (hr0 : r < 2) {σ : Sg} {k : Nat} (hk : k < 12) (to h b : Int32) : CV X l yX3_fly (wsc yX3_fly cX3_fly 4 none) rm_X3_fly [.ref (X.2.1 r 8 k), .int to, .int h, .int b] (uC M r σ) lf (uC M r (fFly σ k to h b)) lf 0 0 := by
  refine CV_of (lv := [(0, .ref _), (1, .int _), (2, .int _), (3, .int _)]) G (by decide) (Nat.le_of_ble_eq_true rfl) rfl (fun p e s m args below meth c F hr => ?_)
  have F : Fx p l s m args meth c cX3_fly 4 RX3 X := F
  refine v_aload_n F dX3_fly_0 rfl 0 rfl ?_
  refine v_iconst F (v := 2) dX3_fly_1 (by decide) ?_
  refine v_putC F tyX3 tyX3_ok nmX3 (id_R hr0 (by decide) hk) (celD_R hr0) rfl uw_X3 1 (by decide) rfl rfl (by decide +kernel) (celD_R hr0) (Nat.le_of_ble_eq_true rfl) wf_X3_9 dX3_fly_2 ?_
  refine v_aload_n F dX3_fly_5 rfl 0 rfl ?_
  refine v_iload_n F dX3_fly_6 rfl 1 rfl ?_
  refine v_putC F tyX3 tyX3_ok nmX3 (id_R hr0 (by decide) hk) (celD_R hr0) rfl uw_X3 2 (by decide) rfl rfl (by decide +kernel) (celD_R hr0) (Nat.le_of_ble_eq_true rfl) wf_X3_15 dX3_fly_7 ?_
  refine v_aload_n F dX3_fly_10 rfl 0 rfl ?_
  refine v_iconst F (v := (-1)) dX3_fly_11 (by decide) ?_
  refine v_putC F tyX3 tyX3_ok nmX3 (id_R hr0 (by decide) hk) (celD_R hr0) rfl uw_X3 3 (by decide) rfl rfl (by decide +kernel) (celD_R hr0) (Nat.le_of_ble_eq_true rfl) wf_X3_18 dX3_fly_12 ?_
  refine v_aload_n F dX3_fly_15 rfl 0 rfl ?_
  refine v_iload_n F dX3_fly_16 rfl 2 rfl ?_
  refine v_putC F tyX3 tyX3_ok nmX3 (id_R hr0 (by decide) hk) (celD_R hr0) rfl uw_X3 5 (by decide) rfl rfl (by decide +kernel) (celD_R hr0) (Nat.le_of_ble_eq_true rfl) wf_X3_27 dX3_fly_17 ?_
  refine v_aload_n F dX3_fly_20 rfl 0 rfl ?_
  refine v_iload_n F dX3_fly_21 rfl 3 rfl ?_
  refine v_aload_n F dX3_fly_22 rfl 0 rfl ?_
  refine v_iload_n F dX3_fly_23 rfl 2 rfl ?_
  refine v_callVi F (As := [_]) (rest := [.int _, .ref _]) rfl (c_X3_beatsInAir G hr0 hk _) (Rv_T hr0 hk) wm_X3_36 rfl ⟨rfl, rfl, Nat.le_of_ble_eq_true rfl, Nat.le_of_ble_eq_true rfl, Nat.le_of_ble_eq_true rfl, Nat.le_of_ble_eq_true rfl, Nat.le_of_ble_eq_true rfl⟩ dX3_fly_24 ?_
  refine v_iadd F dX3_fly_27 ?_
  refine v_putC F tyX3 tyX3_ok nmX3 (id_R hr0 (by decide) hk) (celD_R hr0) rfl uw_X3 4 (by decide) rfl rfl (by decide +kernel) (celD_R hr0) (Nat.le_of_ble_eq_true rfl) wf_X3_24 dX3_fly_28 ?_
  refine v_aload_n F dX3_fly_31 rfl 0 rfl ?_
  refine v_dup F dX3_fly_32 rfl ?_
  refine v_get F (id_R hr0 (by decide) hk) (heR hr0) rfl uw_X3 6 (by decide) rfl rfl wf_X3_30 dX3_fly_33 ?_
  refine v_iconst F (v := 1) dX3_fly_36 (by decide) ?_
  refine v_iadd F dX3_fly_37 ?_
  refine v_putC F tyX3 tyX3_ok nmX3 (id_R hr0 (by decide) hk) (celD_R hr0) rfl uw_X3 6 (by decide) rfl rfl (by decide +kernel) (celD_R hr0) (Nat.le_of_ble_eq_true rfl) wf_X3_30 dX3_fly_38 ?_
  refine v_vret F hr dX3_fly_41 ?_ rfl
  simp [fFly, u3_eq]
set_option maxHeartbeats 4000000 in
set_option maxRecDepth 100000 in
theorem c_X3_fall {X : Cx} {l : Launch} (G : Gx X l) {M : Mem} {lf : Lf} {r : Nat} (hr0 : r < 2) {σ : Sg} {k : Nat} (hk : k < 12) : CV X l yX3_fall (wsc yX3_fall cX3_fall 1 none) rm_X3_fall [.ref (X.2.1 r 8 k)] (uC M r σ) lf (uC M r (fFall σ k)) lf 0 0 := by
  refine CV_of (lv := [(0, .ref _)]) G (by decide) (Nat.le_of_ble_eq_true rfl) rfl (fun p e s m args below meth c F hr => ?_)
  have F : Fx p l s m args meth c cX3_fall 1 RX3 X := F
  refine v_aload_n F dX3_fall_0 rfl 0 rfl ?_
  refine v_aload_n F dX3_fall_1 rfl 0 rfl ?_
  refine v_get F (id_R hr0 (by decide) hk) (heR hr0) rfl uw_X3 0 (by decide) rfl rfl wf_X3_21 dX3_fall_2 ?_
  refine v_iconst F (v := 2) dX3_fall_5 (by decide) ?_
  refine v_icmp_ne F (tgt := 13) dX3_fall_6 (by decide) (fun c6 => ?_) (fun c6 => ?_)
  · have := c6
    refine v_iconst F (v := 0) dX3_fall_13 (by decide) ?_
    refine v_putC F tyX3 tyX3_ok nmX3 (id_R hr0 (by decide) hk) (celD_R hr0) rfl uw_X3 1 (by decide) rfl rfl (by decide +kernel) (celD_R hr0) (Nat.le_of_ble_eq_true rfl) wf_X3_9 dX3_fall_14 ?_
    refine v_aload_n F dX3_fall_17 rfl 0 rfl ?_
    refine v_iconst F (v := (-1)) dX3_fall_18 (by decide) ?_
    refine v_putC F tyX3 tyX3_ok nmX3 (id_R hr0 (by decide) hk) (celD_R hr0) rfl uw_X3 2 (by decide) rfl rfl (by decide +kernel) (celD_R hr0) (Nat.le_of_ble_eq_true rfl) wf_X3_15 dX3_fall_19 ?_
    refine v_aload_n F dX3_fall_22 rfl 0 rfl ?_
    refine v_dup F dX3_fall_23 rfl ?_
    refine v_get F (id_R hr0 (by decide) hk) (heR hr0) rfl uw_X3 7 (by decide) rfl rfl wf_X3_33 dX3_fall_24 ?_
    refine v_iconst F (v := 1) dX3_fall_27 (by decide) ?_
    refine v_iadd F dX3_fall_28 ?_
    refine v_putC F tyX3 tyX3_ok nmX3 (id_R hr0 (by decide) hk) (celD_R hr0) rfl uw_X3 7 (by decide) rfl rfl (by decide +kernel) (celD_R hr0) (Nat.le_of_ble_eq_true rfl) wf_X3_33 dX3_fall_29 ?_
    refine v_vret F hr dX3_fall_32 ?_ rfl
    simp_all [fFall, u3_eq]
  · have := c6
    refine v_iconst F (v := 3) dX3_fall_9 (by decide) ?_
    refine v_goto F (tgt := 14) dX3_fall_10 (by decide) ?_
    refine v_putC F tyX3 tyX3_ok nmX3 (id_R hr0 (by decide) hk) (celD_R hr0) rfl uw_X3 1 (by decide) rfl rfl (by decide +kernel) (celD_R hr0) (Nat.le_of_ble_eq_true rfl) wf_X3_9 dX3_fall_14 ?_
    refine v_aload_n F dX3_fall_17 rfl 0 rfl ?_
    refine v_iconst F (v := (-1)) dX3_fall_18 (by decide) ?_
    refine v_putC F tyX3 tyX3_ok nmX3 (id_R hr0 (by decide) hk) (celD_R hr0) rfl uw_X3 2 (by decide) rfl rfl (by decide +kernel) (celD_R hr0) (Nat.le_of_ble_eq_true rfl) wf_X3_15 dX3_fall_19 ?_
    refine v_aload_n F dX3_fall_22 rfl 0 rfl ?_
    refine v_dup F dX3_fall_23 rfl ?_
    refine v_get F (id_R hr0 (by decide) hk) (heR hr0) rfl uw_X3 7 (by decide) rfl rfl wf_X3_33 dX3_fall_24 ?_
    refine v_iconst F (v := 1) dX3_fall_27 (by decide) ?_
    refine v_iadd F dX3_fall_28 ?_
    refine v_putC F tyX3 tyX3_ok nmX3 (id_R hr0 (by decide) hk) (celD_R hr0) rfl uw_X3 7 (by decide) rfl rfl (by decide +kernel) (celD_R hr0) (Nat.le_of_ble_eq_true rfl) wf_X3_33 dX3_fall_29 ?_
    refine v_vret F hr dX3_fall_32 ?_ rfl
    simp_all [fFall, u3_eq]
set_option maxHeartbeats 4000000 in
set_option maxRecDepth 100000 in
theorem c_X3_copyFrom {X : Cx} {l : Launch} (G : Gx X l) {M : Mem} {lf : Lf} {r t : Nat} (hr0 : r < 2) (ht0 : t < 2) (htr : t ≠ r) {σ : Sg} {k : Nat} (hk : k < 12) : CV X l yX3_copyFrom (wsc yX3_copyFrom cX3_copyFrom 2 none) rm_X3_copyFrom [.ref (X.2.1 r 8 k), .ref (X.2.1 t 8 k)] (uC M r σ) lf (uC M r (fCopyT σ (M t) k)) lf 0 0 := by
  refine CV_of (lv := [(0, .ref _), (1, .ref _)]) G (by decide) (Nat.le_of_ble_eq_true rfl) rfl (fun p e s m args below meth c F hr => ?_)
  have F : Fx p l s m args meth c cX3_copyFrom 2 RX3 X := F
  refine v_aload_n F dX3_copyFrom_0 rfl 0 rfl ?_
  refine v_aload_n F dX3_copyFrom_1 rfl 1 rfl ?_
  refine v_get F (id_R ht0 (by decide) hk) ((heO htr).trans ((celD_R ht0))) rfl uw_X3 0 (by decide) rfl rfl wf_X3_21 dX3_copyFrom_2 ?_
  refine v_putC F tyX3 tyX3_ok nmX3 (id_R hr0 (by decide) hk) (celD_R hr0) rfl uw_X3 0 (by decide) rfl rfl (by decide +kernel) (celD_R hr0) (Nat.le_of_ble_eq_true rfl) wf_X3_21 dX3_copyFrom_5 ?_
  refine v_aload_n F dX3_copyFrom_8 rfl 0 rfl ?_
  refine v_aload_n F dX3_copyFrom_9 rfl 1 rfl ?_
  refine v_get F (id_R ht0 (by decide) hk) ((heO htr).trans ((celD_R ht0))) rfl uw_X3 1 (by decide) rfl rfl wf_X3_9 dX3_copyFrom_10 ?_
  refine v_putC F tyX3 tyX3_ok nmX3 (id_R hr0 (by decide) hk) (celD_R hr0) rfl uw_X3 1 (by decide) rfl rfl (by decide +kernel) (celD_R hr0) (Nat.le_of_ble_eq_true rfl) wf_X3_9 dX3_copyFrom_13 ?_
  refine v_aload_n F dX3_copyFrom_16 rfl 0 rfl ?_
  refine v_aload_n F dX3_copyFrom_17 rfl 1 rfl ?_
  refine v_get F (id_R ht0 (by decide) hk) ((heO htr).trans ((celD_R ht0))) rfl uw_X3 2 (by decide) rfl rfl wf_X3_15 dX3_copyFrom_18 ?_
  refine v_putC F tyX3 tyX3_ok nmX3 (id_R hr0 (by decide) hk) (celD_R hr0) rfl uw_X3 2 (by decide) rfl rfl (by decide +kernel) (celD_R hr0) (Nat.le_of_ble_eq_true rfl) wf_X3_15 dX3_copyFrom_21 ?_
  refine v_aload_n F dX3_copyFrom_24 rfl 0 rfl ?_
  refine v_aload_n F dX3_copyFrom_25 rfl 1 rfl ?_
  refine v_get F (id_R ht0 (by decide) hk) ((heO htr).trans ((celD_R ht0))) rfl uw_X3 3 (by decide) rfl rfl wf_X3_18 dX3_copyFrom_26 ?_
  refine v_putC F tyX3 tyX3_ok nmX3 (id_R hr0 (by decide) hk) (celD_R hr0) rfl uw_X3 3 (by decide) rfl rfl (by decide +kernel) (celD_R hr0) (Nat.le_of_ble_eq_true rfl) wf_X3_18 dX3_copyFrom_29 ?_
  refine v_aload_n F dX3_copyFrom_32 rfl 0 rfl ?_
  refine v_aload_n F dX3_copyFrom_33 rfl 1 rfl ?_
  refine v_get F (id_R ht0 (by decide) hk) ((heO htr).trans ((celD_R ht0))) rfl uw_X3 4 (by decide) rfl rfl wf_X3_24 dX3_copyFrom_34 ?_
  refine v_putC F tyX3 tyX3_ok nmX3 (id_R hr0 (by decide) hk) (celD_R hr0) rfl uw_X3 4 (by decide) rfl rfl (by decide +kernel) (celD_R hr0) (Nat.le_of_ble_eq_true rfl) wf_X3_24 dX3_copyFrom_37 ?_
  refine v_aload_n F dX3_copyFrom_40 rfl 0 rfl ?_
  refine v_aload_n F dX3_copyFrom_41 rfl 1 rfl ?_
  refine v_get F (id_R ht0 (by decide) hk) ((heO htr).trans ((celD_R ht0))) rfl uw_X3 5 (by decide) rfl rfl wf_X3_27 dX3_copyFrom_42 ?_
  refine v_putC F tyX3 tyX3_ok nmX3 (id_R hr0 (by decide) hk) (celD_R hr0) rfl uw_X3 5 (by decide) rfl rfl (by decide +kernel) (celD_R hr0) (Nat.le_of_ble_eq_true rfl) wf_X3_27 dX3_copyFrom_45 ?_
  refine v_aload_n F dX3_copyFrom_48 rfl 0 rfl ?_
  refine v_aload_n F dX3_copyFrom_49 rfl 1 rfl ?_
  refine v_get F (id_R ht0 (by decide) hk) ((heO htr).trans ((celD_R ht0))) rfl uw_X3 6 (by decide) rfl rfl wf_X3_30 dX3_copyFrom_50 ?_
  refine v_putC F tyX3 tyX3_ok nmX3 (id_R hr0 (by decide) hk) (celD_R hr0) rfl uw_X3 6 (by decide) rfl rfl (by decide +kernel) (celD_R hr0) (Nat.le_of_ble_eq_true rfl) wf_X3_30 dX3_copyFrom_53 ?_
  refine v_aload_n F dX3_copyFrom_56 rfl 0 rfl ?_
  refine v_aload_n F dX3_copyFrom_57 rfl 1 rfl ?_
  refine v_get F (id_R ht0 (by decide) hk) ((heO htr).trans ((celD_R ht0))) rfl uw_X3 7 (by decide) rfl rfl wf_X3_33 dX3_copyFrom_58 ?_
  refine v_putC F tyX3 tyX3_ok nmX3 (id_R hr0 (by decide) hk) (celD_R hr0) rfl uw_X3 7 (by decide) rfl rfl (by decide +kernel) (celD_R hr0) (Nat.le_of_ble_eq_true rfl) wf_X3_33 dX3_copyFrom_61 ?_
  exact v_vret F hr dX3_copyFrom_64 rfl rfl
abbrev rm_X1_write : Room := { frames := 0, cells := 0, slots := 0, locals := 0 }
abbrev rm_X1_copyFrom : Room := { frames := 0, cells := 0, slots := 0, locals := 0 }
abbrev rm_X1_addTo : Room := { frames := 0, cells := 0, slots := 0, locals := 0 }
abbrev rm_J9_floorMod_7cf53 : Room := { frames := 0, cells := 0, slots := 0, locals := 0 }
abbrev rm_X1_placeIn : Room := { frames := 1, cells := 0, slots := 0, locals := 22 }
section RP
variable {p : Program} {l : Launch} {e : Env} {R : Room} {s : State} {m : MethodId} {args : Array Value} {below : List Frame} {meth : Method} {c : Code} {Q : State → Prop} {X : Cx} {nL : Nat} {ex : va_W} {M : Mem} {lf : Lf} {cells slots : Nat}
set_option maxHeartbeats 4000000 in
set_option maxRecDepth 100000 in
theorem L_X1_write (F : Fx p l s m args meth c cX1_write 6 RX1 X) {r : Nat} (hr0 : r < 2) {i : Nat} (hi : i < 4) {ow dg : Int32} {n0 : Nat} {τ : Sg} (K : ∀ (rest : Int32) (pl : Int32), V p l e R s m args below meth c Q X 6 ex (uC M r τ) lf cells slots 54 [(5, .int pl), (4, .int rest), (0, .ref (X.2.1 r 3 i)), (1, .int ow), (2, .int (nI n0)), (3, .int dg)] []) : ∀ (n : Nat), n ≤ 8 → ∀ (σ : Sg) (rest : Int32), wrL i ow n rest σ = τ → V p l e R s m args below meth c Q X 6 ex (uC M r σ) lf cells slots 16 [(5, .int (nI n - 1)), (4, .int rest), (0, .ref (X.2.1 r 3 i)), (1, .int ow), (2, .int (nI n0)), (3, .int dg)] [] := by
  intro n
  induction n with
  | zero =>
    intro hn8 σ rest hτ
    subst hτ
    refine v_iload F dX1_write_16 0 rfl ?_
    refine v_if_lt F (tgt := 54) dX1_write_18 (by decide) (fun c18 => ?_) (fun h => absurd ((by decide : (nI 0 - 1 : Int32) < 0)) h)
    exact K _ _
  | succ n ih =>
    intro hn8 σ rest hτ
    have e1 : nI (n + 1) - 1 = nI n := nI_pred n
    rw [e1]
    refine v_iload F dX1_write_16 0 rfl ?_
    refine v_if_lt F (tgt := 54) dX1_write_18 (by decide) (fun h => absurd h (nI_pos (by omega))) (fun c18 => ?_)
    refine v_aload_n F dX1_write_21 rfl 2 rfl ?_
    refine v_get F (id_R hr0 (by decide) hi) (heR hr0) rfl uw_X1 0 (by decide) rfl rfl wf_X1_9 dX1_write_22 ?_
    refine v_iload F dX1_write_25 0 rfl ?_
    refine v_iload F dX1_write_27 1 rfl ?_
    refine v_bipush F (v := 10) dX1_write_29 (by decide) ?_
    refine v_irem F dX1_write_31 (by decide) ?_
    refine v_iastC F (id_R hr0 (by decide) hi) (celD_R hr0) rfl (n) (Ix_nI (by omega)) (celD_R hr0) dX1_write_32 ?_
    refine v_aload_n F dX1_write_33 rfl 2 rfl ?_
    refine v_get F (id_R hr0 (by decide) hi) (heR hr0) rfl uw_X1 1 (by decide) rfl rfl wf_X1_15 dX1_write_34 ?_
    refine v_iload F dX1_write_37 0 rfl ?_
    refine v_iload_n F dX1_write_39 rfl 3 rfl ?_
    refine v_iastC F (id_R hr0 (by decide) hi) (celD_R hr0) rfl (n) (Ix_nI (by omega)) (celD_R hr0) dX1_write_40 ?_
    refine v_iload F dX1_write_41 1 rfl ?_
    refine v_bipush F (v := 10) dX1_write_43 (by decide) ?_
    refine v_idiv F dX1_write_45 (by decide) ?_
    refine v_istore F dX1_write_46 (by decide) (lv' := [(4, .int _), (5, .int _), (0, .ref _), (1, .int _), (2, .int _), (3, .int _)]) rfl ?_
    refine v_iinc F (k := 1) (nI n - 1) dX1_write_48 rfl (iinc_m1 _) (by decide) (lv' := [(5, .int _), (4, .int _), (0, .ref _), (1, .int _), (2, .int _), (3, .int _)]) rfl ?_
    refine v_goto F (tgt := 16) dX1_write_51 (by decide) ?_
    exact v_locs [0, 1, 2, 3, 4, 5] rfl (ih (by omega) _ _ hτ)
set_option maxHeartbeats 4000000 in
set_option maxRecDepth 100000 in
theorem c_X1_write {X : Cx} {l : Launch} (G : Gx X l) {M : Mem} {lf : Lf} {r : Nat} (hr0 : r < 2) {σ : Sg} {i : Nat} (hi : i < 4) (ow dg : Int32) {n : Nat} (h1 : 1 ≤ n) (h8 : n ≤ 8) : CV X l yX1_write (wsc yX1_write cX1_write 6 none) rm_X1_write [.ref (X.2.1 r 3 i), .int ow, .int (nI n), .int dg] (uC M r σ) lf (uC M r (fWrite σ i ow n dg)) lf 0 0 := by
  refine CV_of (lv := [(0, .ref _), (1, .int _), (2, .int _), (3, .int _)]) G (by decide) (Nat.le_of_ble_eq_true rfl) rfl (fun p e s m args below meth c F hr => ?_)
  have F : Fx p l s m args meth c cX1_write 6 RX1 X := F
  refine v_aload_n F dX1_write_0 rfl 0 rfl ?_
  refine v_iload_n F dX1_write_1 rfl 2 rfl ?_
  refine v_putC F tyX1 tyX1_ok nmX1 (id_R hr0 (by decide) hi) (celD_R hr0) rfl uw_X1 2 (by decide) rfl rfl (by decide +kernel) (celD_R hr0) (Nat.le_of_ble_eq_true rfl) wf_X1_18 dX1_write_2 ?_
  refine v_iload_n F dX1_write_5 rfl 3 rfl ?_
  refine v_istore F dX1_write_6 (by decide) (lv' := [(4, .int _), (0, .ref _), (1, .int _), (2, .int _), (3, .int _)]) rfl ?_
  refine v_aload_n F dX1_write_8 rfl 1 rfl ?_
  refine v_get F (id_R hr0 (by decide) hi) (heR hr0) rfl uw_X1 2 (by decide) rfl rfl wf_X1_18 dX1_write_9 ?_
  refine v_topr (nI n) (u3_at _ _ _ _ _) ?_
  refine v_iconst F (v := 1) dX1_write_12 (by decide) ?_
  refine v_isub F dX1_write_13 ?_
  refine v_istore F dX1_write_14 (by decide) (lv' := [(5, .int _), (4, .int _), (0, .ref _), (1, .int _), (2, .int _), (3, .int _)]) rfl ?_
  refine v_locs [0, 1, 2, 3, 4, 5] rfl ?_
  exact L_X1_write F hr0 hi (fun rest pl => v_vret F hr dX1_write_54 rfl rfl) n h8 _ dg rfl
set_option maxHeartbeats 4000000 in
set_option maxRecDepth 100000 in
theorem L_X1_copyFrom (F : Fx p l s m args meth c cX1_copyFrom 3 RX1 X) {r t : Nat} (hr0 : r < 2) (ht0 : t < 2) (htr : t ≠ r) {i : Nat} (hi : i < 4) {n : Nat} (h8 : n ≤ 8) {σ : Sg} (hσ : σ 3 i 2 = nI n) (K : V p l e R s m args below meth c Q X 3 ex (uC M r (cpPL i (M t) σ n)) lf cells slots 48 [(2, .int (nI n)), (0, .ref (X.2.1 r 3 i)), (1, .ref (X.2.1 t 3 i))] []) : ∀ (k q : Nat), k + q = n → V p l e R s m args below meth c Q X 3 ex (uC M r (cpPL i (M t) σ q)) lf cells slots 10 [(2, .int (nI q)), (0, .ref (X.2.1 r 3 i)), (1, .ref (X.2.1 t 3 i))] [] := by
  intro k
  induction k with
  | zero =>
    intro q hq
    obtain rfl : q = n := by omega
    have e0 : cpPL i (M t) σ q 3 i 2 = nI q := (cpPL_k (by decide) (by decide) q).trans hσ
    refine v_iload_n F dX1_copyFrom_10 rfl 0 rfl ?_
    refine v_aload_n F dX1_copyFrom_11 rfl 1 rfl ?_
    refine v_get F (id_R hr0 (by decide) hi) (heR hr0) rfl uw_X1 2 (by decide) rfl rfl wf_X1_18 dX1_copyFrom_12 ?_
    refine v_topr (nI q) e0 ?_
    refine v_icmp_ge F (tgt := 48) dX1_copyFrom_15 (by decide) (fun c15 => ?_) (fun h => absurd (nI_le (Nat.le_refl _) (by omega)) h)
    exact K
  | succ k ih =>
    intro q hq
    have e0 : cpPL i (M t) σ q 3 i 2 = nI n := (cpPL_k (by decide) (by decide) q).trans hσ
    refine v_iload_n F dX1_copyFrom_10 rfl 0 rfl ?_
    refine v_aload_n F dX1_copyFrom_11 rfl 1 rfl ?_
    refine v_get F (id_R hr0 (by decide) hi) (heR hr0) rfl uw_X1 2 (by decide) rfl rfl wf_X1_18 dX1_copyFrom_12 ?_
    refine v_topr (nI n) e0 ?_
    refine v_icmp_ge F (tgt := 48) dX1_copyFrom_15 (by decide) (fun h => absurd h (nI_ge (by omega) (by omega))) (fun c15 => ?_)
    refine v_aload_n F dX1_copyFrom_18 rfl 1 rfl ?_
    refine v_get F (id_R hr0 (by decide) hi) (heR hr0) rfl uw_X1 0 (by decide) rfl rfl wf_X1_9 dX1_copyFrom_19 ?_
    refine v_iload_n F dX1_copyFrom_22 rfl 0 rfl ?_
    refine v_aload_n F dX1_copyFrom_23 rfl 2 rfl ?_
    refine v_get F (id_R ht0 (by decide) hi) ((heO htr).trans ((celD_R ht0))) rfl uw_X1 0 (by decide) rfl rfl wf_X1_9 dX1_copyFrom_24 ?_
    refine v_iload_n F dX1_copyFrom_27 rfl 0 rfl ?_
    refine v_iald F (id_R ht0 (by decide) hi) ((heO htr).trans ((celD_R ht0))) rfl (q) (Ix_nI (by omega)) dX1_copyFrom_28 ?_
    refine v_iastC F (id_R hr0 (by decide) hi) (celD_R hr0) rfl (q) (Ix_nI (by omega)) (celD_R hr0) dX1_copyFrom_29 ?_
    refine v_aload_n F dX1_copyFrom_30 rfl 1 rfl ?_
    refine v_get F (id_R hr0 (by decide) hi) (heR hr0) rfl uw_X1 1 (by decide) rfl rfl wf_X1_15 dX1_copyFrom_31 ?_
    refine v_iload_n F dX1_copyFrom_34 rfl 0 rfl ?_
    refine v_aload_n F dX1_copyFrom_35 rfl 2 rfl ?_
    refine v_get F (id_R ht0 (by decide) hi) ((heO htr).trans ((celD_R ht0))) rfl uw_X1 1 (by decide) rfl rfl wf_X1_15 dX1_copyFrom_36 ?_
    refine v_iload_n F dX1_copyFrom_39 rfl 0 rfl ?_
    refine v_iald F (id_R ht0 (by decide) hi) ((heO htr).trans ((celD_R ht0))) rfl (q) (Ix_nI (by omega)) dX1_copyFrom_40 ?_
    refine v_iastC F (id_R hr0 (by decide) hi) (celD_R hr0) rfl (q) (Ix_nI (by omega)) (celD_R hr0) dX1_copyFrom_41 ?_
    refine v_iinc F (k := 0) (nI (q + 1)) dX1_copyFrom_42 rfl (iinc_nI q) (by decide) (lv' := [(2, .int _), (0, .ref _), (1, .ref _)]) rfl ?_
    refine v_goto F (tgt := 10) dX1_copyFrom_45 (by decide) ?_
    exact ih (q + 1) (by omega)
set_option maxHeartbeats 4000000 in
set_option maxRecDepth 100000 in
theorem c_X1_copyFrom {X : Cx} {l : Launch} (G : Gx X l) {M : Mem} {lf : Lf} {r t : Nat} (hr0 : r < 2) (ht0 : t < 2) (htr : t ≠ r) {σ : Sg} {i : Nat} (hi : i < 4) {n : Nat} (h8 : n ≤ 8) (hn : M t 3 i 2 = nI n) : CV X l yX1_copyFrom (wsc yX1_copyFrom cX1_copyFrom 3 none) rm_X1_copyFrom [.ref (X.2.1 r 3 i), .ref (X.2.1 t 3 i)] (uC M r σ) lf (uC M r (fCopyP σ (M t) i n)) lf 0 0 := by
  refine CV_of (lv := [(0, .ref _), (1, .ref _)]) G (by decide) (Nat.le_of_ble_eq_true rfl) rfl (fun p e s m args below meth c F hr => ?_)
  have F : Fx p l s m args meth c cX1_copyFrom 3 RX1 X := F
  refine v_aload_n F dX1_copyFrom_0 rfl 0 rfl ?_
  refine v_aload_n F dX1_copyFrom_1 rfl 1 rfl ?_
  refine v_get F (id_R ht0 (by decide) hi) ((heO htr).trans ((celD_R ht0))) rfl uw_X1 2 (by decide) rfl rfl wf_X1_18 dX1_copyFrom_2 ?_
  refine v_putC F tyX1 tyX1_ok nmX1 (id_R hr0 (by decide) hi) (celD_R hr0) rfl uw_X1 2 (by decide) rfl rfl (by decide +kernel) (celD_R hr0) (Nat.le_of_ble_eq_true rfl) wf_X1_18 dX1_copyFrom_5 ?_
  refine v_iconst F (v := nI 0) dX1_copyFrom_8 (by decide) ?_
  refine v_istore_n F dX1_copyFrom_9 rfl (by decide) (lv' := [(2, .int _), (0, .ref _), (1, .ref _)]) rfl ?_
  exact L_X1_copyFrom F hr0 ht0 htr hi h8 (by rw [u3_at]; exact hn) (v_vret F hr dX1_copyFrom_48 rfl rfl) n 0 rfl
end RP
theorem reL_01 (σ : Sg) (i d : Nat) : ∀ k p : Nat, reL σ i d k p = 0 ∨ reL σ i d k p = 1
  | 0, p => Or.inr rfl
  | k + 1, p => by
    unfold reL
    split
    · exact reL_01 σ i d k (p + 1)
    · exact Or.inl rfl
theorem fRep_01 (σ : Sg) (i n d : Nat) : fRep σ i n d = 0 ∨ fRep σ i n d = 1 := reL_01 σ i d (n - d) d
section RQ
variable {p : Program} {l : Launch} {e : Env} {R : Room} {s : State} {m : MethodId} {args : Array Value} {below : List Frame} {meth : Method} {c : Code} {Q : State → Prop} {X : Cx} {nL : Nat} {ex : va_W} {M : Mem} {lf : Lf} {cells slots : Nat}
set_option maxHeartbeats 4000000 in
set_option maxRecDepth 100000 in
theorem c_floorMod {X : Cx} {l : Launch} (G : Gx X l) {M : Mem} {lf : Lf} {b n : Nat} (hb : b < 2 ^ 31) (h1 : 1 ≤ n) (hn : n < 2 ^ 31) : CI X l yJ9_floorMod_7cf53 (wsc yJ9_floorMod_7cf53 cJ9_floorMod_7cf53 3 (some .int)) rm_J9_floorMod_7cf53 [.int (nI b), .int (nI n)] (M) lf (nI (b % n)) (M) lf 0 0 := by
  refine CI_ofF (lv := [(0, .int _), (1, .int _)]) G (by decide +kernel) (Nat.le_of_ble_eq_true rfl) rfl (fun p e s m args below meth c F hr => ?_)
  have F : Fx p l s m args meth c cJ9_floorMod_7cf53 3 RJ9 X := F
  refine v_iload_n F dJ9_floorMod_7cf53_0 rfl 0 rfl ?_
  refine v_iload_n F dJ9_floorMod_7cf53_1 rfl 1 rfl ?_
  refine v_irem F dJ9_floorMod_7cf53_2 (nI_ne0 h1 hn) ?_
  refine v_topr (nI (b % n)) (pk_rem hb h1 hn) ?_
  refine v_istore_n F dJ9_floorMod_7cf53_3 rfl (by decide) (lv' := [(2, .int _), (0, .int _), (1, .int _)]) rfl ?_
  refine v_iload_n F dJ9_floorMod_7cf53_4 rfl 1 rfl ?_
  refine v_iload_n F dJ9_floorMod_7cf53_5 rfl 2 rfl ?_
  refine v_ixor F dJ9_floorMod_7cf53_6 ?_
  refine v_if_ge F (tgt := 18) dJ9_floorMod_7cf53_7 (by decide) (fun c7 => ?_) (fun h => absurd (xor_pos hb hn) h)
  refine v_iload_n F dJ9_floorMod_7cf53_18 rfl 0 rfl ?_
  exact v_iret F hr dJ9_floorMod_7cf53_19 rfl rfl rfl
set_option maxHeartbeats 4000000 in
set_option maxRecDepth 100000 in
theorem c_X1_placeIn {X : Cx} {l : Launch} (G : Gx X l) {M : Mem} {lf : Lf} {r : Nat} (hr0 : r < 2) {σ : Sg} {i : Nat} (hi : i < 4) {b n : Nat} (hb : b < 2 ^ 31) (h1 : 1 ≤ n) (h8 : n ≤ 8) (hn : σ 3 i 2 = nI n) : CI X l yX1_placeIn (wsc yX1_placeIn cX1_placeIn 2 (some .int)) rm_X1_placeIn [.ref (X.2.1 r 3 i), .int (nI b)] (uC M r σ) lf (nI (b % n)) (uC M r σ) lf 0 0 := by
  refine CI_of (lv := [(0, .ref _), (1, .int _)]) G (by decide) (Nat.le_of_ble_eq_true rfl) rfl (fun p e s m args below meth c F hr => ?_)
  have F : Fx p l s m args meth c cX1_placeIn 2 RX1 X := F
  refine v_iload_n F dX1_placeIn_0 rfl 1 rfl ?_
  refine v_aload_n F dX1_placeIn_1 rfl 0 rfl ?_
  refine v_get F (id_R hr0 (by decide) hi) (heR hr0) rfl uw_X1 2 (by decide) rfl rfl wf_X1_18 dX1_placeIn_2 ?_
  refine v_topr (nI n) hn ?_
  refine v_callSi F (As := [_, _]) (rest := []) rfl (c_floorMod G hb h1 (by omega)) wm_X1_22 rfl ⟨rfl, rfl, Nat.le_of_ble_eq_true rfl, Nat.le_of_ble_eq_true rfl, Nat.le_of_ble_eq_true rfl, Nat.le_of_ble_eq_true rfl, Nat.le_of_ble_eq_true rfl⟩ dX1_placeIn_5 ?_
  exact v_iret F hr dX1_placeIn_8 rfl rfl rfl
set_option maxHeartbeats 4000000 in
set_option maxRecDepth 100000 in
theorem L_X1_addTo (F : Fx p l s m args meth c cX1_addTo 6 RX1 X) {r : Nat} (hr0 : r < 2) {i : Nat} (hi : i < 4) {n : Nat} (h8 : n ≤ 8) {σ : Sg} (hσ : σ 3 i 2 = nI n) {dg : Int64} (K : V p l e R s m args below meth c Q X 6 ex (uC M r σ) lf cells slots 50 [(5, .int (nI n)), (3, .long (adL σ i dg n)), (0, .ref (X.2.1 r 3 i)), (1, .long dg)] []) : ∀ (k q : Nat), k + q = n → V p l e R s m args below meth c Q X 6 ex (uC M r σ) lf cells slots 5 [(5, .int (nI q)), (3, .long (adL σ i dg q)), (0, .ref (X.2.1 r 3 i)), (1, .long dg)] [] := by
  intro k
  induction k with
  | zero =>
    intro q hq
    obtain rfl : q = n := by omega
    refine v_iload F dX1_addTo_5 0 rfl ?_
    refine v_aload_n F dX1_addTo_7 rfl 2 rfl ?_
    refine v_get F (id_R hr0 (by decide) hi) (heR hr0) rfl uw_X1 2 (by decide) rfl rfl wf_X1_18 dX1_addTo_8 ?_
    refine v_topr (nI q) hσ ?_
    refine v_icmp_ge F (tgt := 50) dX1_addTo_11 (by decide) (fun c11 => ?_) (fun h => absurd (nI_le (Nat.le_refl _) (by omega)) h)
    exact K
  | succ k ih =>
    intro q hq
    refine v_iload F dX1_addTo_5 0 rfl ?_
    refine v_aload_n F dX1_addTo_7 rfl 2 rfl ?_
    refine v_get F (id_R hr0 (by decide) hi) (heR hr0) rfl uw_X1 2 (by decide) rfl rfl wf_X1_18 dX1_addTo_8 ?_
    refine v_topr (nI n) hσ ?_
    refine v_icmp_ge F (tgt := 50) dX1_addTo_11 (by decide) (fun h => absurd h (nI_ge (by omega) (by omega))) (fun c11 => ?_)
    refine v_lload_n F dX1_addTo_14 rfl 1 rfl ?_
    refine v_ldc2 F wk_X1_32 dX1_addTo_15 ?_
    refine v_lmul F dX1_addTo_18 ?_
    refine v_aload_n F dX1_addTo_19 rfl 2 rfl ?_
    refine v_get F (id_R hr0 (by decide) hi) (heR hr0) rfl uw_X1 0 (by decide) rfl rfl wf_X1_9 dX1_addTo_20 ?_
    refine v_iload F dX1_addTo_23 0 rfl ?_
    refine v_iald F (id_R hr0 (by decide) hi) (heR hr0) rfl (q) (Ix_nI (by omega)) dX1_addTo_25 ?_
    refine v_i2l F dX1_addTo_26 ?_
    refine v_ladd F dX1_addTo_27 ?_
    refine v_lstore_n F dX1_addTo_28 rfl (by decide) (lv' := [(3, .long _), (5, .int _), (0, .ref _), (1, .long _)]) rfl ?_
    refine v_lload_n F dX1_addTo_29 rfl 0 rfl ?_
    refine v_ldc2 F wk_X1_32 dX1_addTo_30 ?_
    refine v_lmul F dX1_addTo_33 ?_
    refine v_aload_n F dX1_addTo_34 rfl 2 rfl ?_
    refine v_get F (id_R hr0 (by decide) hi) (heR hr0) rfl uw_X1 1 (by decide) rfl rfl wf_X1_15 dX1_addTo_35 ?_
    refine v_iload F dX1_addTo_38 1 rfl ?_
    refine v_iald F (id_R hr0 (by decide) hi) (heR hr0) rfl (q) (Ix_nI (by omega)) dX1_addTo_40 ?_
    refine v_i2l F dX1_addTo_41 ?_
    refine v_ladd F dX1_addTo_42 ?_
    refine v_lstore_n F dX1_addTo_43 rfl (by decide) (lv' := [(3, .long _), (5, .int _), (0, .ref _), (1, .long _)]) rfl ?_
    refine v_iinc F (k := 1) (nI (q + 1)) dX1_addTo_44 rfl (iinc_nI q) (by decide) (lv' := [(5, .int _), (3, .long _), (0, .ref _), (1, .long _)]) rfl ?_
    refine v_goto F (tgt := 5) dX1_addTo_47 (by decide) ?_
    exact ih (q + 1) (by omega)
set_option maxHeartbeats 4000000 in
set_option maxRecDepth 100000 in
theorem c_X1_addTo {X : Cx} {l : Launch} (G : Gx X l) {M : Mem} {lf : Lf} {r : Nat} (hr0 : r < 2) {σ : Sg} {i : Nat} (hi : i < 4) {n : Nat} (h8 : n ≤ 8) (hn : σ 3 i 2 = nI n) (dg : Int64) : CL X l yX1_addTo (wsc yX1_addTo cX1_addTo 6 (some .long)) rm_X1_addTo [.ref (X.2.1 r 3 i), .long dg] (uC M r σ) lf (adL σ i dg n) (uC M r σ) lf 0 0 := by
  refine CL_of (lv := [(0, .ref _), (1, .long _)]) G (by decide) (Nat.le_of_ble_eq_true rfl) rfl (fun p e s m args below meth c F hr => ?_)
  have F : Fx p l s m args meth c cX1_addTo 6 RX1 X := F
  refine v_lload_n F dX1_addTo_0 rfl 1 rfl ?_
  refine v_lstore_n F dX1_addTo_1 rfl (by decide) (lv' := [(3, .long _), (0, .ref _), (1, .long _)]) rfl ?_
  refine v_iconst F (v := nI 0) dX1_addTo_2 (by decide) ?_
  refine v_istore F dX1_addTo_3 (by decide) (lv' := [(5, .int _), (3, .long _), (0, .ref _), (1, .long _)]) rfl ?_
  refine L_X1_addTo F hr0 hi h8 hn ?_ n 0 (Nat.add_zero n)
  · skip
    refine v_lload_n F dX1_addTo_50 rfl 1 rfl ?_
    exact v_lret F hr dX1_addTo_51 rfl rfl rfl
end RQ
abbrev rm_X0_copyFrom : Room := { frames := 1, cells := 0, slots := 0, locals := 22 }
abbrev rm_X0_canCatch : Room := { frames := 0, cells := 0, slots := 0, locals := 0 }
abbrev rm_X0_miss : Room := { frames := 1, cells := 0, slots := 0, locals := 20 }
abbrev rm_X0_thingsHeld : Room := { frames := 0, cells := 0, slots := 0, locals := 0 }
set_option maxHeartbeats 4000000 in
set_option maxRecDepth 100000 in
theorem c_X0_canCatch {X : Cx} {l : Launch} (G : Gx X l) {M : Mem} {lf : Lf} {r : Nat} (hr0 : r < 2) {σ : Sg} {i : Nat} (hi : i < 4) (h : Int32) {hd : Nat} (hh : hd < 2) : CI X l yX0_canCatch (wsc yX0_canCatch cX0_canCatch 3 (some .boolean)) rm_X0_canCatch [.ref (X.2.1 r 2 i), .int h, .int (nI hd)] (uC M r σ) lf (fCan σ i h hd) (uC M r σ) lf 0 0 := by
  refine CI_of (lv := [(0, .ref _), (1, .int _), (2, .int _)]) G (by decide) (Nat.le_of_ble_eq_true rfl) rfl (fun p e s m args below meth c F hr => ?_)
  have F : Fx p l s m args meth c cX0_canCatch 3 RX0 X := F
  refine v_aload_n F dX0_canCatch_0 rfl 0 rfl ?_
  refine v_get F (id_R hr0 (by decide) hi) (heR hr0) rfl uw_X0 1 (by decide) rfl rfl wf_X0_18 dX0_canCatch_1 ?_
  refine v_iload_n F dX0_canCatch_4 rfl 2 rfl ?_
  refine v_iald F (id_R hr0 (by decide) hi) (heR hr0) rfl (hd) (Ix_nI (by omega)) dX0_canCatch_5 ?_
  refine v_iconst F (v := (-1)) dX0_canCatch_6 (by decide) ?_
  refine v_icmp_ne F (tgt := 24) dX0_canCatch_7 (by decide) (fun c7 => ?_) (fun c7 => ?_)
  · have := c7
    refine v_iconst F (v := 0) dX0_canCatch_24 (by decide) ?_
    refine v_zret F hr dX0_canCatch_25 rfl ?_ rfl rfl
    simp_all [fCan]
  · have := c7
    refine v_iload_n F dX0_canCatch_10 rfl 1 rfl ?_
    refine v_aload_n F dX0_canCatch_11 rfl 0 rfl ?_
    refine v_get F (id_R hr0 (by decide) hi) (heR hr0) rfl uw_X0 2 (by decide) rfl rfl wf_X0_26 dX0_canCatch_12 ?_
    refine v_iconst F (v := 2) dX0_canCatch_15 (by decide) ?_
    refine v_iadd F dX0_canCatch_16 ?_
    refine v_icmp_gt F (tgt := 24) dX0_canCatch_17 (by decide) (fun c17 => ?_) (fun c17 => ?_)
    · have := c17
      refine v_iconst F (v := 0) dX0_canCatch_24 (by decide) ?_
      refine v_zret F hr dX0_canCatch_25 rfl ?_ rfl rfl
      simp_all [fCan]
    · have := c17
      refine v_iconst F (v := 1) dX0_canCatch_20 (by decide) ?_
      refine v_goto F (tgt := 25) dX0_canCatch_21 (by decide) ?_
      refine v_zret F hr dX0_canCatch_25 rfl ?_ rfl rfl
      simp_all [fCan]
set_option maxHeartbeats 4000000 in
set_option maxRecDepth 100000 in
theorem c_X0_miss {X : Cx} {l : Launch} (G : Gx X l) {M : Mem} {lf : Lf} {r : Nat} (hr0 : r < 2) {σ : Sg} {i : Nat} (hi : i < 4) {k : Nat} (hk : k < 12) : CV X l yX0_miss (wsc yX0_miss cX0_miss 2 none) rm_X0_miss [.ref (X.2.1 r 2 i), .ref (X.2.1 r 8 k)] (uC M r σ) lf (uC M r (fMiss σ i k)) lf 0 0 := by
  refine CV_of (lv := [(0, .ref _), (1, .ref _)]) G (by decide) (Nat.le_of_ble_eq_true rfl) rfl (fun p e s m args below meth c F hr => ?_)
  have F : Fx p l s m args meth c cX0_miss 2 RX0 X := F
  refine v_aload_n F dX0_miss_0 rfl 1 rfl ?_
  refine v_getN F (id_R hr0 (by decide) hk) (heR hr0) rfl uw_X3 0 (by decide) rfl rfl wf_X0_36 dX0_miss_1 ?_
  refine v_iconst F (v := 1) dX0_miss_4 (by decide) ?_
  refine v_icmp_ne F (tgt := 18) dX0_miss_5 (by decide) (fun c5 => ?_) (fun c5 => ?_)
  · have := c5
    refine v_aload_n F dX0_miss_18 rfl 1 rfl ?_
    refine v_callNv F (As := []) (rest := []) rfl (c_X3_fall G hr0 hk) (Rv_T hr0 hk) wm_X0_41 rfl ⟨rfl, rfl, Nat.le_of_ble_eq_true rfl, Nat.le_of_ble_eq_true rfl, Nat.le_of_ble_eq_true rfl, Nat.le_of_ble_eq_true rfl, Nat.le_of_ble_eq_true rfl⟩ dX0_miss_19 ?_
    refine v_vret F hr dX0_miss_22 ?_ rfl
    unfold fMiss
    first | (rw [if_pos c5]) | (rw [if_neg c5])
  · have := c5
    refine v_aload_n F dX0_miss_8 rfl 0 rfl ?_
    refine v_dup F dX0_miss_9 rfl ?_
    refine v_get F (id_R hr0 (by decide) hi) (heR hr0) rfl uw_X0 3 (by decide) rfl rfl wf_X0_30 dX0_miss_10 ?_
    refine v_iconst F (v := 1) dX0_miss_13 (by decide) ?_
    refine v_iadd F dX0_miss_14 ?_
    refine v_putC F tyX0 tyX0_ok nmX0 (id_R hr0 (by decide) hi) (celD_R hr0) rfl uw_X0 3 (by decide) rfl rfl (by decide +kernel) (celD_R hr0) (Nat.le_of_ble_eq_true rfl) wf_X0_30 dX0_miss_15 ?_
    refine v_aload_n F dX0_miss_18 rfl 1 rfl ?_
    refine v_callNv F (As := []) (rest := []) rfl (c_X3_fall G hr0 hk) (Rv_T hr0 hk) wm_X0_41 rfl ⟨rfl, rfl, Nat.le_of_ble_eq_true rfl, Nat.le_of_ble_eq_true rfl, Nat.le_of_ble_eq_true rfl, Nat.le_of_ble_eq_true rfl, Nat.le_of_ble_eq_true rfl⟩ dX0_miss_19 ?_
    refine v_vret F hr dX0_miss_22 ?_ rfl
    unfold fMiss
    first | (rw [if_pos c5]) | (rw [if_neg c5])
set_option maxHeartbeats 4000000 in
set_option maxRecDepth 100000 in
theorem c_X0_thingsHeld {X : Cx} {l : Launch} (G : Gx X l) {M : Mem} {lf : Lf} {r : Nat} (hr0 : r < 2) {σ : Sg} {i : Nat} (hi : i < 4) : CI X l yX0_thingsHeld (wsc yX0_thingsHeld cX0_thingsHeld 3 (some .int)) rm_X0_thingsHeld [.ref (X.2.1 r 2 i)] (uC M r σ) lf (fHeld σ i) (uC M r σ) lf 0 0 := by
  refine CI_of (lv := [(0, .ref _)]) G (by decide) (Nat.le_of_ble_eq_true rfl) rfl (fun p e s m args below meth c F hr => ?_)
  have F : Fx p l s m args meth c cX0_thingsHeld 3 RX0 X := F
  refine v_iconst F (v := 0) dX0_thingsHeld_0 (by decide) ?_
  refine v_istore_n F dX0_thingsHeld_1 rfl (by decide) (lv' := [(1, .int _), (0, .ref _)]) rfl ?_
  refine v_iconst F (v := nI 0) dX0_thingsHeld_2 (by decide) ?_
  refine v_istore_n F dX0_thingsHeld_3 rfl (by decide) (lv' := [(2, .int _), (1, .int _), (0, .ref _)]) rfl ?_
  refine v_iload_n F dX0_thingsHeld_4 rfl 0 rfl ?_
  refine v_iconst F (v := 2) dX0_thingsHeld_5 (by decide) ?_
  refine v_icmp_ge F (tgt := 28) dX0_thingsHeld_6 (by decide) (fun h => absurd h ((by decide))) (fun c6 => ?_)
  refine v_aload_n F dX0_thingsHeld_9 rfl 2 rfl ?_
  refine v_get F (id_R hr0 (by decide) hi) (heR hr0) rfl uw_X0 1 (by decide) rfl rfl wf_X0_18 dX0_thingsHeld_10 ?_
  refine v_iload_n F dX0_thingsHeld_13 rfl 0 rfl ?_
  refine v_iald F (id_R hr0 (by decide) hi) (heR hr0) rfl (0) (Ix_nI (by omega)) dX0_thingsHeld_14 ?_
  refine v_iconst F (v := (-1)) dX0_thingsHeld_15 (by decide) ?_
  refine v_icmp_eq F (tgt := 22) dX0_thingsHeld_16 (by decide) (fun c16 => ?_) (fun c16 => ?_)
  · have := c16
    refine v_iinc F (k := 0) (nI 1) dX0_thingsHeld_22 rfl (by decide) (by decide) (lv' := [(2, .int _), (1, .int _), (0, .ref _)]) rfl ?_
    refine v_goto F (tgt := 4) dX0_thingsHeld_25 (by decide) ?_
    refine v_iload_n F dX0_thingsHeld_4 rfl 0 rfl ?_
    refine v_iconst F (v := 2) dX0_thingsHeld_5 (by decide) ?_
    refine v_icmp_ge F (tgt := 28) dX0_thingsHeld_6 (by decide) (fun h => absurd h ((by decide))) (fun c6 => ?_)
    refine v_aload_n F dX0_thingsHeld_9 rfl 2 rfl ?_
    refine v_get F (id_R hr0 (by decide) hi) (heR hr0) rfl uw_X0 1 (by decide) rfl rfl wf_X0_18 dX0_thingsHeld_10 ?_
    refine v_iload_n F dX0_thingsHeld_13 rfl 0 rfl ?_
    refine v_iald F (id_R hr0 (by decide) hi) (heR hr0) rfl (1) (Ix_nI (by omega)) dX0_thingsHeld_14 ?_
    refine v_iconst F (v := (-1)) dX0_thingsHeld_15 (by decide) ?_
    refine v_icmp_eq F (tgt := 22) dX0_thingsHeld_16 (by decide) (fun c16b => ?_) (fun c16b => ?_)
    · have := c16b
      refine v_iinc F (k := 0) (nI 2) dX0_thingsHeld_22 rfl (by decide) (by decide) (lv' := [(2, .int _), (1, .int _), (0, .ref _)]) rfl ?_
      refine v_goto F (tgt := 4) dX0_thingsHeld_25 (by decide) ?_
      refine v_iload_n F dX0_thingsHeld_4 rfl 0 rfl ?_
      refine v_iconst F (v := 2) dX0_thingsHeld_5 (by decide) ?_
      refine v_icmp_ge F (tgt := 28) dX0_thingsHeld_6 (by decide) (fun c6 => ?_) (fun h => absurd ((by decide)) h)
      refine v_iload_n F dX0_thingsHeld_28 rfl 1 rfl ?_
      refine v_iret F hr dX0_thingsHeld_29 ?_ rfl rfl
      simp_all [fHeld, cI]
    · have := c16b
      refine v_iinc F (k := 1) (_) dX0_thingsHeld_19 rfl rfl (by decide) (lv' := [(1, .int _), (2, .int _), (0, .ref _)]) rfl ?_
      refine v_iinc F (k := 1) (nI 2) dX0_thingsHeld_22 rfl (by decide) (by decide) (lv' := [(2, .int _), (1, .int _), (0, .ref _)]) rfl ?_
      refine v_goto F (tgt := 4) dX0_thingsHeld_25 (by decide) ?_
      refine v_iload_n F dX0_thingsHeld_4 rfl 0 rfl ?_
      refine v_iconst F (v := 2) dX0_thingsHeld_5 (by decide) ?_
      refine v_icmp_ge F (tgt := 28) dX0_thingsHeld_6 (by decide) (fun c6 => ?_) (fun h => absurd ((by decide)) h)
      refine v_iload_n F dX0_thingsHeld_28 rfl 1 rfl ?_
      refine v_iret F hr dX0_thingsHeld_29 ?_ rfl rfl
      simp_all [fHeld, cI]
  · have := c16
    refine v_iinc F (k := 1) (_) dX0_thingsHeld_19 rfl rfl (by decide) (lv' := [(1, .int _), (2, .int _), (0, .ref _)]) rfl ?_
    refine v_iinc F (k := 1) (nI 1) dX0_thingsHeld_22 rfl (by decide) (by decide) (lv' := [(2, .int _), (1, .int _), (0, .ref _)]) rfl ?_
    refine v_goto F (tgt := 4) dX0_thingsHeld_25 (by decide) ?_
    refine v_iload_n F dX0_thingsHeld_4 rfl 0 rfl ?_
    refine v_iconst F (v := 2) dX0_thingsHeld_5 (by decide) ?_
    refine v_icmp_ge F (tgt := 28) dX0_thingsHeld_6 (by decide) (fun h => absurd h ((by decide))) (fun c6 => ?_)
    refine v_aload_n F dX0_thingsHeld_9 rfl 2 rfl ?_
    refine v_get F (id_R hr0 (by decide) hi) (heR hr0) rfl uw_X0 1 (by decide) rfl rfl wf_X0_18 dX0_thingsHeld_10 ?_
    refine v_iload_n F dX0_thingsHeld_13 rfl 0 rfl ?_
    refine v_iald F (id_R hr0 (by decide) hi) (heR hr0) rfl (1) (Ix_nI (by omega)) dX0_thingsHeld_14 ?_
    refine v_iconst F (v := (-1)) dX0_thingsHeld_15 (by decide) ?_
    refine v_icmp_eq F (tgt := 22) dX0_thingsHeld_16 (by decide) (fun c16b => ?_) (fun c16b => ?_)
    · have := c16b
      refine v_iinc F (k := 0) (nI 2) dX0_thingsHeld_22 rfl (by decide) (by decide) (lv' := [(2, .int _), (1, .int _), (0, .ref _)]) rfl ?_
      refine v_goto F (tgt := 4) dX0_thingsHeld_25 (by decide) ?_
      refine v_iload_n F dX0_thingsHeld_4 rfl 0 rfl ?_
      refine v_iconst F (v := 2) dX0_thingsHeld_5 (by decide) ?_
      refine v_icmp_ge F (tgt := 28) dX0_thingsHeld_6 (by decide) (fun c6 => ?_) (fun h => absurd ((by decide)) h)
      refine v_iload_n F dX0_thingsHeld_28 rfl 1 rfl ?_
      refine v_iret F hr dX0_thingsHeld_29 ?_ rfl rfl
      simp_all [fHeld, cI]
    · have := c16b
      refine v_iinc F (k := 1) (_) dX0_thingsHeld_19 rfl rfl (by decide) (lv' := [(1, .int _), (2, .int _), (0, .ref _)]) rfl ?_
      refine v_iinc F (k := 1) (nI 2) dX0_thingsHeld_22 rfl (by decide) (by decide) (lv' := [(2, .int _), (1, .int _), (0, .ref _)]) rfl ?_
      refine v_goto F (tgt := 4) dX0_thingsHeld_25 (by decide) ?_
      refine v_iload_n F dX0_thingsHeld_4 rfl 0 rfl ?_
      refine v_iconst F (v := 2) dX0_thingsHeld_5 (by decide) ?_
      refine v_icmp_ge F (tgt := 28) dX0_thingsHeld_6 (by decide) (fun c6 => ?_) (fun h => absurd ((by decide)) h)
      refine v_iload_n F dX0_thingsHeld_28 rfl 1 rfl ?_
      refine v_iret F hr dX0_thingsHeld_29 ?_ rfl rfl
      simp_all [fHeld, cI]
set_option maxHeartbeats 4000000 in
set_option maxRecDepth 100000 in
theorem c_X0_copyFrom {X : Cx} {l : Launch} (G : Gx X l) {M : Mem} {lf : Lf} {r t : Nat} (hr0 : r < 2) (ht0 : t < 2) (htr : t ≠ r) {σ : Sg} {i : Nat} (hi : i < 4) {n : Nat} (h8 : n ≤ 8) (hn : M t 3 i 2 = nI n) : CV X l yX0_copyFrom (wsc yX0_copyFrom cX0_copyFrom 3 none) rm_X0_copyFrom [.ref (X.2.1 r 2 i), .ref (X.2.1 t 2 i)] (uC M r σ) lf (uC M r (fCopyJ σ (M t) i n)) lf 0 0 := by
  refine CV_of (lv := [(0, .ref _), (1, .ref _)]) G (by decide) (Nat.le_of_ble_eq_true rfl) rfl (fun p e s m args below meth c F hr => ?_)
  have F : Fx p l s m args meth c cX0_copyFrom 3 RX0 X := F
  refine v_aload_n F dX0_copyFrom_0 rfl 0 rfl ?_
  refine v_get F (id_R hr0 (by decide) hi) (heR hr0) rfl uw_X0 0 (by decide) rfl rfl wf_X0_12 dX0_copyFrom_1 ?_
  refine v_aload_n F dX0_copyFrom_4 rfl 1 rfl ?_
  refine v_get F (id_R ht0 (by decide) hi) ((heO htr).trans ((celD_R ht0))) rfl uw_X0 0 (by decide) rfl rfl wf_X0_12 dX0_copyFrom_5 ?_
  refine v_callNv F (As := [_]) (rest := []) rfl (c_X1_copyFrom G hr0 ht0 htr hi h8 hn) (Rv_P hr0 hi) wm_X0_22 rfl ⟨rfl, rfl, Nat.le_of_ble_eq_true rfl, Nat.le_of_ble_eq_true rfl, Nat.le_of_ble_eq_true rfl, Nat.le_of_ble_eq_true rfl, Nat.le_of_ble_eq_true rfl⟩ dX0_copyFrom_8 ?_
  refine v_iconst F (v := nI 0) dX0_copyFrom_11 (by decide) ?_
  refine v_istore_n F dX0_copyFrom_12 rfl (by decide) (lv' := [(2, .int _), (0, .ref _), (1, .ref _)]) rfl ?_
  refine v_iload_n F dX0_copyFrom_13 rfl 0 rfl ?_
  refine v_iconst F (v := 2) dX0_copyFrom_14 (by decide) ?_
  refine v_icmp_ge F (tgt := 36) dX0_copyFrom_15 (by decide) (fun h => absurd h ((by decide))) (fun c15 => ?_)
  refine v_aload_n F dX0_copyFrom_18 rfl 1 rfl ?_
  refine v_get F (id_R hr0 (by decide) hi) (heR hr0) rfl uw_X0 1 (by decide) rfl rfl wf_X0_18 dX0_copyFrom_19 ?_
  refine v_iload_n F dX0_copyFrom_22 rfl 0 rfl ?_
  refine v_aload_n F dX0_copyFrom_23 rfl 2 rfl ?_
  refine v_get F (id_R ht0 (by decide) hi) ((heO htr).trans ((celD_R ht0))) rfl uw_X0 1 (by decide) rfl rfl wf_X0_18 dX0_copyFrom_24 ?_
  refine v_iload_n F dX0_copyFrom_27 rfl 0 rfl ?_
  refine v_iald F (id_R ht0 (by decide) hi) ((heO htr).trans ((celD_R ht0))) rfl (0) (Ix_nI (by omega)) dX0_copyFrom_28 ?_
  refine v_iastC F (id_R hr0 (by decide) hi) (celD_R hr0) rfl (0) (Ix_nI (by omega)) (celD_R hr0) dX0_copyFrom_29 ?_
  refine v_iinc F (k := 0) (nI 1) dX0_copyFrom_30 rfl (by decide) (by decide) (lv' := [(2, .int _), (0, .ref _), (1, .ref _)]) rfl ?_
  refine v_goto F (tgt := 13) dX0_copyFrom_33 (by decide) ?_
  refine v_iload_n F dX0_copyFrom_13 rfl 0 rfl ?_
  refine v_iconst F (v := 2) dX0_copyFrom_14 (by decide) ?_
  refine v_icmp_ge F (tgt := 36) dX0_copyFrom_15 (by decide) (fun h => absurd h ((by decide))) (fun c15 => ?_)
  refine v_aload_n F dX0_copyFrom_18 rfl 1 rfl ?_
  refine v_get F (id_R hr0 (by decide) hi) (heR hr0) rfl uw_X0 1 (by decide) rfl rfl wf_X0_18 dX0_copyFrom_19 ?_
  refine v_iload_n F dX0_copyFrom_22 rfl 0 rfl ?_
  refine v_aload_n F dX0_copyFrom_23 rfl 2 rfl ?_
  refine v_get F (id_R ht0 (by decide) hi) ((heO htr).trans ((celD_R ht0))) rfl uw_X0 1 (by decide) rfl rfl wf_X0_18 dX0_copyFrom_24 ?_
  refine v_iload_n F dX0_copyFrom_27 rfl 0 rfl ?_
  refine v_iald F (id_R ht0 (by decide) hi) ((heO htr).trans ((celD_R ht0))) rfl (1) (Ix_nI (by omega)) dX0_copyFrom_28 ?_
  refine v_iastC F (id_R hr0 (by decide) hi) (celD_R hr0) rfl (1) (Ix_nI (by omega)) (celD_R hr0) dX0_copyFrom_29 ?_
  refine v_iinc F (k := 0) (nI 2) dX0_copyFrom_30 rfl (by decide) (by decide) (lv' := [(2, .int _), (0, .ref _), (1, .ref _)]) rfl ?_
  refine v_goto F (tgt := 13) dX0_copyFrom_33 (by decide) ?_
  refine v_iload_n F dX0_copyFrom_13 rfl 0 rfl ?_
  refine v_iconst F (v := 2) dX0_copyFrom_14 (by decide) ?_
  refine v_icmp_ge F (tgt := 36) dX0_copyFrom_15 (by decide) (fun c15 => ?_) (fun h => absurd ((by decide)) h)
  refine v_aload_n F dX0_copyFrom_36 rfl 1 rfl ?_
  refine v_aload_n F dX0_copyFrom_37 rfl 2 rfl ?_
  refine v_get F (id_R ht0 (by decide) hi) ((heO htr).trans ((celD_R ht0))) rfl uw_X0 2 (by decide) rfl rfl wf_X0_26 dX0_copyFrom_38 ?_
  refine v_putC F tyX0 tyX0_ok nmX0 (id_R hr0 (by decide) hi) (celD_R hr0) rfl uw_X0 2 (by decide) rfl rfl (by decide +kernel) (celD_R hr0) (Nat.le_of_ble_eq_true rfl) wf_X0_26 dX0_copyFrom_41 ?_
  refine v_aload_n F dX0_copyFrom_44 rfl 1 rfl ?_
  refine v_aload_n F dX0_copyFrom_45 rfl 2 rfl ?_
  refine v_get F (id_R ht0 (by decide) hi) ((heO htr).trans ((celD_R ht0))) rfl uw_X0 3 (by decide) rfl rfl wf_X0_30 dX0_copyFrom_46 ?_
  refine v_putC F tyX0 tyX0_ok nmX0 (id_R hr0 (by decide) hi) (celD_R hr0) rfl uw_X0 3 (by decide) rfl rfl (by decide +kernel) (celD_R hr0) (Nat.le_of_ble_eq_true rfl) wf_X0_30 dX0_copyFrom_49 ?_
  refine v_aload_n F dX0_copyFrom_52 rfl 1 rfl ?_
  refine v_aload_n F dX0_copyFrom_53 rfl 2 rfl ?_
  refine v_get F (id_R ht0 (by decide) hi) ((heO htr).trans ((celD_R ht0))) rfl uw_X0 4 (by decide) rfl rfl wf_X0_33 dX0_copyFrom_54 ?_
  refine v_putC F tyX0 tyX0_ok nmX0 (id_R hr0 (by decide) hi) (celD_R hr0) rfl uw_X0 4 (by decide) rfl rfl (by decide +kernel) (celD_R hr0) (Nat.le_of_ble_eq_true rfl) wf_X0_33 dX0_copyFrom_57 ?_
  exact v_vret F hr dX0_copyFrom_60 rfl rfl
