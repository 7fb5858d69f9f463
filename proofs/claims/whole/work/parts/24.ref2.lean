/-! ===== the reference: pass to shortest ===== -/
abbrev rm_X6_pass : Room := { frames := 3, cells := 0, slots := 0, locals := 65 }
set_option maxHeartbeats 4000000 in
set_option maxRecDepth 100000 in
theorem c_X6_pass {X : Cx} {l : Launch} (G : Gx X l) {M : Mem} {lf : Lf} {σ : Sg} {jc tc b : Nat} {ln : Nat → Nat} (C : Cp σ (M 2) (M 3) jc tc b ln) {j z t : Nat} (hj : j < jc) (hz : z < ln j) (ht : t < jc) : CI X l yX6_pass (wsc yX6_pass cX6_pass 5 (some .int)) rm_X6_pass [.ref (X.2.1 2 0 0), .int (nI j), .int (nI z), .int (nI t)] (M) lf (σ 5 j z) (uC M 2 (u3 (u3 (M 2) 0 0 0 0) 4 0 (8 * j + z) (nI t))) lf 0 0 := by
  refine CI_of (lv := [(0, .ref _), (1, .int _), (2, .int _), (3, .int _)]) G (by decide) (Nat.le_of_ble_eq_true rfl) rfl (fun p e s m args below meth c F hr => ?_)
  have F : Fx p l s m args meth c cX6_pass 5 RX6 X := F
  have h4 := C.1.1.1
  have h12 := C.1.1.2.1
  have hJ := C.1.2.1
  have hT := C.1.2.2.1
  have hJQ : (uC M 2 (u3 (M 2) 0 0 0 0)) 2 0 0 1 = nI jc := by rw [uC_at, u3_ne (by decide)]; exact hJ
  have hTQ : (uC M 2 (u3 (M 2) 0 0 0 0)) 2 0 0 2 = nI tc := by rw [uC_at, u3_ne (by decide)]; exact hT
  have hlQ : (uC M 2 (u3 (M 2) 0 0 0 0)) 2 2 0 j = nI (ln j) := by rw [uC_at, u3_ne (by omega)]; exact (C.1.2.2.2.1 j hj).2.1
  have h8 := (C.1.1.2.2.2.2 j hj).2.1
  have h1 := (C.1.1.2.2.2.2 j hj).1
  obtain ⟨vh, vt, v9, vtj, e1, e2, e3, e4⟩ := (C.1.2.2.2.1 j hj).2.2 z hz
  refine v_mem (uC_self _ 2) ?_
  refine v_aload_n F dX6_pass_0 rfl 0 rfl ?_
  refine v_iconst F (v := 0) dX6_pass_1 (by decide) ?_
  refine v_putC F tyX6 tyX6_ok nmX6 (id_Q 0 (by decide)) rfl rfl uw_X6 0 (by decide) rfl rfl (by decide +kernel) rfl (Nat.le_of_ble_eq_true rfl) wf_X6_37 dX6_pass_2 ?_
  refine v_aload_n F dX6_pass_5 rfl 0 rfl ?_
  refine v_iload_n F dX6_pass_6 rfl 1 rfl ?_
  refine v_iload_n F dX6_pass_7 rfl 2 rfl ?_
  refine v_callVi F (As := [_, _]) (rest := []) rfl (c_X6_isPlace_y G hJQ h4 hj hlQ h8 hz) Rv_Q wm_X6_59 rfl ⟨rfl, rfl, Nat.le_of_ble_eq_true rfl, Nat.le_of_ble_eq_true rfl, Nat.le_of_ble_eq_true rfl, Nat.le_of_ble_eq_true rfl, Nat.le_of_ble_eq_true rfl⟩ dX6_pass_8 ?_
  refine v_if_eq F (tgt := 22) dX6_pass_11 (by decide) (fun h => absurd h ((by decide))) (fun c11 => ?_)
  refine v_aload_n F dX6_pass_14 rfl 0 rfl ?_
  refine v_iload_n F dX6_pass_15 rfl 3 rfl ?_
  refine v_callVi F (As := [_]) (rest := []) rfl (c_X6_isJuggler_y G hJQ (by omega) ht) Rv_Q wm_X6_51 rfl ⟨rfl, rfl, Nat.le_of_ble_eq_true rfl, Nat.le_of_ble_eq_true rfl, Nat.le_of_ble_eq_true rfl, Nat.le_of_ble_eq_true rfl, Nat.le_of_ble_eq_true rfl⟩ dX6_pass_16 ?_
  refine v_if_ne F (tgt := 28) dX6_pass_19 (by decide) (fun c19 => ?_) (fun h => absurd h ((by decide)))
  refine v_aload_n F dX6_pass_28 rfl 0 rfl ?_
  refine v_get F (id_Q 0 (by decide)) heQ rfl uw_X6 6 (by decide) rfl rfl wf_X6_19 dX6_pass_29 ?_
  refine v_bipush F (v := nI 8) dX6_pass_32 (by decide) ?_
  refine v_iload_n F dX6_pass_34 rfl 1 rfl ?_
  refine v_imul F dX6_pass_35 ?_
  refine v_iload_n F dX6_pass_36 rfl 2 rfl ?_
  refine v_iadd F dX6_pass_37 ?_
  refine v_topr (nI (8 * j + z)) (by rw [pk_mul, nI_add]) ?_
  refine v_iald F (id_Q 4 (by decide)) heQ rfl (8 * j + z) (Ix_nI (by omega)) dX6_pass_38 ?_
  refine v_topr (σ 5 j z) (by rw [u3_ne (by omega), e4, e3]) ?_
  refine v_istore F dX6_pass_39 (by decide) (lv' := [(4, .int _), (0, .ref _), (1, .int _), (2, .int _), (3, .int _)]) rfl ?_
  refine v_aload_n F dX6_pass_41 rfl 1 rfl ?_
  refine v_get F (id_Q 0 (by decide)) heQ rfl uw_X6 6 (by decide) rfl rfl wf_X6_19 dX6_pass_42 ?_
  refine v_bipush F (v := nI 8) dX6_pass_45 (by decide) ?_
  refine v_iload_n F dX6_pass_47 rfl 2 rfl ?_
  refine v_imul F dX6_pass_48 ?_
  refine v_iload_n F dX6_pass_49 rfl 3 rfl ?_
  refine v_iadd F dX6_pass_50 ?_
  refine v_topr (nI (8 * j + z)) (by rw [pk_mul, nI_add]) ?_
  refine v_iload_n F dX6_pass_51 rfl 4 rfl ?_
  refine v_iastC F (id_Q 4 (by decide)) rfl rfl (8 * j + z) (Ix_nI (by omega)) rfl dX6_pass_52 ?_
  refine v_iload F dX6_pass_53 0 rfl ?_
  exact v_iret F hr dX6_pass_55 rfl rfl rfl
set_option maxHeartbeats 4000000 in
set_option maxRecDepth 100000 in
theorem c_X6_pass_j {X : Cx} {l : Launch} (G : Gx X l) {M : Mem} {lf : Lf} {σ : Sg} {jc tc b : Nat} {ln : Nat → Nat} (C : Cp σ (M 2) (M 3) jc tc b ln) {x y z : Int32} (hx : x < 0 ∨ nI jc ≤ x) : CI X l yX6_pass (wsc yX6_pass cX6_pass 5 (some .int)) rm_X6_pass [.ref (X.2.1 2 0 0), .int x, .int y, .int z] (M) lf (0) (uC M 2 (u3 (u3 (M 2) 0 0 0 0) 0 0 0 1)) lf 0 0 := by
  refine CI_of (lv := [(0, .ref _), (1, .int _), (2, .int _), (3, .int _)]) G (by decide) (Nat.le_of_ble_eq_true rfl) rfl (fun p e s m args below meth c F hr => ?_)
  have F : Fx p l s m args meth c cX6_pass 5 RX6 X := F
  have h4 := C.1.1.1
  have h12 := C.1.1.2.1
  have hJ := C.1.2.1
  have hT := C.1.2.2.1
  have hJQ : (uC M 2 (u3 (M 2) 0 0 0 0)) 2 0 0 1 = nI jc := by rw [uC_at, u3_ne (by decide)]; exact hJ
  have hTQ : (uC M 2 (u3 (M 2) 0 0 0 0)) 2 0 0 2 = nI tc := by rw [uC_at, u3_ne (by decide)]; exact hT
  refine v_mem (uC_self _ 2) ?_
  refine v_aload_n F dX6_pass_0 rfl 0 rfl ?_
  refine v_iconst F (v := 0) dX6_pass_1 (by decide) ?_
  refine v_putC F tyX6 tyX6_ok nmX6 (id_Q 0 (by decide)) rfl rfl uw_X6 0 (by decide) rfl rfl (by decide +kernel) rfl (Nat.le_of_ble_eq_true rfl) wf_X6_37 dX6_pass_2 ?_
  refine v_aload_n F dX6_pass_5 rfl 0 rfl ?_
  refine v_iload_n F dX6_pass_6 rfl 1 rfl ?_
  refine v_iload_n F dX6_pass_7 rfl 2 rfl ?_
  refine v_callVi F (As := [_, _]) (rest := []) rfl (c_X6_isPlace_j G hJQ h4 hx) Rv_Q wm_X6_59 rfl ⟨rfl, rfl, Nat.le_of_ble_eq_true rfl, Nat.le_of_ble_eq_true rfl, Nat.le_of_ble_eq_true rfl, Nat.le_of_ble_eq_true rfl, Nat.le_of_ble_eq_true rfl⟩ dX6_pass_8 ?_
  refine v_if_eq F (tgt := 22) dX6_pass_11 (by decide) (fun c11 => ?_) (fun h => absurd (rfl) h)
  refine v_aload_n F dX6_pass_22 rfl 0 rfl ?_
  refine v_iconst F (v := 1) dX6_pass_23 (by decide) ?_
  refine v_callVi F (As := [_]) (rest := []) rfl (c_X6_no G 1) Rv_Q wm_X6_55 rfl ⟨rfl, rfl, Nat.le_of_ble_eq_true rfl, Nat.le_of_ble_eq_true rfl, Nat.le_of_ble_eq_true rfl, Nat.le_of_ble_eq_true rfl, Nat.le_of_ble_eq_true rfl⟩ dX6_pass_24 ?_
  exact v_iret F hr dX6_pass_27 rfl rfl rfl
set_option maxHeartbeats 4000000 in
set_option maxRecDepth 100000 in
theorem c_X6_pass_p {X : Cx} {l : Launch} (G : Gx X l) {M : Mem} {lf : Lf} {σ : Sg} {jc tc b : Nat} {ln : Nat → Nat} (C : Cp σ (M 2) (M 3) jc tc b ln) {j : Nat} (hj : j < jc) {y z : Int32} (hx : y < 0 ∨ nI (ln j) ≤ y) : CI X l yX6_pass (wsc yX6_pass cX6_pass 5 (some .int)) rm_X6_pass [.ref (X.2.1 2 0 0), .int (nI j), .int y, .int z] (M) lf (0) (uC M 2 (u3 (u3 (M 2) 0 0 0 0) 0 0 0 1)) lf 0 0 := by
  refine CI_of (lv := [(0, .ref _), (1, .int _), (2, .int _), (3, .int _)]) G (by decide) (Nat.le_of_ble_eq_true rfl) rfl (fun p e s m args below meth c F hr => ?_)
  have F : Fx p l s m args meth c cX6_pass 5 RX6 X := F
  have h4 := C.1.1.1
  have h12 := C.1.1.2.1
  have hJ := C.1.2.1
  have hT := C.1.2.2.1
  have hJQ : (uC M 2 (u3 (M 2) 0 0 0 0)) 2 0 0 1 = nI jc := by rw [uC_at, u3_ne (by decide)]; exact hJ
  have hTQ : (uC M 2 (u3 (M 2) 0 0 0 0)) 2 0 0 2 = nI tc := by rw [uC_at, u3_ne (by decide)]; exact hT
  have hlQ : (uC M 2 (u3 (M 2) 0 0 0 0)) 2 2 0 j = nI (ln j) := by rw [uC_at, u3_ne (by omega)]; exact (C.1.2.2.2.1 j hj).2.1
  have h8 := (C.1.1.2.2.2.2 j hj).2.1
  have h1 := (C.1.1.2.2.2.2 j hj).1
  refine v_mem (uC_self _ 2) ?_
  refine v_aload_n F dX6_pass_0 rfl 0 rfl ?_
  refine v_iconst F (v := 0) dX6_pass_1 (by decide) ?_
  refine v_putC F tyX6 tyX6_ok nmX6 (id_Q 0 (by decide)) rfl rfl uw_X6 0 (by decide) rfl rfl (by decide +kernel) rfl (Nat.le_of_ble_eq_true rfl) wf_X6_37 dX6_pass_2 ?_
  refine v_aload_n F dX6_pass_5 rfl 0 rfl ?_
  refine v_iload_n F dX6_pass_6 rfl 1 rfl ?_
  refine v_iload_n F dX6_pass_7 rfl 2 rfl ?_
  refine v_callVi F (As := [_, _]) (rest := []) rfl (c_X6_isPlace_p G hJQ h4 hj hlQ h8 hx) Rv_Q wm_X6_59 rfl ⟨rfl, rfl, Nat.le_of_ble_eq_true rfl, Nat.le_of_ble_eq_true rfl, Nat.le_of_ble_eq_true rfl, Nat.le_of_ble_eq_true rfl, Nat.le_of_ble_eq_true rfl⟩ dX6_pass_8 ?_
  refine v_if_eq F (tgt := 22) dX6_pass_11 (by decide) (fun c11 => ?_) (fun h => absurd (rfl) h)
  refine v_aload_n F dX6_pass_22 rfl 0 rfl ?_
  refine v_iconst F (v := 1) dX6_pass_23 (by decide) ?_
  refine v_callVi F (As := [_]) (rest := []) rfl (c_X6_no G 1) Rv_Q wm_X6_55 rfl ⟨rfl, rfl, Nat.le_of_ble_eq_true rfl, Nat.le_of_ble_eq_true rfl, Nat.le_of_ble_eq_true rfl, Nat.le_of_ble_eq_true rfl, Nat.le_of_ble_eq_true rfl⟩ dX6_pass_24 ?_
  exact v_iret F hr dX6_pass_27 rfl rfl rfl
set_option maxHeartbeats 4000000 in
set_option maxRecDepth 100000 in
theorem c_X6_pass_t {X : Cx} {l : Launch} (G : Gx X l) {M : Mem} {lf : Lf} {σ : Sg} {jc tc b : Nat} {ln : Nat → Nat} (C : Cp σ (M 2) (M 3) jc tc b ln) {j z : Nat} (hj : j < jc) (hz : z < ln j) {y : Int32} (hx : y < 0 ∨ nI jc ≤ y) : CI X l yX6_pass (wsc yX6_pass cX6_pass 5 (some .int)) rm_X6_pass [.ref (X.2.1 2 0 0), .int (nI j), .int (nI z), .int y] (M) lf (0) (uC M 2 (u3 (u3 (M 2) 0 0 0 0) 0 0 0 1)) lf 0 0 := by
  refine CI_of (lv := [(0, .ref _), (1, .int _), (2, .int _), (3, .int _)]) G (by decide) (Nat.le_of_ble_eq_true rfl) rfl (fun p e s m args below meth c F hr => ?_)
  have F : Fx p l s m args meth c cX6_pass 5 RX6 X := F
  have h4 := C.1.1.1
  have h12 := C.1.1.2.1
  have hJ := C.1.2.1
  have hT := C.1.2.2.1
  have hJQ : (uC M 2 (u3 (M 2) 0 0 0 0)) 2 0 0 1 = nI jc := by rw [uC_at, u3_ne (by decide)]; exact hJ
  have hTQ : (uC M 2 (u3 (M 2) 0 0 0 0)) 2 0 0 2 = nI tc := by rw [uC_at, u3_ne (by decide)]; exact hT
  have hlQ : (uC M 2 (u3 (M 2) 0 0 0 0)) 2 2 0 j = nI (ln j) := by rw [uC_at, u3_ne (by omega)]; exact (C.1.2.2.2.1 j hj).2.1
  have h8 := (C.1.1.2.2.2.2 j hj).2.1
  have h1 := (C.1.1.2.2.2.2 j hj).1
  obtain ⟨vh, vt, v9, vtj, e1, e2, e3, e4⟩ := (C.1.2.2.2.1 j hj).2.2 z hz
  refine v_mem (uC_self _ 2) ?_
  refine v_aload_n F dX6_pass_0 rfl 0 rfl ?_
  refine v_iconst F (v := 0) dX6_pass_1 (by decide) ?_
  refine v_putC F tyX6 tyX6_ok nmX6 (id_Q 0 (by decide)) rfl rfl uw_X6 0 (by decide) rfl rfl (by decide +kernel) rfl (Nat.le_of_ble_eq_true rfl) wf_X6_37 dX6_pass_2 ?_
  refine v_aload_n F dX6_pass_5 rfl 0 rfl ?_
  refine v_iload_n F dX6_pass_6 rfl 1 rfl ?_
  refine v_iload_n F dX6_pass_7 rfl 2 rfl ?_
  refine v_callVi F (As := [_, _]) (rest := []) rfl (c_X6_isPlace_y G hJQ h4 hj hlQ h8 hz) Rv_Q wm_X6_59 rfl ⟨rfl, rfl, Nat.le_of_ble_eq_true rfl, Nat.le_of_ble_eq_true rfl, Nat.le_of_ble_eq_true rfl, Nat.le_of_ble_eq_true rfl, Nat.le_of_ble_eq_true rfl⟩ dX6_pass_8 ?_
  refine v_if_eq F (tgt := 22) dX6_pass_11 (by decide) (fun h => absurd h ((by decide))) (fun c11 => ?_)
  refine v_aload_n F dX6_pass_14 rfl 0 rfl ?_
  refine v_iload_n F dX6_pass_15 rfl 3 rfl ?_
  refine v_callVi F (As := [_]) (rest := []) rfl (c_X6_isJuggler_n G hJQ (by omega) hx) Rv_Q wm_X6_51 rfl ⟨rfl, rfl, Nat.le_of_ble_eq_true rfl, Nat.le_of_ble_eq_true rfl, Nat.le_of_ble_eq_true rfl, Nat.le_of_ble_eq_true rfl, Nat.le_of_ble_eq_true rfl⟩ dX6_pass_16 ?_
  refine v_if_ne F (tgt := 28) dX6_pass_19 (by decide) (fun h => absurd (rfl) h) (fun c19 => ?_)
  refine v_aload_n F dX6_pass_22 rfl 0 rfl ?_
  refine v_iconst F (v := 1) dX6_pass_23 (by decide) ?_
  refine v_callVi F (As := [_]) (rest := []) rfl (c_X6_no G 1) Rv_Q wm_X6_55 rfl ⟨rfl, rfl, Nat.le_of_ble_eq_true rfl, Nat.le_of_ble_eq_true rfl, Nat.le_of_ble_eq_true rfl, Nat.le_of_ble_eq_true rfl, Nat.le_of_ble_eq_true rfl⟩ dX6_pass_24 ?_
  exact v_iret F hr dX6_pass_27 rfl rfl rfl
abbrev rm_X6_written : Room := { frames := 3, cells := 0, slots := 0, locals := 65 }
set_option maxHeartbeats 4000000 in
set_option maxRecDepth 100000 in
theorem c_X6_written_0 {X : Cx} {l : Launch} (G : Gx X l) {M : Mem} {lf : Lf} {σ : Sg} {jc tc b : Nat} {ln : Nat → Nat} (C : Cp σ (M 2) (M 3) jc tc b ln) {j z : Nat} (hj : j < jc) (hz : z < ln j) : CI X l yX6_written (wsc yX6_written cX6_written 4 (some .int)) rm_X6_written [.ref (X.2.1 2 0 0), .int (nI j), .int (nI z), .int (nI 0)] (M) lf (σ 4 j z) (uC M 2 (u3 (M 2) 0 0 0 0)) lf 0 0 := by
  refine CI_of (lv := [(0, .ref _), (1, .int _), (2, .int _), (3, .int _)]) G (by decide) (Nat.le_of_ble_eq_true rfl) rfl (fun p e s m args below meth c F hr => ?_)
  have F : Fx p l s m args meth c cX6_written 4 RX6 X := F
  have h4 := C.1.1.1
  have h12 := C.1.1.2.1
  have hJ := C.1.2.1
  have hT := C.1.2.2.1
  have hJQ : (uC M 2 (u3 (M 2) 0 0 0 0)) 2 0 0 1 = nI jc := by rw [uC_at, u3_ne (by decide)]; exact hJ
  have hTQ : (uC M 2 (u3 (M 2) 0 0 0 0)) 2 0 0 2 = nI tc := by rw [uC_at, u3_ne (by decide)]; exact hT
  have hlQ : (uC M 2 (u3 (M 2) 0 0 0 0)) 2 2 0 j = nI (ln j) := by rw [uC_at, u3_ne (by omega)]; exact (C.1.2.2.2.1 j hj).2.1
  have h8 := (C.1.1.2.2.2.2 j hj).2.1
  have h1 := (C.1.1.2.2.2.2 j hj).1
  obtain ⟨vh, vt, v9, vtj, e1, e2, e3, e4⟩ := (C.1.2.2.2.1 j hj).2.2 z hz
  refine v_mem (uC_self _ 2) ?_
  refine v_aload_n F dX6_written_0 rfl 0 rfl ?_
  refine v_iconst F (v := 0) dX6_written_1 (by decide) ?_
  refine v_putC F tyX6 tyX6_ok nmX6 (id_Q 0 (by decide)) rfl rfl uw_X6 0 (by decide) rfl rfl (by decide +kernel) rfl (Nat.le_of_ble_eq_true rfl) wf_X6_37 dX6_written_2 ?_
  refine v_aload_n F dX6_written_5 rfl 0 rfl ?_
  refine v_iload_n F dX6_written_6 rfl 1 rfl ?_
  refine v_iload_n F dX6_written_7 rfl 2 rfl ?_
  refine v_callVi F (As := [_, _]) (rest := []) rfl (c_X6_isPlace_y G hJQ h4 hj hlQ h8 hz) Rv_Q wm_X6_59 rfl ⟨rfl, rfl, Nat.le_of_ble_eq_true rfl, Nat.le_of_ble_eq_true rfl, Nat.le_of_ble_eq_true rfl, Nat.le_of_ble_eq_true rfl, Nat.le_of_ble_eq_true rfl⟩ dX6_written_8 ?_
  refine v_if_eq F (tgt := 23) dX6_written_11 (by decide) (fun h => absurd h ((by decide))) (fun c11 => ?_)
  refine v_iload_n F dX6_written_14 rfl 3 rfl ?_
  refine v_iconst F (v := 0) dX6_written_15 (by decide) ?_
  refine v_iconst F (v := 1) dX6_written_16 (by decide) ?_
  refine v_callSi F (As := [_, _, _]) (rest := []) rfl (c_X6_isIn_y G (by decide) (by decide)) wm_X6_44 rfl ⟨rfl, rfl, Nat.le_of_ble_eq_true rfl, Nat.le_of_ble_eq_true rfl, Nat.le_of_ble_eq_true rfl, Nat.le_of_ble_eq_true rfl, Nat.le_of_ble_eq_true rfl⟩ dX6_written_17 ?_
  refine v_if_ne F (tgt := 29) dX6_written_20 (by decide) (fun c20 => ?_) (fun h => absurd h ((by decide)))
  refine v_iload_n F dX6_written_29 rfl 3 rfl ?_
  refine v_if_ne F (tgt := 47) dX6_written_30 (by decide) (fun h => absurd ((by decide)) h) (fun c30 => ?_)
  refine v_aload_n F dX6_written_33 rfl 0 rfl ?_
  refine v_get F (id_Q 0 (by decide)) heQ rfl uw_X6 5 (by decide) rfl rfl wf_X6_16 dX6_written_34 ?_
  refine v_bipush F (v := nI 8) dX6_written_37 (by decide) ?_
  refine v_iload_n F dX6_written_39 rfl 1 rfl ?_
  refine v_imul F dX6_written_40 ?_
  refine v_iload_n F dX6_written_41 rfl 2 rfl ?_
  refine v_iadd F dX6_written_42 ?_
  refine v_topr (nI (8 * j + z)) (by rw [pk_mul, nI_add]) ?_
  refine v_iald F (id_Q 3 (by decide)) heQ rfl (8 * j + z) (Ix_nI (by omega)) dX6_written_43 ?_
  refine v_topr (σ 4 j z) (by rw [u3_ne (by omega), e2, e1]) ?_
  refine v_goto F (tgt := 58) dX6_written_44 (by decide) ?_
  exact v_iret F hr dX6_written_58 rfl rfl rfl
set_option maxHeartbeats 4000000 in
set_option maxRecDepth 100000 in
theorem c_X6_written_1 {X : Cx} {l : Launch} (G : Gx X l) {M : Mem} {lf : Lf} {σ : Sg} {jc tc b : Nat} {ln : Nat → Nat} (C : Cp σ (M 2) (M 3) jc tc b ln) {j z : Nat} (hj : j < jc) (hz : z < ln j) : CI X l yX6_written (wsc yX6_written cX6_written 4 (some .int)) rm_X6_written [.ref (X.2.1 2 0 0), .int (nI j), .int (nI z), .int (nI 1)] (M) lf (σ 5 j z) (uC M 2 (u3 (M 2) 0 0 0 0)) lf 0 0 := by
  refine CI_of (lv := [(0, .ref _), (1, .int _), (2, .int _), (3, .int _)]) G (by decide) (Nat.le_of_ble_eq_true rfl) rfl (fun p e s m args below meth c F hr => ?_)
  have F : Fx p l s m args meth c cX6_written 4 RX6 X := F
  have h4 := C.1.1.1
  have h12 := C.1.1.2.1
  have hJ := C.1.2.1
  have hT := C.1.2.2.1
  have hJQ : (uC M 2 (u3 (M 2) 0 0 0 0)) 2 0 0 1 = nI jc := by rw [uC_at, u3_ne (by decide)]; exact hJ
  have hTQ : (uC M 2 (u3 (M 2) 0 0 0 0)) 2 0 0 2 = nI tc := by rw [uC_at, u3_ne (by decide)]; exact hT
  have hlQ : (uC M 2 (u3 (M 2) 0 0 0 0)) 2 2 0 j = nI (ln j) := by rw [uC_at, u3_ne (by omega)]; exact (C.1.2.2.2.1 j hj).2.1
  have h8 := (C.1.1.2.2.2.2 j hj).2.1
  have h1 := (C.1.1.2.2.2.2 j hj).1
  obtain ⟨vh, vt, v9, vtj, e1, e2, e3, e4⟩ := (C.1.2.2.2.1 j hj).2.2 z hz
  refine v_mem (uC_self _ 2) ?_
  refine v_aload_n F dX6_written_0 rfl 0 rfl ?_
  refine v_iconst F (v := 0) dX6_written_1 (by decide) ?_
  refine v_putC F tyX6 tyX6_ok nmX6 (id_Q 0 (by decide)) rfl rfl uw_X6 0 (by decide) rfl rfl (by decide +kernel) rfl (Nat.le_of_ble_eq_true rfl) wf_X6_37 dX6_written_2 ?_
  refine v_aload_n F dX6_written_5 rfl 0 rfl ?_
  refine v_iload_n F dX6_written_6 rfl 1 rfl ?_
  refine v_iload_n F dX6_written_7 rfl 2 rfl ?_
  refine v_callVi F (As := [_, _]) (rest := []) rfl (c_X6_isPlace_y G hJQ h4 hj hlQ h8 hz) Rv_Q wm_X6_59 rfl ⟨rfl, rfl, Nat.le_of_ble_eq_true rfl, Nat.le_of_ble_eq_true rfl, Nat.le_of_ble_eq_true rfl, Nat.le_of_ble_eq_true rfl, Nat.le_of_ble_eq_true rfl⟩ dX6_written_8 ?_
  refine v_if_eq F (tgt := 23) dX6_written_11 (by decide) (fun h => absurd h ((by decide))) (fun c11 => ?_)
  refine v_iload_n F dX6_written_14 rfl 3 rfl ?_
  refine v_iconst F (v := 0) dX6_written_15 (by decide) ?_
  refine v_iconst F (v := 1) dX6_written_16 (by decide) ?_
  refine v_callSi F (As := [_, _, _]) (rest := []) rfl (c_X6_isIn_y G (by decide) (by decide)) wm_X6_44 rfl ⟨rfl, rfl, Nat.le_of_ble_eq_true rfl, Nat.le_of_ble_eq_true rfl, Nat.le_of_ble_eq_true rfl, Nat.le_of_ble_eq_true rfl, Nat.le_of_ble_eq_true rfl⟩ dX6_written_17 ?_
  refine v_if_ne F (tgt := 29) dX6_written_20 (by decide) (fun c20 => ?_) (fun h => absurd h ((by decide)))
  refine v_iload_n F dX6_written_29 rfl 3 rfl ?_
  refine v_if_ne F (tgt := 47) dX6_written_30 (by decide) (fun c30 => ?_) (fun h => absurd h ((by decide)))
  refine v_aload_n F dX6_written_47 rfl 0 rfl ?_
  refine v_get F (id_Q 0 (by decide)) heQ rfl uw_X6 6 (by decide) rfl rfl wf_X6_19 dX6_written_48 ?_
  refine v_bipush F (v := nI 8) dX6_written_51 (by decide) ?_
  refine v_iload_n F dX6_written_53 rfl 1 rfl ?_
  refine v_imul F dX6_written_54 ?_
  refine v_iload_n F dX6_written_55 rfl 2 rfl ?_
  refine v_iadd F dX6_written_56 ?_
  refine v_topr (nI (8 * j + z)) (by rw [pk_mul, nI_add]) ?_
  refine v_iald F (id_Q 4 (by decide)) heQ rfl (8 * j + z) (Ix_nI (by omega)) dX6_written_57 ?_
  refine v_topr (σ 5 j z) (by rw [u3_ne (by omega), e4, e3]) ?_
  exact v_iret F hr dX6_written_58 rfl rfl rfl
set_option maxHeartbeats 4000000 in
set_option maxRecDepth 100000 in
theorem c_X6_written_j {X : Cx} {l : Launch} (G : Gx X l) {M : Mem} {lf : Lf} {σ : Sg} {jc tc b : Nat} {ln : Nat → Nat} (C : Cp σ (M 2) (M 3) jc tc b ln) {x y z : Int32} (hx : x < 0 ∨ nI jc ≤ x) : CI X l yX6_written (wsc yX6_written cX6_written 4 (some .int)) rm_X6_written [.ref (X.2.1 2 0 0), .int x, .int y, .int z] (M) lf (0) (uC M 2 (u3 (u3 (M 2) 0 0 0 0) 0 0 0 1)) lf 0 0 := by
  refine CI_of (lv := [(0, .ref _), (1, .int _), (2, .int _), (3, .int _)]) G (by decide) (Nat.le_of_ble_eq_true rfl) rfl (fun p e s m args below meth c F hr => ?_)
  have F : Fx p l s m args meth c cX6_written 4 RX6 X := F
  have h4 := C.1.1.1
  have h12 := C.1.1.2.1
  have hJ := C.1.2.1
  have hT := C.1.2.2.1
  have hJQ : (uC M 2 (u3 (M 2) 0 0 0 0)) 2 0 0 1 = nI jc := by rw [uC_at, u3_ne (by decide)]; exact hJ
  have hTQ : (uC M 2 (u3 (M 2) 0 0 0 0)) 2 0 0 2 = nI tc := by rw [uC_at, u3_ne (by decide)]; exact hT
  refine v_mem (uC_self _ 2) ?_
  refine v_aload_n F dX6_written_0 rfl 0 rfl ?_
  refine v_iconst F (v := 0) dX6_written_1 (by decide) ?_
  refine v_putC F tyX6 tyX6_ok nmX6 (id_Q 0 (by decide)) rfl rfl uw_X6 0 (by decide) rfl rfl (by decide +kernel) rfl (Nat.le_of_ble_eq_true rfl) wf_X6_37 dX6_written_2 ?_
  refine v_aload_n F dX6_written_5 rfl 0 rfl ?_
  refine v_iload_n F dX6_written_6 rfl 1 rfl ?_
  refine v_iload_n F dX6_written_7 rfl 2 rfl ?_
  refine v_callVi F (As := [_, _]) (rest := []) rfl (c_X6_isPlace_j G hJQ h4 hx) Rv_Q wm_X6_59 rfl ⟨rfl, rfl, Nat.le_of_ble_eq_true rfl, Nat.le_of_ble_eq_true rfl, Nat.le_of_ble_eq_true rfl, Nat.le_of_ble_eq_true rfl, Nat.le_of_ble_eq_true rfl⟩ dX6_written_8 ?_
  refine v_if_eq F (tgt := 23) dX6_written_11 (by decide) (fun c11 => ?_) (fun h => absurd (rfl) h)
  refine v_aload_n F dX6_written_23 rfl 0 rfl ?_
  refine v_iconst F (v := 1) dX6_written_24 (by decide) ?_
  refine v_callVi F (As := [_]) (rest := []) rfl (c_X6_no G 1) Rv_Q wm_X6_55 rfl ⟨rfl, rfl, Nat.le_of_ble_eq_true rfl, Nat.le_of_ble_eq_true rfl, Nat.le_of_ble_eq_true rfl, Nat.le_of_ble_eq_true rfl, Nat.le_of_ble_eq_true rfl⟩ dX6_written_25 ?_
  exact v_iret F hr dX6_written_28 rfl rfl rfl
set_option maxHeartbeats 4000000 in
set_option maxRecDepth 100000 in
theorem c_X6_written_p {X : Cx} {l : Launch} (G : Gx X l) {M : Mem} {lf : Lf} {σ : Sg} {jc tc b : Nat} {ln : Nat → Nat} (C : Cp σ (M 2) (M 3) jc tc b ln) {j : Nat} (hj : j < jc) {y z : Int32} (hx : y < 0 ∨ nI (ln j) ≤ y) : CI X l yX6_written (wsc yX6_written cX6_written 4 (some .int)) rm_X6_written [.ref (X.2.1 2 0 0), .int (nI j), .int y, .int z] (M) lf (0) (uC M 2 (u3 (u3 (M 2) 0 0 0 0) 0 0 0 1)) lf 0 0 := by
  refine CI_of (lv := [(0, .ref _), (1, .int _), (2, .int _), (3, .int _)]) G (by decide) (Nat.le_of_ble_eq_true rfl) rfl (fun p e s m args below meth c F hr => ?_)
  have F : Fx p l s m args meth c cX6_written 4 RX6 X := F
  have h4 := C.1.1.1
  have h12 := C.1.1.2.1
  have hJ := C.1.2.1
  have hT := C.1.2.2.1
  have hJQ : (uC M 2 (u3 (M 2) 0 0 0 0)) 2 0 0 1 = nI jc := by rw [uC_at, u3_ne (by decide)]; exact hJ
  have hTQ : (uC M 2 (u3 (M 2) 0 0 0 0)) 2 0 0 2 = nI tc := by rw [uC_at, u3_ne (by decide)]; exact hT
  have hlQ : (uC M 2 (u3 (M 2) 0 0 0 0)) 2 2 0 j = nI (ln j) := by rw [uC_at, u3_ne (by omega)]; exact (C.1.2.2.2.1 j hj).2.1
  have h8 := (C.1.1.2.2.2.2 j hj).2.1
  have h1 := (C.1.1.2.2.2.2 j hj).1
  refine v_mem (uC_self _ 2) ?_
  refine v_aload_n F dX6_written_0 rfl 0 rfl ?_
  refine v_iconst F (v := 0) dX6_written_1 (by decide) ?_
  refine v_putC F tyX6 tyX6_ok nmX6 (id_Q 0 (by decide)) rfl rfl uw_X6 0 (by decide) rfl rfl (by decide +kernel) rfl (Nat.le_of_ble_eq_true rfl) wf_X6_37 dX6_written_2 ?_
  refine v_aload_n F dX6_written_5 rfl 0 rfl ?_
  refine v_iload_n F dX6_written_6 rfl 1 rfl ?_
  refine v_iload_n F dX6_written_7 rfl 2 rfl ?_
  refine v_callVi F (As := [_, _]) (rest := []) rfl (c_X6_isPlace_p G hJQ h4 hj hlQ h8 hx) Rv_Q wm_X6_59 rfl ⟨rfl, rfl, Nat.le_of_ble_eq_true rfl, Nat.le_of_ble_eq_true rfl, Nat.le_of_ble_eq_true rfl, Nat.le_of_ble_eq_true rfl, Nat.le_of_ble_eq_true rfl⟩ dX6_written_8 ?_
  refine v_if_eq F (tgt := 23) dX6_written_11 (by decide) (fun c11 => ?_) (fun h => absurd (rfl) h)
  refine v_aload_n F dX6_written_23 rfl 0 rfl ?_
  refine v_iconst F (v := 1) dX6_written_24 (by decide) ?_
  refine v_callVi F (As := [_]) (rest := []) rfl (c_X6_no G 1) Rv_Q wm_X6_55 rfl ⟨rfl, rfl, Nat.le_of_ble_eq_true rfl, Nat.le_of_ble_eq_true rfl, Nat.le_of_ble_eq_true rfl, Nat.le_of_ble_eq_true rfl, Nat.le_of_ble_eq_true rfl⟩ dX6_written_25 ?_
  exact v_iret F hr dX6_written_28 rfl rfl rfl
set_option maxHeartbeats 4000000 in
set_option maxRecDepth 100000 in
theorem c_X6_written_w {X : Cx} {l : Launch} (G : Gx X l) {M : Mem} {lf : Lf} {σ : Sg} {jc tc b : Nat} {ln : Nat → Nat} (C : Cp σ (M 2) (M 3) jc tc b ln) {j z : Nat} (hj : j < jc) (hz : z < ln j) {y : Int32} (hx : y < 0 ∨ nI 2 ≤ y) : CI X l yX6_written (wsc yX6_written cX6_written 4 (some .int)) rm_X6_written [.ref (X.2.1 2 0 0), .int (nI j), .int (nI z), .int y] (M) lf (0) (uC M 2 (u3 (u3 (M 2) 0 0 0 0) 0 0 0 1)) lf 0 0 := by
  refine CI_of (lv := [(0, .ref _), (1, .int _), (2, .int _), (3, .int _)]) G (by decide) (Nat.le_of_ble_eq_true rfl) rfl (fun p e s m args below meth c F hr => ?_)
  have F : Fx p l s m args meth c cX6_written 4 RX6 X := F
  have h4 := C.1.1.1
  have h12 := C.1.1.2.1
  have hJ := C.1.2.1
  have hT := C.1.2.2.1
  have hJQ : (uC M 2 (u3 (M 2) 0 0 0 0)) 2 0 0 1 = nI jc := by rw [uC_at, u3_ne (by decide)]; exact hJ
  have hTQ : (uC M 2 (u3 (M 2) 0 0 0 0)) 2 0 0 2 = nI tc := by rw [uC_at, u3_ne (by decide)]; exact hT
  have hlQ : (uC M 2 (u3 (M 2) 0 0 0 0)) 2 2 0 j = nI (ln j) := by rw [uC_at, u3_ne (by omega)]; exact (C.1.2.2.2.1 j hj).2.1
  have h8 := (C.1.1.2.2.2.2 j hj).2.1
  have h1 := (C.1.1.2.2.2.2 j hj).1
  obtain ⟨vh, vt, v9, vtj, e1, e2, e3, e4⟩ := (C.1.2.2.2.1 j hj).2.2 z hz
  refine v_mem (uC_self _ 2) ?_
  refine v_aload_n F dX6_written_0 rfl 0 rfl ?_
  refine v_iconst F (v := 0) dX6_written_1 (by decide) ?_
  refine v_putC F tyX6 tyX6_ok nmX6 (id_Q 0 (by decide)) rfl rfl uw_X6 0 (by decide) rfl rfl (by decide +kernel) rfl (Nat.le_of_ble_eq_true rfl) wf_X6_37 dX6_written_2 ?_
  refine v_aload_n F dX6_written_5 rfl 0 rfl ?_
  refine v_iload_n F dX6_written_6 rfl 1 rfl ?_
  refine v_iload_n F dX6_written_7 rfl 2 rfl ?_
  refine v_callVi F (As := [_, _]) (rest := []) rfl (c_X6_isPlace_y G hJQ h4 hj hlQ h8 hz) Rv_Q wm_X6_59 rfl ⟨rfl, rfl, Nat.le_of_ble_eq_true rfl, Nat.le_of_ble_eq_true rfl, Nat.le_of_ble_eq_true rfl, Nat.le_of_ble_eq_true rfl, Nat.le_of_ble_eq_true rfl⟩ dX6_written_8 ?_
  refine v_if_eq F (tgt := 23) dX6_written_11 (by decide) (fun h => absurd h ((by decide))) (fun c11 => ?_)
  refine v_iload_n F dX6_written_14 rfl 3 rfl ?_
  refine v_iconst F (v := 0) dX6_written_15 (by decide) ?_
  refine v_iconst F (v := (nI 2 - 1)) dX6_written_16 (by decide) ?_
  refine v_callSi F (As := [_, _, _]) (rest := []) rfl (c_X6_isIn_n G (m1_n (by decide) hx)) wm_X6_44 rfl ⟨rfl, rfl, Nat.le_of_ble_eq_true rfl, Nat.le_of_ble_eq_true rfl, Nat.le_of_ble_eq_true rfl, Nat.le_of_ble_eq_true rfl, Nat.le_of_ble_eq_true rfl⟩ dX6_written_17 ?_
  refine v_if_ne F (tgt := 29) dX6_written_20 (by decide) (fun h => absurd (rfl) h) (fun c20 => ?_)
  refine v_aload_n F dX6_written_23 rfl 0 rfl ?_
  refine v_iconst F (v := 1) dX6_written_24 (by decide) ?_
  refine v_callVi F (As := [_]) (rest := []) rfl (c_X6_no G 1) Rv_Q wm_X6_55 rfl ⟨rfl, rfl, Nat.le_of_ble_eq_true rfl, Nat.le_of_ble_eq_true rfl, Nat.le_of_ble_eq_true rfl, Nat.le_of_ble_eq_true rfl, Nat.le_of_ble_eq_true rfl⟩ dX6_written_25 ?_
  exact v_iret F hr dX6_written_28 rfl rfl rfl
abbrev rm_X6_holds : Room := { frames := 0, cells := 0, slots := 0, locals := 0 }
theorem holds_e {σ q τ : Sg} {jc tc b j : Nat} {ln : Nat → Nat} (C : Cp σ q τ jc tc b ln) (hj : j < jc) : (if τ 3 0 (2 * j) ≤ 0 then (0 : Int32) else 1) + (if τ 3 0 (2 * j + 1) ≤ 0 then 0 else 1) = fHeld σ j := by
  have h12 := C.1.1.2.1
  have key : ∀ h, h < 2 → ((τ 3 0 (2 * j + h) ≤ 0 ∧ σ 6 j h = -1) ∨ (¬ τ 3 0 (2 * j + h) ≤ 0 ∧ ¬ σ 6 j h = -1)) := by
    intro h hh
    obtain ⟨a1, a2⟩ := C.2.2.2.1 j h hj hh
    rcases a2 with z | ⟨k, k1, k2, -⟩
    · exact Or.inl ⟨by rw [a1, z]; decide, z⟩
    · exact Or.inr ⟨by rw [a1, k2, nI_1]; exact nI_nle (by omega) (by omega), by rw [k2]; exact nI_m1 (by omega)⟩
  have k0 := key 0 (by decide)
  have k1 := key 1 (by decide)
  unfold fHeld cI cI cI
  rw [Nat.add_zero] at k0
  rcases k0 with ⟨a1, a2⟩ | ⟨a1, a2⟩ <;> rcases k1 with ⟨b1, b2⟩ | ⟨b1, b2⟩ <;> simp [a1, a2, b1, b2]
theorem hold_pos {σ q τ : Sg} {jc tc b j hd : Nat} {ln : Nat → Nat} (C : Cp σ q τ jc tc b ln) (hj : j < jc) (hh : hd < 2) (h : ¬ σ 6 j hd = -1) : ¬ τ 3 0 (2 * j + hd) ≤ 0 := by
  have h12 := C.1.1.2.1
  obtain ⟨a1, a2⟩ := C.2.2.2.1 j hd hj hh
  rcases a2 with z | ⟨k, k1, k2, -⟩
  · exact absurd z h
  · rw [a1, k2, nI_1]; exact nI_nle (by omega) (by omega)
set_option maxHeartbeats 4000000 in
set_option maxRecDepth 100000 in
theorem c_X6_holds {X : Cx} {l : Launch} (G : Gx X l) {M : Mem} {lf : Lf} {σ q : Sg} {jc tc b j : Nat} {ln : Nat → Nat} (C : Cp σ q (M 3) jc tc b ln) (hj : j < jc) : CI X l yX6_holds (wsc yX6_holds cX6_holds 2 (some .int)) rm_X6_holds [.ref (X.2.1 2 0 0), .int (nI j)] (M) lf (fHeld σ j) (M) lf 0 0 := by
  refine CI_of (lv := [(0, .ref _), (1, .int _)]) G (by decide) (Nat.le_of_ble_eq_true rfl) rfl (fun p e s m args below meth c F hr => ?_)
  have F : Fx p l s m args meth c cX6_holds 2 RX6 X := F
  have h4 := C.1.1.1
  refine v_aload_n F dX6_holds_0 rfl 0 rfl ?_
  refine v_get F (id_Q 0 (by decide)) rfl rfl uw_X6 8 (by decide) rfl rfl wf_X6_30 dX6_holds_1 ?_
  refine v_getN F (id_S (Or.inl rfl) (by decide)) (celD_S (Or.inl rfl)) rfl uw_X5 3 (by decide) rfl rfl wf_X6_63 dX6_holds_4 ?_
  refine v_iconst F (v := nI 2) dX6_holds_7 (by decide) ?_
  refine v_iload_n F dX6_holds_8 rfl 1 rfl ?_
  refine v_imul F dX6_holds_9 ?_
  refine v_topr (nI (2 * j)) (pk_mul 2 j) ?_
  refine v_iald F (id_S (Or.inl rfl) (by decide)) (celD_S (Or.inl rfl)) rfl (2 * j) (Ix_nI (by omega)) dX6_holds_10 ?_
  refine v_if_le F (tgt := 18) dX6_holds_11 (by decide) (fun c11 => ?_) (fun c11 => ?_)
  · have := c11
    refine v_iconst F (v := 0) dX6_holds_18 (by decide) ?_
    refine v_aload_n F dX6_holds_19 rfl 0 rfl ?_
    refine v_get F (id_Q 0 (by decide)) rfl rfl uw_X6 8 (by decide) rfl rfl wf_X6_30 dX6_holds_20 ?_
    refine v_getN F (id_S (Or.inl rfl) (by decide)) (celD_S (Or.inl rfl)) rfl uw_X5 3 (by decide) rfl rfl wf_X6_63 dX6_holds_23 ?_
    refine v_iconst F (v := nI 2) dX6_holds_26 (by decide) ?_
    refine v_iload_n F dX6_holds_27 rfl 1 rfl ?_
    refine v_imul F dX6_holds_28 ?_
    refine v_topr (nI (2 * j)) (pk_mul 2 j) ?_
    refine v_iconst F (v := nI 1) dX6_holds_29 (by decide) ?_
    refine v_iadd F dX6_holds_30 ?_
    refine v_topr (nI (2 * j + 1)) (nI_add _ _) ?_
    refine v_iald F (id_S (Or.inl rfl) (by decide)) (celD_S (Or.inl rfl)) rfl (2 * j + 1) (Ix_nI (by omega)) dX6_holds_31 ?_
    refine v_if_le F (tgt := 39) dX6_holds_32 (by decide) (fun c32 => ?_) (fun c32 => ?_)
    · have := c32
      refine v_iconst F (v := 0) dX6_holds_39 (by decide) ?_
      refine v_iadd F dX6_holds_40 ?_
      refine v_iret F hr dX6_holds_41 ?_ rfl rfl
      rw [← holds_e C hj]
      simp [c11, c32]
    · have := c32
      refine v_iconst F (v := 1) dX6_holds_35 (by decide) ?_
      refine v_goto F (tgt := 40) dX6_holds_36 (by decide) ?_
      refine v_iadd F dX6_holds_40 ?_
      refine v_iret F hr dX6_holds_41 ?_ rfl rfl
      rw [← holds_e C hj]
      simp [c11, c32]
  · have := c11
    refine v_iconst F (v := 1) dX6_holds_14 (by decide) ?_
    refine v_goto F (tgt := 19) dX6_holds_15 (by decide) ?_
    refine v_aload_n F dX6_holds_19 rfl 0 rfl ?_
    refine v_get F (id_Q 0 (by decide)) rfl rfl uw_X6 8 (by decide) rfl rfl wf_X6_30 dX6_holds_20 ?_
    refine v_getN F (id_S (Or.inl rfl) (by decide)) (celD_S (Or.inl rfl)) rfl uw_X5 3 (by decide) rfl rfl wf_X6_63 dX6_holds_23 ?_
    refine v_iconst F (v := nI 2) dX6_holds_26 (by decide) ?_
    refine v_iload_n F dX6_holds_27 rfl 1 rfl ?_
    refine v_imul F dX6_holds_28 ?_
    refine v_topr (nI (2 * j)) (pk_mul 2 j) ?_
    refine v_iconst F (v := nI 1) dX6_holds_29 (by decide) ?_
    refine v_iadd F dX6_holds_30 ?_
    refine v_topr (nI (2 * j + 1)) (nI_add _ _) ?_
    refine v_iald F (id_S (Or.inl rfl) (by decide)) (celD_S (Or.inl rfl)) rfl (2 * j + 1) (Ix_nI (by omega)) dX6_holds_31 ?_
    refine v_if_le F (tgt := 39) dX6_holds_32 (by decide) (fun c32 => ?_) (fun c32 => ?_)
    · have := c32
      refine v_iconst F (v := 0) dX6_holds_39 (by decide) ?_
      refine v_iadd F dX6_holds_40 ?_
      refine v_iret F hr dX6_holds_41 ?_ rfl rfl
      rw [← holds_e C hj]
      simp [c11, c32]
    · have := c32
      refine v_iconst F (v := 1) dX6_holds_35 (by decide) ?_
      refine v_goto F (tgt := 40) dX6_holds_36 (by decide) ?_
      refine v_iadd F dX6_holds_40 ?_
      refine v_iret F hr dX6_holds_41 ?_ rfl rfl
      rw [← holds_e C hj]
      simp [c11, c32]
abbrev rm_X6_give : Room := { frames := 2, cells := 0, slots := 0, locals := 43 }
set_option maxHeartbeats 4000000 in
set_option maxRecDepth 100000 in
theorem c_X6_give {X : Cx} {l : Launch} (G : Gx X l) {M : Mem} {lf : Lf} {σ : Sg} {jc tc b : Nat} {ln : Nat → Nat} (C : Cp σ (M 2) (M 3) jc tc b ln) {k j hd : Nat} (hk : k < tc) (hj : j < jc) (hh : hd < 2) (hst : σ 8 k 1 = 0) (hhd : σ 6 j hd = -1) (C2 : Cp (fPut σ k (nI j) j hd) (M 2) (gGive (M 3) k j hd) jc tc b ln) : CI X l yX6_give (wsc yX6_give cX6_give 4 (some .int)) rm_X6_give [.ref (X.2.1 2 0 0), .int (nI k), .int (nI j), .int (nI hd)] (M) lf (fHeld (fPut σ k (nI j) j hd) j) (uC (uC M 2 (u3 (M 2) 0 0 0 0)) 3 (gGive (M 3) k j hd)) lf 0 0 := by
  refine CI_of (lv := [(0, .ref _), (1, .int _), (2, .int _), (3, .int _)]) G (by decide) (Nat.le_of_ble_eq_true rfl) rfl (fun p e s m args below meth c F hr => ?_)
  have F : Fx p l s m args meth c cX6_give 4 RX6 X := F
  have h4 := C.1.1.1
  have h12 := C.1.1.2.1
  have hJ := C.1.2.1
  have hT := C.1.2.2.1
  have hJQ : (uC M 2 (u3 (M 2) 0 0 0 0)) 2 0 0 1 = nI jc := by rw [uC_at, u3_ne (by decide)]; exact hJ
  have hTQ : (uC M 2 (u3 (M 2) 0 0 0 0)) 2 0 0 2 = nI tc := by rw [uC_at, u3_ne (by decide)]; exact hT
  have hle : M 3 3 0 (2 * j + hd) ≤ 0 := by rw [(C.2.2.2.1 j hd hj hh).1, hhd]; decide
  refine v_mem (uC_self _ 2) ?_
  refine v_aload_n F dX6_give_0 rfl 0 rfl ?_
  refine v_iconst F (v := 0) dX6_give_1 (by decide) ?_
  refine v_putC F tyX6 tyX6_ok nmX6 (id_Q 0 (by decide)) rfl rfl uw_X6 0 (by decide) rfl rfl (by decide +kernel) rfl (Nat.le_of_ble_eq_true rfl) wf_X6_37 dX6_give_2 ?_
  refine v_aload_n F dX6_give_5 rfl 0 rfl ?_
  refine v_iload_n F dX6_give_6 rfl 1 rfl ?_
  refine v_callVi F (As := [_]) (rest := []) rfl (c_X6_isThing_y G hTQ (by omega) hk) Rv_Q wm_X6_66 rfl ⟨rfl, rfl, Nat.le_of_ble_eq_true rfl, Nat.le_of_ble_eq_true rfl, Nat.le_of_ble_eq_true rfl, Nat.le_of_ble_eq_true rfl, Nat.le_of_ble_eq_true rfl⟩ dX6_give_7 ?_
  refine v_if_eq F (tgt := 30) dX6_give_10 (by decide) (fun h => absurd h ((by decide))) (fun c10 => ?_)
  refine v_aload_n F dX6_give_13 rfl 0 rfl ?_
  refine v_iload_n F dX6_give_14 rfl 2 rfl ?_
  refine v_callVi F (As := [_]) (rest := []) rfl (c_X6_isJuggler_y G (hJQ) (by omega) hj) Rv_Q wm_X6_51 rfl ⟨rfl, rfl, Nat.le_of_ble_eq_true rfl, Nat.le_of_ble_eq_true rfl, Nat.le_of_ble_eq_true rfl, Nat.le_of_ble_eq_true rfl, Nat.le_of_ble_eq_true rfl⟩ dX6_give_15 ?_
  refine v_if_eq F (tgt := 30) dX6_give_18 (by decide) (fun h => absurd h ((by decide))) (fun c18 => ?_)
  refine v_iload_n F dX6_give_21 rfl 3 rfl ?_
  refine v_iconst F (v := 0) dX6_give_22 (by decide) ?_
  refine v_iconst F (v := nI 1) dX6_give_23 (by decide) ?_
  refine v_callSi F (As := [_, _, _]) (rest := []) rfl (c_X6_isIn_y G (nI_pos (by omega)) (nI_nlt (by omega) (by decide))) wm_X6_44 rfl ⟨rfl, rfl, Nat.le_of_ble_eq_true rfl, Nat.le_of_ble_eq_true rfl, Nat.le_of_ble_eq_true rfl, Nat.le_of_ble_eq_true rfl, Nat.le_of_ble_eq_true rfl⟩ dX6_give_24 ?_
  refine v_if_ne F (tgt := 36) dX6_give_27 (by decide) (fun c27 => ?_) (fun h => absurd h ((by decide)))
  refine v_aload_n F dX6_give_36 rfl 0 rfl ?_
  refine v_get F (id_Q 0 (by decide)) heQ rfl uw_X6 8 (by decide) rfl rfl wf_X6_30 dX6_give_37 ?_
  refine v_getN F (id_S (Or.inl rfl) (by decide)) ((heO (by decide)).trans ((celD_S (Or.inl rfl)))) rfl uw_X5 4 (by decide) rfl rfl wf_X6_69 dX6_give_40 ?_
  refine v_iload_n F dX6_give_43 rfl 1 rfl ?_
  refine v_iald F (id_S (Or.inl rfl) (by decide)) ((heO (by decide)).trans ((celD_S (Or.inl rfl)))) rfl (k) (Ix_nI (by omega)) dX6_give_44 ?_
  refine v_topr (σ 8 k 1) (C.2.2.2.2.1 k hk).1 ?_
  refine v_if_ne F (tgt := 64) dX6_give_45 (by decide) (fun h => absurd (hst) h) (fun c45 => ?_)
  refine v_aload_n F dX6_give_48 rfl 0 rfl ?_
  refine v_get F (id_Q 0 (by decide)) heQ rfl uw_X6 8 (by decide) rfl rfl wf_X6_30 dX6_give_49 ?_
  refine v_getN F (id_S (Or.inl rfl) (by decide)) ((heO (by decide)).trans ((celD_S (Or.inl rfl)))) rfl uw_X5 3 (by decide) rfl rfl wf_X6_63 dX6_give_52 ?_
  refine v_iconst F (v := nI 2) dX6_give_55 (by decide) ?_
  refine v_iload_n F dX6_give_56 rfl 2 rfl ?_
  refine v_imul F dX6_give_57 ?_
  refine v_iload_n F dX6_give_58 rfl 3 rfl ?_
  refine v_iadd F dX6_give_59 ?_
  refine v_topr (nI (2 * j + hd)) (by rw [pk_mul, nI_add]) ?_
  refine v_iald F (id_S (Or.inl rfl) (by decide)) ((heO (by decide)).trans ((celD_S (Or.inl rfl)))) rfl (2 * j + hd) (Ix_nI (by omega)) dX6_give_60 ?_
  refine v_if_le F (tgt := 70) dX6_give_61 (by decide) (fun c61 => ?_) (fun h => absurd (hle) h)
  refine v_open 3 (M 3) rfl ?_
  refine v_aload_n F dX6_give_70 rfl 0 rfl ?_
  refine v_get F (id_Q 0 (by decide)) ((heO (by decide)).trans (heQ)) rfl uw_X6 8 (by decide) rfl rfl wf_X6_30 dX6_give_71 ?_
  refine v_getN F (id_S (Or.inl rfl) (by decide)) (heS (Or.inl rfl)) rfl uw_X5 4 (by decide) rfl rfl wf_X6_69 dX6_give_74 ?_
  refine v_iload_n F dX6_give_77 rfl 1 rfl ?_
  refine v_iconst F (v := 1) dX6_give_78 (by decide) ?_
  refine v_iastC F (id_S (Or.inl rfl) (by decide)) (celD_S (Or.inl rfl)) rfl (k) (Ix_nI (by omega)) (celD_S (Or.inl rfl)) dX6_give_79 ?_
  refine v_aload_n F dX6_give_80 rfl 0 rfl ?_
  refine v_get F (id_Q 0 (by decide)) ((heO (by decide)).trans (heQ)) rfl uw_X6 8 (by decide) rfl rfl wf_X6_30 dX6_give_81 ?_
  refine v_getN F (id_S (Or.inl rfl) (by decide)) (heS (Or.inl rfl)) rfl uw_X5 3 (by decide) rfl rfl wf_X6_63 dX6_give_84 ?_
  refine v_iconst F (v := nI 2) dX6_give_87 (by decide) ?_
  refine v_iload_n F dX6_give_88 rfl 2 rfl ?_
  refine v_imul F dX6_give_89 ?_
  refine v_iload_n F dX6_give_90 rfl 3 rfl ?_
  refine v_iadd F dX6_give_91 ?_
  refine v_topr (nI (2 * j + hd)) (by rw [pk_mul, nI_add]) ?_
  refine v_iload_n F dX6_give_92 rfl 1 rfl ?_
  refine v_iconst F (v := 1) dX6_give_93 (by decide) ?_
  refine v_iadd F dX6_give_94 ?_
  refine v_iastC F (id_S (Or.inl rfl) (by decide)) (celD_S (Or.inl rfl)) rfl (2 * j + hd) (Ix_nI (by omega)) (celD_S (Or.inl rfl)) dX6_give_95 ?_
  refine v_aload_n F dX6_give_96 rfl 0 rfl ?_
  refine v_iload_n F dX6_give_97 rfl 2 rfl ?_
  refine v_callVi F (As := [_]) (rest := []) rfl (c_X6_holds G C2 hj) Rv_Q wm_X6_72 rfl ⟨rfl, rfl, Nat.le_of_ble_eq_true rfl, Nat.le_of_ble_eq_true rfl, Nat.le_of_ble_eq_true rfl, Nat.le_of_ble_eq_true rfl, Nat.le_of_ble_eq_true rfl⟩ dX6_give_98 ?_
  exact v_iret F hr dX6_give_101 rfl rfl rfl
set_option maxHeartbeats 4000000 in
set_option maxRecDepth 100000 in
theorem c_X6_give_k {X : Cx} {l : Launch} (G : Gx X l) {M : Mem} {lf : Lf} {σ : Sg} {jc tc b : Nat} {ln : Nat → Nat} (C : Cp σ (M 2) (M 3) jc tc b ln) {x y z : Int32} (hx : x < 0 ∨ nI tc ≤ x) : CI X l yX6_give (wsc yX6_give cX6_give 4 (some .int)) rm_X6_give [.ref (X.2.1 2 0 0), .int x, .int y, .int z] (M) lf (0) (uC M 2 (u3 (u3 (M 2) 0 0 0 0) 0 0 0 1)) lf 0 0 := by
  refine CI_of (lv := [(0, .ref _), (1, .int _), (2, .int _), (3, .int _)]) G (by decide) (Nat.le_of_ble_eq_true rfl) rfl (fun p e s m args below meth c F hr => ?_)
  have F : Fx p l s m args meth c cX6_give 4 RX6 X := F
  have h4 := C.1.1.1
  have h12 := C.1.1.2.1
  have hJ := C.1.2.1
  have hT := C.1.2.2.1
  have hJQ : (uC M 2 (u3 (M 2) 0 0 0 0)) 2 0 0 1 = nI jc := by rw [uC_at, u3_ne (by decide)]; exact hJ
  have hTQ : (uC M 2 (u3 (M 2) 0 0 0 0)) 2 0 0 2 = nI tc := by rw [uC_at, u3_ne (by decide)]; exact hT
  refine v_mem (uC_self _ 2) ?_
  refine v_aload_n F dX6_give_0 rfl 0 rfl ?_
  refine v_iconst F (v := 0) dX6_give_1 (by decide) ?_
  refine v_putC F tyX6 tyX6_ok nmX6 (id_Q 0 (by decide)) rfl rfl uw_X6 0 (by decide) rfl rfl (by decide +kernel) rfl (Nat.le_of_ble_eq_true rfl) wf_X6_37 dX6_give_2 ?_
  refine v_aload_n F dX6_give_5 rfl 0 rfl ?_
  refine v_iload_n F dX6_give_6 rfl 1 rfl ?_
  refine v_callVi F (As := [_]) (rest := []) rfl (c_X6_isThing_n G hTQ (by omega) hx) Rv_Q wm_X6_66 rfl ⟨rfl, rfl, Nat.le_of_ble_eq_true rfl, Nat.le_of_ble_eq_true rfl, Nat.le_of_ble_eq_true rfl, Nat.le_of_ble_eq_true rfl, Nat.le_of_ble_eq_true rfl⟩ dX6_give_7 ?_
  refine v_if_eq F (tgt := 30) dX6_give_10 (by decide) (fun c10 => ?_) (fun h => absurd (rfl) h)
  refine v_aload_n F dX6_give_30 rfl 0 rfl ?_
  refine v_iconst F (v := 1) dX6_give_31 (by decide) ?_
  refine v_callVi F (As := [_]) (rest := []) rfl (c_X6_no G 1) Rv_Q wm_X6_55 rfl ⟨rfl, rfl, Nat.le_of_ble_eq_true rfl, Nat.le_of_ble_eq_true rfl, Nat.le_of_ble_eq_true rfl, Nat.le_of_ble_eq_true rfl, Nat.le_of_ble_eq_true rfl⟩ dX6_give_32 ?_
  exact v_iret F hr dX6_give_35 rfl rfl rfl
set_option maxHeartbeats 4000000 in
set_option maxRecDepth 100000 in
theorem c_X6_give_j {X : Cx} {l : Launch} (G : Gx X l) {M : Mem} {lf : Lf} {σ : Sg} {jc tc b : Nat} {ln : Nat → Nat} (C : Cp σ (M 2) (M 3) jc tc b ln) {k : Nat} (hk : k < tc) {y z : Int32} (hx : y < 0 ∨ nI jc ≤ y) : CI X l yX6_give (wsc yX6_give cX6_give 4 (some .int)) rm_X6_give [.ref (X.2.1 2 0 0), .int (nI k), .int y, .int z] (M) lf (0) (uC M 2 (u3 (u3 (M 2) 0 0 0 0) 0 0 0 1)) lf 0 0 := by
  refine CI_of (lv := [(0, .ref _), (1, .int _), (2, .int _), (3, .int _)]) G (by decide) (Nat.le_of_ble_eq_true rfl) rfl (fun p e s m args below meth c F hr => ?_)
  have F : Fx p l s m args meth c cX6_give 4 RX6 X := F
  have h4 := C.1.1.1
  have h12 := C.1.1.2.1
  have hJ := C.1.2.1
  have hT := C.1.2.2.1
  have hJQ : (uC M 2 (u3 (M 2) 0 0 0 0)) 2 0 0 1 = nI jc := by rw [uC_at, u3_ne (by decide)]; exact hJ
  have hTQ : (uC M 2 (u3 (M 2) 0 0 0 0)) 2 0 0 2 = nI tc := by rw [uC_at, u3_ne (by decide)]; exact hT
  refine v_mem (uC_self _ 2) ?_
  refine v_aload_n F dX6_give_0 rfl 0 rfl ?_
  refine v_iconst F (v := 0) dX6_give_1 (by decide) ?_
  refine v_putC F tyX6 tyX6_ok nmX6 (id_Q 0 (by decide)) rfl rfl uw_X6 0 (by decide) rfl rfl (by decide +kernel) rfl (Nat.le_of_ble_eq_true rfl) wf_X6_37 dX6_give_2 ?_
  refine v_aload_n F dX6_give_5 rfl 0 rfl ?_
  refine v_iload_n F dX6_give_6 rfl 1 rfl ?_
  refine v_callVi F (As := [_]) (rest := []) rfl (c_X6_isThing_y G hTQ (by omega) hk) Rv_Q wm_X6_66 rfl ⟨rfl, rfl, Nat.le_of_ble_eq_true rfl, Nat.le_of_ble_eq_true rfl, Nat.le_of_ble_eq_true rfl, Nat.le_of_ble_eq_true rfl, Nat.le_of_ble_eq_true rfl⟩ dX6_give_7 ?_
  refine v_if_eq F (tgt := 30) dX6_give_10 (by decide) (fun h => absurd h ((by decide))) (fun c10 => ?_)
  refine v_aload_n F dX6_give_13 rfl 0 rfl ?_
  refine v_iload_n F dX6_give_14 rfl 2 rfl ?_
  refine v_callVi F (As := [_]) (rest := []) rfl (c_X6_isJuggler_n G (hJQ) (by omega) hx) Rv_Q wm_X6_51 rfl ⟨rfl, rfl, Nat.le_of_ble_eq_true rfl, Nat.le_of_ble_eq_true rfl, Nat.le_of_ble_eq_true rfl, Nat.le_of_ble_eq_true rfl, Nat.le_of_ble_eq_true rfl⟩ dX6_give_15 ?_
  refine v_if_eq F (tgt := 30) dX6_give_18 (by decide) (fun c18 => ?_) (fun h => absurd (rfl) h)
  refine v_aload_n F dX6_give_30 rfl 0 rfl ?_
  refine v_iconst F (v := 1) dX6_give_31 (by decide) ?_
  refine v_callVi F (As := [_]) (rest := []) rfl (c_X6_no G 1) Rv_Q wm_X6_55 rfl ⟨rfl, rfl, Nat.le_of_ble_eq_true rfl, Nat.le_of_ble_eq_true rfl, Nat.le_of_ble_eq_true rfl, Nat.le_of_ble_eq_true rfl, Nat.le_of_ble_eq_true rfl⟩ dX6_give_32 ?_
  exact v_iret F hr dX6_give_35 rfl rfl rfl
set_option maxHeartbeats 4000000 in
set_option maxRecDepth 100000 in
theorem c_X6_give_h {X : Cx} {l : Launch} (G : Gx X l) {M : Mem} {lf : Lf} {σ : Sg} {jc tc b : Nat} {ln : Nat → Nat} (C : Cp σ (M 2) (M 3) jc tc b ln) {k j : Nat} (hk : k < tc) (hj : j < jc) {z : Int32} (hx : z < 0 ∨ nI 2 ≤ z) : CI X l yX6_give (wsc yX6_give cX6_give 4 (some .int)) rm_X6_give [.ref (X.2.1 2 0 0), .int (nI k), .int (nI j), .int z] (M) lf (0) (uC M 2 (u3 (u3 (M 2) 0 0 0 0) 0 0 0 1)) lf 0 0 := by
  refine CI_of (lv := [(0, .ref _), (1, .int _), (2, .int _), (3, .int _)]) G (by decide) (Nat.le_of_ble_eq_true rfl) rfl (fun p e s m args below meth c F hr => ?_)
  have F : Fx p l s m args meth c cX6_give 4 RX6 X := F
  have h4 := C.1.1.1
  have h12 := C.1.1.2.1
  have hJ := C.1.2.1
  have hT := C.1.2.2.1
  have hJQ : (uC M 2 (u3 (M 2) 0 0 0 0)) 2 0 0 1 = nI jc := by rw [uC_at, u3_ne (by decide)]; exact hJ
  have hTQ : (uC M 2 (u3 (M 2) 0 0 0 0)) 2 0 0 2 = nI tc := by rw [uC_at, u3_ne (by decide)]; exact hT
  refine v_mem (uC_self _ 2) ?_
  refine v_aload_n F dX6_give_0 rfl 0 rfl ?_
  refine v_iconst F (v := 0) dX6_give_1 (by decide) ?_
  refine v_putC F tyX6 tyX6_ok nmX6 (id_Q 0 (by decide)) rfl rfl uw_X6 0 (by decide) rfl rfl (by decide +kernel) rfl (Nat.le_of_ble_eq_true rfl) wf_X6_37 dX6_give_2 ?_
  refine v_aload_n F dX6_give_5 rfl 0 rfl ?_
  refine v_iload_n F dX6_give_6 rfl 1 rfl ?_
  refine v_callVi F (As := [_]) (rest := []) rfl (c_X6_isThing_y G hTQ (by omega) hk) Rv_Q wm_X6_66 rfl ⟨rfl, rfl, Nat.le_of_ble_eq_true rfl, Nat.le_of_ble_eq_true rfl, Nat.le_of_ble_eq_true rfl, Nat.le_of_ble_eq_true rfl, Nat.le_of_ble_eq_true rfl⟩ dX6_give_7 ?_
  refine v_if_eq F (tgt := 30) dX6_give_10 (by decide) (fun h => absurd h ((by decide))) (fun c10 => ?_)
  refine v_aload_n F dX6_give_13 rfl 0 rfl ?_
  refine v_iload_n F dX6_give_14 rfl 2 rfl ?_
  refine v_callVi F (As := [_]) (rest := []) rfl (c_X6_isJuggler_y G (hJQ) (by omega) hj) Rv_Q wm_X6_51 rfl ⟨rfl, rfl, Nat.le_of_ble_eq_true rfl, Nat.le_of_ble_eq_true rfl, Nat.le_of_ble_eq_true rfl, Nat.le_of_ble_eq_true rfl, Nat.le_of_ble_eq_true rfl⟩ dX6_give_15 ?_
  refine v_if_eq F (tgt := 30) dX6_give_18 (by decide) (fun h => absurd h ((by decide))) (fun c18 => ?_)
  refine v_iload_n F dX6_give_21 rfl 3 rfl ?_
  refine v_iconst F (v := 0) dX6_give_22 (by decide) ?_
  refine v_iconst F (v := (nI 2 - 1)) dX6_give_23 (by decide) ?_
  refine v_callSi F (As := [_, _, _]) (rest := []) rfl (c_X6_isIn_n G (m1_n (by decide) hx)) wm_X6_44 rfl ⟨rfl, rfl, Nat.le_of_ble_eq_true rfl, Nat.le_of_ble_eq_true rfl, Nat.le_of_ble_eq_true rfl, Nat.le_of_ble_eq_true rfl, Nat.le_of_ble_eq_true rfl⟩ dX6_give_24 ?_
  refine v_if_ne F (tgt := 36) dX6_give_27 (by decide) (fun h => absurd (rfl) h) (fun c27 => ?_)
  refine v_aload_n F dX6_give_30 rfl 0 rfl ?_
  refine v_iconst F (v := 1) dX6_give_31 (by decide) ?_
  refine v_callVi F (As := [_]) (rest := []) rfl (c_X6_no G 1) Rv_Q wm_X6_55 rfl ⟨rfl, rfl, Nat.le_of_ble_eq_true rfl, Nat.le_of_ble_eq_true rfl, Nat.le_of_ble_eq_true rfl, Nat.le_of_ble_eq_true rfl, Nat.le_of_ble_eq_true rfl⟩ dX6_give_32 ?_
  exact v_iret F hr dX6_give_35 rfl rfl rfl
set_option maxHeartbeats 4000000 in
set_option maxRecDepth 100000 in
theorem c_X6_give_s {X : Cx} {l : Launch} (G : Gx X l) {M : Mem} {lf : Lf} {σ : Sg} {jc tc b : Nat} {ln : Nat → Nat} (C : Cp σ (M 2) (M 3) jc tc b ln) {k j hd : Nat} (hk : k < tc) (hj : j < jc) (hh : hd < 2) (hst : ¬ σ 8 k 1 = 0) : CI X l yX6_give (wsc yX6_give cX6_give 4 (some .int)) rm_X6_give [.ref (X.2.1 2 0 0), .int (nI k), .int (nI j), .int (nI hd)] (M) lf (0) (uC M 2 (u3 (u3 (M 2) 0 0 0 0) 0 0 0 2)) lf 0 0 := by
  refine CI_of (lv := [(0, .ref _), (1, .int _), (2, .int _), (3, .int _)]) G (by decide) (Nat.le_of_ble_eq_true rfl) rfl (fun p e s m args below meth c F hr => ?_)
  have F : Fx p l s m args meth c cX6_give 4 RX6 X := F
  have h4 := C.1.1.1
  have h12 := C.1.1.2.1
  have hJ := C.1.2.1
  have hT := C.1.2.2.1
  have hJQ : (uC M 2 (u3 (M 2) 0 0 0 0)) 2 0 0 1 = nI jc := by rw [uC_at, u3_ne (by decide)]; exact hJ
  have hTQ : (uC M 2 (u3 (M 2) 0 0 0 0)) 2 0 0 2 = nI tc := by rw [uC_at, u3_ne (by decide)]; exact hT
  refine v_mem (uC_self _ 2) ?_
  refine v_aload_n F dX6_give_0 rfl 0 rfl ?_
  refine v_iconst F (v := 0) dX6_give_1 (by decide) ?_
  refine v_putC F tyX6 tyX6_ok nmX6 (id_Q 0 (by decide)) rfl rfl uw_X6 0 (by decide) rfl rfl (by decide +kernel) rfl (Nat.le_of_ble_eq_true rfl) wf_X6_37 dX6_give_2 ?_
  refine v_aload_n F dX6_give_5 rfl 0 rfl ?_
  refine v_iload_n F dX6_give_6 rfl 1 rfl ?_
  refine v_callVi F (As := [_]) (rest := []) rfl (c_X6_isThing_y G hTQ (by omega) hk) Rv_Q wm_X6_66 rfl ⟨rfl, rfl, Nat.le_of_ble_eq_true rfl, Nat.le_of_ble_eq_true rfl, Nat.le_of_ble_eq_true rfl, Nat.le_of_ble_eq_true rfl, Nat.le_of_ble_eq_true rfl⟩ dX6_give_7 ?_
  refine v_if_eq F (tgt := 30) dX6_give_10 (by decide) (fun h => absurd h ((by decide))) (fun c10 => ?_)
  refine v_aload_n F dX6_give_13 rfl 0 rfl ?_
  refine v_iload_n F dX6_give_14 rfl 2 rfl ?_
  refine v_callVi F (As := [_]) (rest := []) rfl (c_X6_isJuggler_y G (hJQ) (by omega) hj) Rv_Q wm_X6_51 rfl ⟨rfl, rfl, Nat.le_of_ble_eq_true rfl, Nat.le_of_ble_eq_true rfl, Nat.le_of_ble_eq_true rfl, Nat.le_of_ble_eq_true rfl, Nat.le_of_ble_eq_true rfl⟩ dX6_give_15 ?_
  refine v_if_eq F (tgt := 30) dX6_give_18 (by decide) (fun h => absurd h ((by decide))) (fun c18 => ?_)
  refine v_iload_n F dX6_give_21 rfl 3 rfl ?_
  refine v_iconst F (v := 0) dX6_give_22 (by decide) ?_
  refine v_iconst F (v := nI 1) dX6_give_23 (by decide) ?_
  refine v_callSi F (As := [_, _, _]) (rest := []) rfl (c_X6_isIn_y G (nI_pos (by omega)) (nI_nlt (by omega) (by decide))) wm_X6_44 rfl ⟨rfl, rfl, Nat.le_of_ble_eq_true rfl, Nat.le_of_ble_eq_true rfl, Nat.le_of_ble_eq_true rfl, Nat.le_of_ble_eq_true rfl, Nat.le_of_ble_eq_true rfl⟩ dX6_give_24 ?_
  refine v_if_ne F (tgt := 36) dX6_give_27 (by decide) (fun c27 => ?_) (fun h => absurd h ((by decide)))
  refine v_aload_n F dX6_give_36 rfl 0 rfl ?_
  refine v_get F (id_Q 0 (by decide)) heQ rfl uw_X6 8 (by decide) rfl rfl wf_X6_30 dX6_give_37 ?_
  refine v_getN F (id_S (Or.inl rfl) (by decide)) ((heO (by decide)).trans ((celD_S (Or.inl rfl)))) rfl uw_X5 4 (by decide) rfl rfl wf_X6_69 dX6_give_40 ?_
  refine v_iload_n F dX6_give_43 rfl 1 rfl ?_
  refine v_iald F (id_S (Or.inl rfl) (by decide)) ((heO (by decide)).trans ((celD_S (Or.inl rfl)))) rfl (k) (Ix_nI (by omega)) dX6_give_44 ?_
  refine v_topr (σ 8 k 1) (C.2.2.2.2.1 k hk).1 ?_
  refine v_if_ne F (tgt := 64) dX6_give_45 (by decide) (fun c45 => ?_) (fun h => absurd h (hst))
  refine v_aload_n F dX6_give_64 rfl 0 rfl ?_
  refine v_iconst F (v := 2) dX6_give_65 (by decide) ?_
  refine v_callVi F (As := [_]) (rest := []) rfl (c_X6_no G 2) Rv_Q wm_X6_55 rfl ⟨rfl, rfl, Nat.le_of_ble_eq_true rfl, Nat.le_of_ble_eq_true rfl, Nat.le_of_ble_eq_true rfl, Nat.le_of_ble_eq_true rfl, Nat.le_of_ble_eq_true rfl⟩ dX6_give_66 ?_
  exact v_iret F hr dX6_give_69 rfl rfl rfl
set_option maxHeartbeats 4000000 in
set_option maxRecDepth 100000 in
theorem c_X6_give_o {X : Cx} {l : Launch} (G : Gx X l) {M : Mem} {lf : Lf} {σ : Sg} {jc tc b : Nat} {ln : Nat → Nat} (C : Cp σ (M 2) (M 3) jc tc b ln) {k j hd : Nat} (hk : k < tc) (hj : j < jc) (hh : hd < 2) (hst : σ 8 k 1 = 0) (hhd : ¬ σ 6 j hd = -1) : CI X l yX6_give (wsc yX6_give cX6_give 4 (some .int)) rm_X6_give [.ref (X.2.1 2 0 0), .int (nI k), .int (nI j), .int (nI hd)] (M) lf (0) (uC M 2 (u3 (u3 (M 2) 0 0 0 0) 0 0 0 2)) lf 0 0 := by
  refine CI_of (lv := [(0, .ref _), (1, .int _), (2, .int _), (3, .int _)]) G (by decide) (Nat.le_of_ble_eq_true rfl) rfl (fun p e s m args below meth c F hr => ?_)
  have F : Fx p l s m args meth c cX6_give 4 RX6 X := F
  have h4 := C.1.1.1
  have h12 := C.1.1.2.1
  have hJ := C.1.2.1
  have hT := C.1.2.2.1
  have hJQ : (uC M 2 (u3 (M 2) 0 0 0 0)) 2 0 0 1 = nI jc := by rw [uC_at, u3_ne (by decide)]; exact hJ
  have hTQ : (uC M 2 (u3 (M 2) 0 0 0 0)) 2 0 0 2 = nI tc := by rw [uC_at, u3_ne (by decide)]; exact hT
  refine v_mem (uC_self _ 2) ?_
  refine v_aload_n F dX6_give_0 rfl 0 rfl ?_
  refine v_iconst F (v := 0) dX6_give_1 (by decide) ?_
  refine v_putC F tyX6 tyX6_ok nmX6 (id_Q 0 (by decide)) rfl rfl uw_X6 0 (by decide) rfl rfl (by decide +kernel) rfl (Nat.le_of_ble_eq_true rfl) wf_X6_37 dX6_give_2 ?_
  refine v_aload_n F dX6_give_5 rfl 0 rfl ?_
  refine v_iload_n F dX6_give_6 rfl 1 rfl ?_
  refine v_callVi F (As := [_]) (rest := []) rfl (c_X6_isThing_y G hTQ (by omega) hk) Rv_Q wm_X6_66 rfl ⟨rfl, rfl, Nat.le_of_ble_eq_true rfl, Nat.le_of_ble_eq_true rfl, Nat.le_of_ble_eq_true rfl, Nat.le_of_ble_eq_true rfl, Nat.le_of_ble_eq_true rfl⟩ dX6_give_7 ?_
  refine v_if_eq F (tgt := 30) dX6_give_10 (by decide) (fun h => absurd h ((by decide))) (fun c10 => ?_)
  refine v_aload_n F dX6_give_13 rfl 0 rfl ?_
  refine v_iload_n F dX6_give_14 rfl 2 rfl ?_
  refine v_callVi F (As := [_]) (rest := []) rfl (c_X6_isJuggler_y G (hJQ) (by omega) hj) Rv_Q wm_X6_51 rfl ⟨rfl, rfl, Nat.le_of_ble_eq_true rfl, Nat.le_of_ble_eq_true rfl, Nat.le_of_ble_eq_true rfl, Nat.le_of_ble_eq_true rfl, Nat.le_of_ble_eq_true rfl⟩ dX6_give_15 ?_
  refine v_if_eq F (tgt := 30) dX6_give_18 (by decide) (fun h => absurd h ((by decide))) (fun c18 => ?_)
  refine v_iload_n F dX6_give_21 rfl 3 rfl ?_
  refine v_iconst F (v := 0) dX6_give_22 (by decide) ?_
  refine v_iconst F (v := nI 1) dX6_give_23 (by decide) ?_
  refine v_callSi F (As := [_, _, _]) (rest := []) rfl (c_X6_isIn_y G (nI_pos (by omega)) (nI_nlt (by omega) (by decide))) wm_X6_44 rfl ⟨rfl, rfl, Nat.le_of_ble_eq_true rfl, Nat.le_of_ble_eq_true rfl, Nat.le_of_ble_eq_true rfl, Nat.le_of_ble_eq_true rfl, Nat.le_of_ble_eq_true rfl⟩ dX6_give_24 ?_
  refine v_if_ne F (tgt := 36) dX6_give_27 (by decide) (fun c27 => ?_) (fun h => absurd h ((by decide)))
  refine v_aload_n F dX6_give_36 rfl 0 rfl ?_
  refine v_get F (id_Q 0 (by decide)) heQ rfl uw_X6 8 (by decide) rfl rfl wf_X6_30 dX6_give_37 ?_
  refine v_getN F (id_S (Or.inl rfl) (by decide)) ((heO (by decide)).trans ((celD_S (Or.inl rfl)))) rfl uw_X5 4 (by decide) rfl rfl wf_X6_69 dX6_give_40 ?_
  refine v_iload_n F dX6_give_43 rfl 1 rfl ?_
  refine v_iald F (id_S (Or.inl rfl) (by decide)) ((heO (by decide)).trans ((celD_S (Or.inl rfl)))) rfl (k) (Ix_nI (by omega)) dX6_give_44 ?_
  refine v_topr (σ 8 k 1) (C.2.2.2.2.1 k hk).1 ?_
  refine v_if_ne F (tgt := 64) dX6_give_45 (by decide) (fun h => absurd (hst) h) (fun c45 => ?_)
  refine v_aload_n F dX6_give_48 rfl 0 rfl ?_
  refine v_get F (id_Q 0 (by decide)) heQ rfl uw_X6 8 (by decide) rfl rfl wf_X6_30 dX6_give_49 ?_
  refine v_getN F (id_S (Or.inl rfl) (by decide)) ((heO (by decide)).trans ((celD_S (Or.inl rfl)))) rfl uw_X5 3 (by decide) rfl rfl wf_X6_63 dX6_give_52 ?_
  refine v_iconst F (v := nI 2) dX6_give_55 (by decide) ?_
  refine v_iload_n F dX6_give_56 rfl 2 rfl ?_
  refine v_imul F dX6_give_57 ?_
  refine v_iload_n F dX6_give_58 rfl 3 rfl ?_
  refine v_iadd F dX6_give_59 ?_
  refine v_topr (nI (2 * j + hd)) (by rw [pk_mul, nI_add]) ?_
  refine v_iald F (id_S (Or.inl rfl) (by decide)) ((heO (by decide)).trans ((celD_S (Or.inl rfl)))) rfl (2 * j + hd) (Ix_nI (by omega)) dX6_give_60 ?_
  refine v_if_le F (tgt := 70) dX6_give_61 (by decide) (fun h => absurd h ((hold_pos C hj hh hhd))) (fun c61 => ?_)
  refine v_aload_n F dX6_give_64 rfl 0 rfl ?_
  refine v_iconst F (v := 2) dX6_give_65 (by decide) ?_
  refine v_callVi F (As := [_]) (rest := []) rfl (c_X6_no G 2) Rv_Q wm_X6_55 rfl ⟨rfl, rfl, Nat.le_of_ble_eq_true rfl, Nat.le_of_ble_eq_true rfl, Nat.le_of_ble_eq_true rfl, Nat.le_of_ble_eq_true rfl, Nat.le_of_ble_eq_true rfl⟩ dX6_give_66 ?_
  exact v_iret F hr dX6_give_69 rfl rfl rfl
abbrev rm_X6_thingTold : Room := { frames := 1, cells := 1, slots := 7, locals := 22 }
set_option maxHeartbeats 4000000 in
set_option maxRecDepth 100000 in
theorem c_X6_thingTold_n {X : Cx} {l : Launch} (G : Gx X l) {M : Mem} {lf : Lf} {σ : Sg} {jc tc b : Nat} {ln : Nat → Nat} (C : Cp σ (M 2) (M 3) jc tc b ln) {k w : Nat} (hk : k < tc) (hw : w < 7) (hn1 : ¬ σ 8 k 1 = 1) (hn2 : ¬ σ 8 k 1 = 2) (w2 : σ 8 k 2 = -1) (w3 : σ 8 k 3 = -1) : CI X l yX6_thingTold (wsc yX6_thingTold cX6_thingTold 6 (some .int)) rm_X6_thingTold [.ref (X.2.1 2 0 0), .int (nI k), .int (nI w)] (M) lf (fTellT σ k w) (M) lf 1 7 := by
  refine CI_of (lv := [(0, .ref _), (1, .int _), (2, .int _)]) G (by decide) (Nat.le_of_ble_eq_true rfl) rfl (fun p e s m args below meth c F hr => ?_)
  have F : Fx p l s m args meth c cX6_thingTold 6 RX6 X := F
  have h4 := C.1.1.1
  have h12 := C.1.1.2.1
  have hS := C.2.2.2.2.1 k hk
  refine v_aload_n F dX6_thingTold_0 rfl 0 rfl ?_
  refine v_get F (id_Q 0 (by decide)) rfl rfl uw_X6 8 (by decide) rfl rfl wf_X6_30 dX6_thingTold_1 ?_
  refine v_iload_n F dX6_thingTold_4 rfl 1 rfl ?_
  refine v_callVi F (As := [_]) (rest := []) rfl (c_X5_handOf_no G (Or.inl rfl) (hand_no C hk hn1)) (Rv_S (Or.inl rfl)) wm_X6_75 rfl ⟨rfl, rfl, Nat.le_of_ble_eq_true rfl, Nat.le_of_ble_eq_true rfl, Nat.le_of_ble_eq_true rfl, Nat.le_of_ble_eq_true rfl, Nat.le_of_ble_eq_true rfl⟩ dX6_thingTold_5 ?_
  refine v_istore_n F dX6_thingTold_8 rfl (by decide) (lv' := [(3, .int _), (0, .ref _), (1, .int _), (2, .int _)]) rfl ?_
  refine v_aload_n F dX6_thingTold_9 rfl 1 rfl ?_
  refine v_get F (id_Q 0 (by decide)) rfl rfl uw_X6 8 (by decide) rfl rfl wf_X6_30 dX6_thingTold_10 ?_
  refine v_getN F (id_S (Or.inl rfl) (by decide)) (celD_S (Or.inl rfl)) rfl uw_X5 4 (by decide) rfl rfl wf_X6_69 dX6_thingTold_13 ?_
  refine v_iload_n F dX6_thingTold_16 rfl 2 rfl ?_
  refine v_iald F (id_S (Or.inl rfl) (by decide)) (celD_S (Or.inl rfl)) rfl (k) (Ix_nI (by omega)) dX6_thingTold_17 ?_
  refine v_topr (σ 8 k 1) hS.1 ?_
  refine v_iconst F (v := 2) dX6_thingTold_18 (by decide) ?_
  refine v_icmp_ne F (tgt := 26) dX6_thingTold_19 (by decide) (fun c19 => ?_) (fun h => absurd h (hn2))
  refine v_iconst F (v := 0) dX6_thingTold_26 (by decide) ?_
  refine v_istore F dX6_thingTold_27 (by decide) (lv' := [(4, .int _), (3, .int _), (0, .ref _), (1, .int _), (2, .int _)]) rfl ?_
  refine v_bipush F (v := 7) dX6_thingTold_29 (by decide) ?_
  refine v_newt F 7 war_int (by decide) (by decide) (by decide) (Nat.le_of_ble_eq_true rfl) (Nat.le_of_ble_eq_true rfl) dX6_thingTold_31 (fun tmp => ?_)
  refine v_dup F dX6_thingTold_33 rfl ?_
  refine v_iconst F (v := 0) dX6_thingTold_34 (by decide) ?_
  refine v_aload_n F dX6_thingTold_35 rfl 2 rfl ?_
  refine v_get F (id_Q 0 (by decide)) rfl rfl uw_X6 7 (by decide) rfl rfl wf_X6_22 dX6_thingTold_36 ?_
  refine v_iload_n F dX6_thingTold_39 rfl 3 rfl ?_
  refine v_iald F (id_Q 5 (by decide)) rfl rfl (k) (Ix_nI (by omega)) dX6_thingTold_40 ?_
  refine v_topr (σ 8 k 0) (C.1.2.2.2.2 k hk) ?_
  refine v_east F (0) ⟨by decide, by decide, by decide⟩ dX6_thingTold_41 ?_
  refine v_dup F dX6_thingTold_42 rfl ?_
  refine v_iconst F (v := 1) dX6_thingTold_43 (by decide) ?_
  refine v_aload_n F dX6_thingTold_44 rfl 2 rfl ?_
  refine v_get F (id_Q 0 (by decide)) rfl rfl uw_X6 8 (by decide) rfl rfl wf_X6_30 dX6_thingTold_45 ?_
  refine v_getN F (id_S (Or.inl rfl) (by decide)) (celD_S (Or.inl rfl)) rfl uw_X5 4 (by decide) rfl rfl wf_X6_69 dX6_thingTold_48 ?_
  refine v_iload_n F dX6_thingTold_51 rfl 3 rfl ?_
  refine v_iald F (id_S (Or.inl rfl) (by decide)) (celD_S (Or.inl rfl)) rfl (k) (Ix_nI (by omega)) dX6_thingTold_52 ?_
  refine v_topr (σ 8 k 1) hS.1 ?_
  refine v_east F (1) ⟨by decide, by decide, by decide⟩ dX6_thingTold_53 ?_
  refine v_dup F dX6_thingTold_54 rfl ?_
  refine v_iconst F (v := 2) dX6_thingTold_55 (by decide) ?_
  refine v_iload_n F dX6_thingTold_56 rfl 1 rfl ?_
  refine v_iconst F (v := (-1)) dX6_thingTold_57 (by decide) ?_
  refine v_icmp_eq F (tgt := 67) dX6_thingTold_58 (by decide) (fun c58 => ?_) (fun h => absurd (rfl) h)
  refine v_iload F dX6_thingTold_67 0 rfl ?_
  refine v_if_eq F (tgt := 84) dX6_thingTold_69 (by decide) (fun c69 => ?_) (fun h => absurd (rfl) h)
  refine v_iconst F (v := (-1)) dX6_thingTold_84 (by decide) ?_
  refine v_topr (σ 8 k 2) w2.symm ?_
  refine v_east F (2) ⟨by decide, by decide, by decide⟩ dX6_thingTold_85 ?_
  refine v_dup F dX6_thingTold_86 rfl ?_
  refine v_iconst F (v := 3) dX6_thingTold_87 (by decide) ?_
  refine v_iload_n F dX6_thingTold_88 rfl 1 rfl ?_
  refine v_iconst F (v := (-1)) dX6_thingTold_89 (by decide) ?_
  refine v_icmp_eq F (tgt := 99) dX6_thingTold_90 (by decide) (fun c90 => ?_) (fun h => absurd (rfl) h)
  refine v_iconst F (v := (-1)) dX6_thingTold_99 (by decide) ?_
  refine v_topr (σ 8 k 3) w3.symm ?_
  refine v_east F (3) ⟨by decide, by decide, by decide⟩ dX6_thingTold_100 ?_
  refine v_dup F dX6_thingTold_101 rfl ?_
  refine v_iconst F (v := 4) dX6_thingTold_102 (by decide) ?_
  refine v_iload F dX6_thingTold_103 0 rfl ?_
  refine v_if_eq F (tgt := 128) dX6_thingTold_105 (by decide) (fun c105 => ?_) (fun h => absurd (rfl) h)
  refine v_iconst F (v := (-1)) dX6_thingTold_128 (by decide) ?_
  refine v_east F (4) ⟨by decide, by decide, by decide⟩ dX6_thingTold_129 ?_
  refine v_dup F dX6_thingTold_130 rfl ?_
  refine v_iconst F (v := 5) dX6_thingTold_131 (by decide) ?_
  refine v_aload_n F dX6_thingTold_132 rfl 2 rfl ?_
  refine v_get F (id_Q 0 (by decide)) rfl rfl uw_X6 8 (by decide) rfl rfl wf_X6_30 dX6_thingTold_133 ?_
  refine v_getN F (id_S (Or.inl rfl) (by decide)) (celD_S (Or.inl rfl)) rfl uw_X5 8 (by decide) rfl rfl wf_X6_87 dX6_thingTold_136 ?_
  refine v_iload_n F dX6_thingTold_139 rfl 3 rfl ?_
  refine v_iald F (id_S (Or.inl rfl) (by decide)) (celD_S (Or.inl rfl)) rfl (k) (Ix_nI (by omega)) dX6_thingTold_140 ?_
  refine v_topr (σ 8 k 6) hS.2.1 ?_
  refine v_east F (5) ⟨by decide, by decide, by decide⟩ dX6_thingTold_141 ?_
  refine v_dup F dX6_thingTold_142 rfl ?_
  refine v_bipush F (v := 6) dX6_thingTold_143 (by decide) ?_
  refine v_aload_n F dX6_thingTold_145 rfl 2 rfl ?_
  refine v_get F (id_Q 0 (by decide)) rfl rfl uw_X6 8 (by decide) rfl rfl wf_X6_30 dX6_thingTold_146 ?_
  refine v_getN F (id_S (Or.inl rfl) (by decide)) (celD_S (Or.inl rfl)) rfl uw_X5 9 (by decide) rfl rfl wf_X6_90 dX6_thingTold_149 ?_
  refine v_iload_n F dX6_thingTold_152 rfl 3 rfl ?_
  refine v_iald F (id_S (Or.inl rfl) (by decide)) (celD_S (Or.inl rfl)) rfl (k) (Ix_nI (by omega)) dX6_thingTold_153 ?_
  refine v_topr (σ 8 k 7) hS.2.2.1 ?_
  refine v_east F (6) ⟨by decide, by decide, by decide⟩ dX6_thingTold_154 ?_
  refine v_astore F dX6_thingTold_155 (by decide) (lv' := [(5, .ref _), (4, .int _), (3, .int _), (0, .ref _), (1, .int _), (2, .int _)]) rfl ?_
  refine v_aload F dX6_thingTold_157 0 rfl ?_
  refine v_iload_n F dX6_thingTold_159 rfl 5 rfl ?_
  refine v_eald F (w) (Ix_nI hw) dX6_thingTold_160 ?_
  refine v_iret F hr dX6_thingTold_161 ?_ rfl rfl
  have hw7 : w = 0 ∨ w = 1 ∨ w = 2 ∨ w = 3 ∨ w = 4 ∨ w = 5 ∨ w = 6 := by omega
  rcases hw7 with rfl | rfl | rfl | rfl | rfl | rfl | rfl <;> simp [upd, fTellT, hn2]
set_option maxHeartbeats 4000000 in
set_option maxRecDepth 100000 in
theorem c_X6_thingTold_a {X : Cx} {l : Launch} (G : Gx X l) {M : Mem} {lf : Lf} {σ : Sg} {jc tc b : Nat} {ln : Nat → Nat} (C : Cp σ (M 2) (M 3) jc tc b ln) {k w : Nat} (hk : k < tc) (hw : w < 7) (hn2 : σ 8 k 1 = 2) (hn1 : ¬ σ 8 k 1 = 1) (w3 : σ 8 k 3 = -1) (w5 : M 3 5 0 k = σ 8 k 2) (w6 : M 3 6 0 k = σ 8 k 4) : CI X l yX6_thingTold (wsc yX6_thingTold cX6_thingTold 6 (some .int)) rm_X6_thingTold [.ref (X.2.1 2 0 0), .int (nI k), .int (nI w)] (M) lf (fTellT σ k w) (M) lf 1 7 := by
  refine CI_of (lv := [(0, .ref _), (1, .int _), (2, .int _)]) G (by decide) (Nat.le_of_ble_eq_true rfl) rfl (fun p e s m args below meth c F hr => ?_)
  have F : Fx p l s m args meth c cX6_thingTold 6 RX6 X := F
  have h4 := C.1.1.1
  have h12 := C.1.1.2.1
  have hS := C.2.2.2.2.1 k hk
  refine v_aload_n F dX6_thingTold_0 rfl 0 rfl ?_
  refine v_get F (id_Q 0 (by decide)) rfl rfl uw_X6 8 (by decide) rfl rfl wf_X6_30 dX6_thingTold_1 ?_
  refine v_iload_n F dX6_thingTold_4 rfl 1 rfl ?_
  refine v_callVi F (As := [_]) (rest := []) rfl (c_X5_handOf_no G (Or.inl rfl) (hand_no C hk hn1)) (Rv_S (Or.inl rfl)) wm_X6_75 rfl ⟨rfl, rfl, Nat.le_of_ble_eq_true rfl, Nat.le_of_ble_eq_true rfl, Nat.le_of_ble_eq_true rfl, Nat.le_of_ble_eq_true rfl, Nat.le_of_ble_eq_true rfl⟩ dX6_thingTold_5 ?_
  refine v_istore_n F dX6_thingTold_8 rfl (by decide) (lv' := [(3, .int _), (0, .ref _), (1, .int _), (2, .int _)]) rfl ?_
  refine v_aload_n F dX6_thingTold_9 rfl 1 rfl ?_
  refine v_get F (id_Q 0 (by decide)) rfl rfl uw_X6 8 (by decide) rfl rfl wf_X6_30 dX6_thingTold_10 ?_
  refine v_getN F (id_S (Or.inl rfl) (by decide)) (celD_S (Or.inl rfl)) rfl uw_X5 4 (by decide) rfl rfl wf_X6_69 dX6_thingTold_13 ?_
  refine v_iload_n F dX6_thingTold_16 rfl 2 rfl ?_
  refine v_iald F (id_S (Or.inl rfl) (by decide)) (celD_S (Or.inl rfl)) rfl (k) (Ix_nI (by omega)) dX6_thingTold_17 ?_
  refine v_topr (σ 8 k 1) hS.1 ?_
  refine v_iconst F (v := 2) dX6_thingTold_18 (by decide) ?_
  refine v_icmp_ne F (tgt := 26) dX6_thingTold_19 (by decide) (fun h => absurd (hn2) h) (fun c19 => ?_)
  refine v_iconst F (v := 1) dX6_thingTold_22 (by decide) ?_
  refine v_goto F (tgt := 27) dX6_thingTold_23 (by decide) ?_
  refine v_istore F dX6_thingTold_27 (by decide) (lv' := [(4, .int _), (3, .int _), (0, .ref _), (1, .int _), (2, .int _)]) rfl ?_
  refine v_bipush F (v := 7) dX6_thingTold_29 (by decide) ?_
  refine v_newt F 7 war_int (by decide) (by decide) (by decide) (Nat.le_of_ble_eq_true rfl) (Nat.le_of_ble_eq_true rfl) dX6_thingTold_31 (fun tmp => ?_)
  refine v_dup F dX6_thingTold_33 rfl ?_
  refine v_iconst F (v := 0) dX6_thingTold_34 (by decide) ?_
  refine v_aload_n F dX6_thingTold_35 rfl 2 rfl ?_
  refine v_get F (id_Q 0 (by decide)) rfl rfl uw_X6 7 (by decide) rfl rfl wf_X6_22 dX6_thingTold_36 ?_
  refine v_iload_n F dX6_thingTold_39 rfl 3 rfl ?_
  refine v_iald F (id_Q 5 (by decide)) rfl rfl (k) (Ix_nI (by omega)) dX6_thingTold_40 ?_
  refine v_topr (σ 8 k 0) (C.1.2.2.2.2 k hk) ?_
  refine v_east F (0) ⟨by decide, by decide, by decide⟩ dX6_thingTold_41 ?_
  refine v_dup F dX6_thingTold_42 rfl ?_
  refine v_iconst F (v := 1) dX6_thingTold_43 (by decide) ?_
  refine v_aload_n F dX6_thingTold_44 rfl 2 rfl ?_
  refine v_get F (id_Q 0 (by decide)) rfl rfl uw_X6 8 (by decide) rfl rfl wf_X6_30 dX6_thingTold_45 ?_
  refine v_getN F (id_S (Or.inl rfl) (by decide)) (celD_S (Or.inl rfl)) rfl uw_X5 4 (by decide) rfl rfl wf_X6_69 dX6_thingTold_48 ?_
  refine v_iload_n F dX6_thingTold_51 rfl 3 rfl ?_
  refine v_iald F (id_S (Or.inl rfl) (by decide)) (celD_S (Or.inl rfl)) rfl (k) (Ix_nI (by omega)) dX6_thingTold_52 ?_
  refine v_topr (σ 8 k 1) hS.1 ?_
  refine v_east F (1) ⟨by decide, by decide, by decide⟩ dX6_thingTold_53 ?_
  refine v_dup F dX6_thingTold_54 rfl ?_
  refine v_iconst F (v := 2) dX6_thingTold_55 (by decide) ?_
  refine v_iload_n F dX6_thingTold_56 rfl 1 rfl ?_
  refine v_iconst F (v := (-1)) dX6_thingTold_57 (by decide) ?_
  refine v_icmp_eq F (tgt := 67) dX6_thingTold_58 (by decide) (fun c58 => ?_) (fun h => absurd (rfl) h)
  refine v_iload F dX6_thingTold_67 0 rfl ?_
  refine v_if_eq F (tgt := 84) dX6_thingTold_69 (by decide) (fun h => absurd h ((by decide))) (fun c69 => ?_)
  refine v_aload_n F dX6_thingTold_72 rfl 2 rfl ?_
  refine v_get F (id_Q 0 (by decide)) rfl rfl uw_X6 8 (by decide) rfl rfl wf_X6_30 dX6_thingTold_73 ?_
  refine v_getN F (id_S (Or.inl rfl) (by decide)) (celD_S (Or.inl rfl)) rfl uw_X5 5 (by decide) rfl rfl wf_X6_78 dX6_thingTold_76 ?_
  refine v_iload_n F dX6_thingTold_79 rfl 3 rfl ?_
  refine v_iald F (id_S (Or.inl rfl) (by decide)) (celD_S (Or.inl rfl)) rfl (k) (Ix_nI (by omega)) dX6_thingTold_80 ?_
  refine v_topr (σ 8 k 2) w5 ?_
  refine v_goto F (tgt := 85) dX6_thingTold_81 (by decide) ?_
  refine v_east F (2) ⟨by decide, by decide, by decide⟩ dX6_thingTold_85 ?_
  refine v_dup F dX6_thingTold_86 rfl ?_
  refine v_iconst F (v := 3) dX6_thingTold_87 (by decide) ?_
  refine v_iload_n F dX6_thingTold_88 rfl 1 rfl ?_
  refine v_iconst F (v := (-1)) dX6_thingTold_89 (by decide) ?_
  refine v_icmp_eq F (tgt := 99) dX6_thingTold_90 (by decide) (fun c90 => ?_) (fun h => absurd (rfl) h)
  refine v_iconst F (v := (-1)) dX6_thingTold_99 (by decide) ?_
  refine v_topr (σ 8 k 3) w3.symm ?_
  refine v_east F (3) ⟨by decide, by decide, by decide⟩ dX6_thingTold_100 ?_
  refine v_dup F dX6_thingTold_101 rfl ?_
  refine v_iconst F (v := 4) dX6_thingTold_102 (by decide) ?_
  refine v_iload F dX6_thingTold_103 0 rfl ?_
  refine v_if_eq F (tgt := 128) dX6_thingTold_105 (by decide) (fun h => absurd h ((by decide))) (fun c105 => ?_)
  refine v_aload_n F dX6_thingTold_108 rfl 2 rfl ?_
  refine v_get F (id_Q 0 (by decide)) rfl rfl uw_X6 8 (by decide) rfl rfl wf_X6_30 dX6_thingTold_109 ?_
  refine v_getN F (id_S (Or.inl rfl) (by decide)) (celD_S (Or.inl rfl)) rfl uw_X5 6 (by decide) rfl rfl wf_X6_81 dX6_thingTold_112 ?_
  refine v_iload_n F dX6_thingTold_115 rfl 3 rfl ?_
  refine v_iald F (id_S (Or.inl rfl) (by decide)) (celD_S (Or.inl rfl)) rfl (k) (Ix_nI (by omega)) dX6_thingTold_116 ?_
  refine v_topr (σ 8 k 4) w6 ?_
  refine v_aload_n F dX6_thingTold_117 rfl 2 rfl ?_
  refine v_get F (id_Q 0 (by decide)) rfl rfl uw_X6 8 (by decide) rfl rfl wf_X6_30 dX6_thingTold_118 ?_
  refine v_getN F (id_S (Or.inl rfl) (by decide)) (celD_S (Or.inl rfl)) rfl uw_X5 0 (by decide) rfl rfl wf_X6_84 dX6_thingTold_121 ?_
  refine v_topr (σ 0 0 4) (C.2.2.1.trans C.2.1.symm) ?_
  refine v_isub F dX6_thingTold_124 ?_
  refine v_goto F (tgt := 129) dX6_thingTold_125 (by decide) ?_
  refine v_east F (4) ⟨by decide, by decide, by decide⟩ dX6_thingTold_129 ?_
  refine v_dup F dX6_thingTold_130 rfl ?_
  refine v_iconst F (v := 5) dX6_thingTold_131 (by decide) ?_
  refine v_aload_n F dX6_thingTold_132 rfl 2 rfl ?_
  refine v_get F (id_Q 0 (by decide)) rfl rfl uw_X6 8 (by decide) rfl rfl wf_X6_30 dX6_thingTold_133 ?_
  refine v_getN F (id_S (Or.inl rfl) (by decide)) (celD_S (Or.inl rfl)) rfl uw_X5 8 (by decide) rfl rfl wf_X6_87 dX6_thingTold_136 ?_
  refine v_iload_n F dX6_thingTold_139 rfl 3 rfl ?_
  refine v_iald F (id_S (Or.inl rfl) (by decide)) (celD_S (Or.inl rfl)) rfl (k) (Ix_nI (by omega)) dX6_thingTold_140 ?_
  refine v_topr (σ 8 k 6) hS.2.1 ?_
  refine v_east F (5) ⟨by decide, by decide, by decide⟩ dX6_thingTold_141 ?_
  refine v_dup F dX6_thingTold_142 rfl ?_
  refine v_bipush F (v := 6) dX6_thingTold_143 (by decide) ?_
  refine v_aload_n F dX6_thingTold_145 rfl 2 rfl ?_
  refine v_get F (id_Q 0 (by decide)) rfl rfl uw_X6 8 (by decide) rfl rfl wf_X6_30 dX6_thingTold_146 ?_
  refine v_getN F (id_S (Or.inl rfl) (by decide)) (celD_S (Or.inl rfl)) rfl uw_X5 9 (by decide) rfl rfl wf_X6_90 dX6_thingTold_149 ?_
  refine v_iload_n F dX6_thingTold_152 rfl 3 rfl ?_
  refine v_iald F (id_S (Or.inl rfl) (by decide)) (celD_S (Or.inl rfl)) rfl (k) (Ix_nI (by omega)) dX6_thingTold_153 ?_
  refine v_topr (σ 8 k 7) hS.2.2.1 ?_
  refine v_east F (6) ⟨by decide, by decide, by decide⟩ dX6_thingTold_154 ?_
  refine v_astore F dX6_thingTold_155 (by decide) (lv' := [(5, .ref _), (4, .int _), (3, .int _), (0, .ref _), (1, .int _), (2, .int _)]) rfl ?_
  refine v_aload F dX6_thingTold_157 0 rfl ?_
  refine v_iload_n F dX6_thingTold_159 rfl 5 rfl ?_
  refine v_eald F (w) (Ix_nI hw) dX6_thingTold_160 ?_
  refine v_iret F hr dX6_thingTold_161 ?_ rfl rfl
  have hw7 : w = 0 ∨ w = 1 ∨ w = 2 ∨ w = 3 ∨ w = 4 ∨ w = 5 ∨ w = 6 := by omega
  rcases hw7 with rfl | rfl | rfl | rfl | rfl | rfl | rfl <;> simp [upd, fTellT, hn2]
set_option maxHeartbeats 4000000 in
set_option maxRecDepth 100000 in
theorem c_X6_thingTold_h {X : Cx} {l : Launch} (G : Gx X l) {M : Mem} {lf : Lf} {σ : Sg} {jc tc b : Nat} {ln : Nat → Nat} (C : Cp σ (M 2) (M 3) jc tc b ln) {k w : Nat} (hk : k < tc) (hw : w < 7) {i h : Nat} (hn1 : σ 8 k 1 = 1) (hi : i < jc) (hh : h < 2) (w2 : σ 8 k 2 = nI i) (w3 : σ 8 k 3 = nI h) (g1 : M 3 3 0 (2 * i + h) = nI k + 1) (g2 : ∀ a, a < 2 * i + h → ¬ M 3 3 0 a = nI k + 1) : CI X l yX6_thingTold (wsc yX6_thingTold cX6_thingTold 6 (some .int)) rm_X6_thingTold [.ref (X.2.1 2 0 0), .int (nI k), .int (nI w)] (M) lf (fTellT σ k w) (M) lf 1 7 := by
  refine CI_of (lv := [(0, .ref _), (1, .int _), (2, .int _)]) G (by decide) (Nat.le_of_ble_eq_true rfl) rfl (fun p e s m args below meth c F hr => ?_)
  have F : Fx p l s m args meth c cX6_thingTold 6 RX6 X := F
  have h4 := C.1.1.1
  have h12 := C.1.1.2.1
  have hS := C.2.2.2.2.1 k hk
  refine v_aload_n F dX6_thingTold_0 rfl 0 rfl ?_
  refine v_get F (id_Q 0 (by decide)) rfl rfl uw_X6 8 (by decide) rfl rfl wf_X6_30 dX6_thingTold_1 ?_
  refine v_iload_n F dX6_thingTold_4 rfl 1 rfl ?_
  refine v_callVi F (As := [_]) (rest := []) rfl (c_X5_handOf_at G (Or.inl rfl) (show 2 * i + h < 8 by omega) g1 g2) (Rv_S (Or.inl rfl)) wm_X6_75 rfl ⟨rfl, rfl, Nat.le_of_ble_eq_true rfl, Nat.le_of_ble_eq_true rfl, Nat.le_of_ble_eq_true rfl, Nat.le_of_ble_eq_true rfl, Nat.le_of_ble_eq_true rfl⟩ dX6_thingTold_5 ?_
  refine v_istore_n F dX6_thingTold_8 rfl (by decide) (lv' := [(3, .int _), (0, .ref _), (1, .int _), (2, .int _)]) rfl ?_
  refine v_aload_n F dX6_thingTold_9 rfl 1 rfl ?_
  refine v_get F (id_Q 0 (by decide)) rfl rfl uw_X6 8 (by decide) rfl rfl wf_X6_30 dX6_thingTold_10 ?_
  refine v_getN F (id_S (Or.inl rfl) (by decide)) (celD_S (Or.inl rfl)) rfl uw_X5 4 (by decide) rfl rfl wf_X6_69 dX6_thingTold_13 ?_
  refine v_iload_n F dX6_thingTold_16 rfl 2 rfl ?_
  refine v_iald F (id_S (Or.inl rfl) (by decide)) (celD_S (Or.inl rfl)) rfl (k) (Ix_nI (by omega)) dX6_thingTold_17 ?_
  refine v_topr (σ 8 k 1) hS.1 ?_
  refine v_iconst F (v := 2) dX6_thingTold_18 (by decide) ?_
  have hn2 : ¬ σ 8 k 1 = 2 := by rw [hn1]; decide
  refine v_icmp_ne F (tgt := 26) dX6_thingTold_19 (by decide) (fun c19 => ?_) (fun h => absurd h (hn2))
  refine v_iconst F (v := 0) dX6_thingTold_26 (by decide) ?_
  refine v_istore F dX6_thingTold_27 (by decide) (lv' := [(4, .int _), (3, .int _), (0, .ref _), (1, .int _), (2, .int _)]) rfl ?_
  refine v_bipush F (v := 7) dX6_thingTold_29 (by decide) ?_
  refine v_newt F 7 war_int (by decide) (by decide) (by decide) (Nat.le_of_ble_eq_true rfl) (Nat.le_of_ble_eq_true rfl) dX6_thingTold_31 (fun tmp => ?_)
  refine v_dup F dX6_thingTold_33 rfl ?_
  refine v_iconst F (v := 0) dX6_thingTold_34 (by decide) ?_
  refine v_aload_n F dX6_thingTold_35 rfl 2 rfl ?_
  refine v_get F (id_Q 0 (by decide)) rfl rfl uw_X6 7 (by decide) rfl rfl wf_X6_22 dX6_thingTold_36 ?_
  refine v_iload_n F dX6_thingTold_39 rfl 3 rfl ?_
  refine v_iald F (id_Q 5 (by decide)) rfl rfl (k) (Ix_nI (by omega)) dX6_thingTold_40 ?_
  refine v_topr (σ 8 k 0) (C.1.2.2.2.2 k hk) ?_
  refine v_east F (0) ⟨by decide, by decide, by decide⟩ dX6_thingTold_41 ?_
  refine v_dup F dX6_thingTold_42 rfl ?_
  refine v_iconst F (v := 1) dX6_thingTold_43 (by decide) ?_
  refine v_aload_n F dX6_thingTold_44 rfl 2 rfl ?_
  refine v_get F (id_Q 0 (by decide)) rfl rfl uw_X6 8 (by decide) rfl rfl wf_X6_30 dX6_thingTold_45 ?_
  refine v_getN F (id_S (Or.inl rfl) (by decide)) (celD_S (Or.inl rfl)) rfl uw_X5 4 (by decide) rfl rfl wf_X6_69 dX6_thingTold_48 ?_
  refine v_iload_n F dX6_thingTold_51 rfl 3 rfl ?_
  refine v_iald F (id_S (Or.inl rfl) (by decide)) (celD_S (Or.inl rfl)) rfl (k) (Ix_nI (by omega)) dX6_thingTold_52 ?_
  refine v_topr (σ 8 k 1) hS.1 ?_
  refine v_east F (1) ⟨by decide, by decide, by decide⟩ dX6_thingTold_53 ?_
  refine v_dup F dX6_thingTold_54 rfl ?_
  refine v_iconst F (v := 2) dX6_thingTold_55 (by decide) ?_
  refine v_iload_n F dX6_thingTold_56 rfl 1 rfl ?_
  refine v_iconst F (v := (-1)) dX6_thingTold_57 (by decide) ?_
  refine v_icmp_eq F (tgt := 67) dX6_thingTold_58 (by decide) (fun h => absurd h ((nI_m1 (by omega)))) (fun c58 => ?_)
  refine v_iload_n F dX6_thingTold_61 rfl 1 rfl ?_
  refine v_iconst F (v := nI 2) dX6_thingTold_62 (by decide) ?_
  refine v_idiv F dX6_thingTold_63 (by decide) ?_
  refine v_topr (σ 8 k 2) (by rw [w2, pk_div (by omega) (by decide) (by decide), show (2 * i + h) / 2 = i by omega]) ?_
  refine v_goto F (tgt := 85) dX6_thingTold_64 (by decide) ?_
  refine v_east F (2) ⟨by decide, by decide, by decide⟩ dX6_thingTold_85 ?_
  refine v_dup F dX6_thingTold_86 rfl ?_
  refine v_iconst F (v := 3) dX6_thingTold_87 (by decide) ?_
  refine v_iload_n F dX6_thingTold_88 rfl 1 rfl ?_
  refine v_iconst F (v := (-1)) dX6_thingTold_89 (by decide) ?_
  refine v_icmp_eq F (tgt := 99) dX6_thingTold_90 (by decide) (fun h => absurd h ((nI_m1 (by omega)))) (fun c90 => ?_)
  refine v_iload_n F dX6_thingTold_93 rfl 1 rfl ?_
  refine v_iconst F (v := nI 2) dX6_thingTold_94 (by decide) ?_
  refine v_irem F dX6_thingTold_95 (by decide) ?_
  refine v_topr (σ 8 k 3) (by rw [w3, pk_rem (by omega) (by decide) (by decide), show (2 * i + h) % 2 = h by omega]) ?_
  refine v_goto F (tgt := 100) dX6_thingTold_96 (by decide) ?_
  refine v_east F (3) ⟨by decide, by decide, by decide⟩ dX6_thingTold_100 ?_
  refine v_dup F dX6_thingTold_101 rfl ?_
  refine v_iconst F (v := 4) dX6_thingTold_102 (by decide) ?_
  refine v_iload F dX6_thingTold_103 0 rfl ?_
  refine v_if_eq F (tgt := 128) dX6_thingTold_105 (by decide) (fun c105 => ?_) (fun h => absurd (rfl) h)
  refine v_iconst F (v := (-1)) dX6_thingTold_128 (by decide) ?_
  refine v_east F (4) ⟨by decide, by decide, by decide⟩ dX6_thingTold_129 ?_
  refine v_dup F dX6_thingTold_130 rfl ?_
  refine v_iconst F (v := 5) dX6_thingTold_131 (by decide) ?_
  refine v_aload_n F dX6_thingTold_132 rfl 2 rfl ?_
  refine v_get F (id_Q 0 (by decide)) rfl rfl uw_X6 8 (by decide) rfl rfl wf_X6_30 dX6_thingTold_133 ?_
  refine v_getN F (id_S (Or.inl rfl) (by decide)) (celD_S (Or.inl rfl)) rfl uw_X5 8 (by decide) rfl rfl wf_X6_87 dX6_thingTold_136 ?_
  refine v_iload_n F dX6_thingTold_139 rfl 3 rfl ?_
  refine v_iald F (id_S (Or.inl rfl) (by decide)) (celD_S (Or.inl rfl)) rfl (k) (Ix_nI (by omega)) dX6_thingTold_140 ?_
  refine v_topr (σ 8 k 6) hS.2.1 ?_
  refine v_east F (5) ⟨by decide, by decide, by decide⟩ dX6_thingTold_141 ?_
  refine v_dup F dX6_thingTold_142 rfl ?_
  refine v_bipush F (v := 6) dX6_thingTold_143 (by decide) ?_
  refine v_aload_n F dX6_thingTold_145 rfl 2 rfl ?_
  refine v_get F (id_Q 0 (by decide)) rfl rfl uw_X6 8 (by decide) rfl rfl wf_X6_30 dX6_thingTold_146 ?_
  refine v_getN F (id_S (Or.inl rfl) (by decide)) (celD_S (Or.inl rfl)) rfl uw_X5 9 (by decide) rfl rfl wf_X6_90 dX6_thingTold_149 ?_
  refine v_iload_n F dX6_thingTold_152 rfl 3 rfl ?_
  refine v_iald F (id_S (Or.inl rfl) (by decide)) (celD_S (Or.inl rfl)) rfl (k) (Ix_nI (by omega)) dX6_thingTold_153 ?_
  refine v_topr (σ 8 k 7) hS.2.2.1 ?_
  refine v_east F (6) ⟨by decide, by decide, by decide⟩ dX6_thingTold_154 ?_
  refine v_astore F dX6_thingTold_155 (by decide) (lv' := [(5, .ref _), (4, .int _), (3, .int _), (0, .ref _), (1, .int _), (2, .int _)]) rfl ?_
  refine v_aload F dX6_thingTold_157 0 rfl ?_
  refine v_iload_n F dX6_thingTold_159 rfl 5 rfl ?_
  refine v_eald F (w) (Ix_nI hw) dX6_thingTold_160 ?_
  refine v_iret F hr dX6_thingTold_161 ?_ rfl rfl
  have hw7 : w = 0 ∨ w = 1 ∨ w = 2 ∨ w = 3 ∨ w = 4 ∨ w = 5 ∨ w = 6 := by omega
  rcases hw7 with rfl | rfl | rfl | rfl | rfl | rfl | rfl <;> simp [upd, fTellT, hn2]
theorem c_X6_thingTold {X : Cx} {l : Launch} (G : Gx X l) {M : Mem} {lf : Lf} {σ : Sg} {jc tc b : Nat} {ln : Nat → Nat} (C : Cp σ (M 2) (M 3) jc tc b ln) {k w : Nat} (hk : k < tc) (hw : w < 7) : CI X l yX6_thingTold (wsc yX6_thingTold cX6_thingTold 6 (some .int)) rm_X6_thingTold [.ref (X.2.1 2 0 0), .int (nI k), .int (nI w)] (M) lf (fTellT σ k w) (M) lf 1 7 := by
  by_cases h1 : σ 8 k 1 = 1
  · obtain ⟨i, h, hi, hh, w2, w3, g1, g2⟩ := hand_at C hk h1
    exact c_X6_thingTold_h G C hk hw h1 hi hh w2 w3 g1 g2
  · rcases (C.2.2.2.2.1 k hk).2.2.2 with z | z | ⟨z, i, hi, w2, w3, w5, w6, w7⟩
    · refine c_X6_thingTold_n G C hk hw h1 (fun y => ?_) z.2.1 z.2.2
      rcases z.1 with u | u <;> rw [u] at y <;> exact absurd y (by decide)
    · exact absurd z.1 h1
    · exact c_X6_thingTold_a G C hk hw z h1 w3 (w5.trans w2.symm) w6
section SY
variable {p : Program} {l : Launch} {e : Env} {R : Room} {s : State} {m : MethodId} {args : Array Value} {below : List Frame} {meth : Method} {c : Code} {Q : State → Prop} {X : Cx} {nL : Nat} {ex : va_W} {M : Mem} {lf : Lf} {cells slots : Nat}
abbrev rm_X6_jugglerTold : Room := { frames := 0, cells := 1, slots := 7, locals := 0 }
set_option maxHeartbeats 4000000 in
set_option maxRecDepth 100000 in
theorem L_X6_jugglerTold (F : Fx p l s m args meth c cX6_jugglerTold 5 RX6 X) {tc j w : Nat} (h12 : tc ≤ 12) (hT : M 2 0 0 2 = nI tc) (K : V p l e R s m args below meth c Q X 5 ex (M) lf cells slots 56 [(4, .int (nI tc)), (3, .int (cI (fun k => decide (M 3 4 0 k = 2) && decide (M 3 5 0 k = nI j)) tc)), (0, .ref (X.2.1 2 0 0)), (1, .int (nI j)), (2, .int (nI w))] []) : ∀ (k q : Nat), k + q = tc → V p l e R s m args below meth c Q X 5 ex (M) lf cells slots 5 [(4, .int (nI q)), (3, .int (cI (fun k => decide (M 3 4 0 k = 2) && decide (M 3 5 0 k = nI j)) q)), (0, .ref (X.2.1 2 0 0)), (1, .int (nI j)), (2, .int (nI w))] [] := by
  intro k
  induction k with
  | zero =>
    intro q hq
    obtain rfl : q = tc := by omega
    refine v_iload F dX6_jugglerTold_5 0 rfl ?_
    refine v_aload_n F dX6_jugglerTold_7 rfl 2 rfl ?_
    refine v_get F (id_Q 0 (by decide)) rfl rfl uw_X6 2 (by decide) rfl rfl wf_X6_48 dX6_jugglerTold_8 ?_
    refine v_topr (nI q) hT ?_
    refine v_icmp_ge F (tgt := 56) dX6_jugglerTold_11 (by decide) (fun c11 => ?_) (fun h => absurd (nI_le (Nat.le_refl _) (by omega)) h)
    exact K
  | succ k ih =>
    intro q hq
    refine v_iload F dX6_jugglerTold_5 0 rfl ?_
    refine v_aload_n F dX6_jugglerTold_7 rfl 2 rfl ?_
    refine v_get F (id_Q 0 (by decide)) rfl rfl uw_X6 2 (by decide) rfl rfl wf_X6_48 dX6_jugglerTold_8 ?_
    refine v_topr (nI tc) hT ?_
    refine v_icmp_ge F (tgt := 56) dX6_jugglerTold_11 (by decide) (fun h => absurd h (nI_ge (by omega) (by omega))) (fun c11 => ?_)
    refine v_iload_n F dX6_jugglerTold_14 rfl 1 rfl ?_
    refine v_aload_n F dX6_jugglerTold_15 rfl 2 rfl ?_
    refine v_get F (id_Q 0 (by decide)) rfl rfl uw_X6 8 (by decide) rfl rfl wf_X6_30 dX6_jugglerTold_16 ?_
    refine v_getN F (id_S (Or.inl rfl) (by decide)) (celD_S (Or.inl rfl)) rfl uw_X5 4 (by decide) rfl rfl wf_X6_69 dX6_jugglerTold_19 ?_
    refine v_iload F dX6_jugglerTold_22 0 rfl ?_
    refine v_iald F (id_S (Or.inl rfl) (by decide)) (celD_S (Or.inl rfl)) rfl (q) (Ix_nI (by omega)) dX6_jugglerTold_24 ?_
    refine v_iconst F (v := 2) dX6_jugglerTold_25 (by decide) ?_
    refine v_icmp_ne F (tgt := 47) dX6_jugglerTold_26 (by decide) (fun c26 => ?_) (fun c26 => ?_)
    · have := c26
      refine v_iconst F (v := 0) dX6_jugglerTold_47 (by decide) ?_
      refine v_iadd F dX6_jugglerTold_48 ?_
      refine v_istore_n F dX6_jugglerTold_49 rfl (by decide) (lv' := [(3, .int _), (4, .int _), (0, .ref _), (1, .int _), (2, .int _)]) rfl ?_
      refine v_iinc F (k := 1) (nI (q + 1)) dX6_jugglerTold_50 rfl (iinc_nI q) (by decide) (lv' := [(4, .int _), (3, .int _), (0, .ref _), (1, .int _), (2, .int _)]) rfl ?_
      refine v_goto F (tgt := 5) dX6_jugglerTold_53 (by decide) ?_
      refine v_eq rfl ?_ rfl (ih (q + 1) (by omega))
      simp_all [cI]
    · have := c26
      refine v_aload_n F dX6_jugglerTold_29 rfl 2 rfl ?_
      refine v_get F (id_Q 0 (by decide)) rfl rfl uw_X6 8 (by decide) rfl rfl wf_X6_30 dX6_jugglerTold_30 ?_
      refine v_getN F (id_S (Or.inl rfl) (by decide)) (celD_S (Or.inl rfl)) rfl uw_X5 5 (by decide) rfl rfl wf_X6_78 dX6_jugglerTold_33 ?_
      refine v_iload F dX6_jugglerTold_36 0 rfl ?_
      refine v_iald F (id_S (Or.inl rfl) (by decide)) (celD_S (Or.inl rfl)) rfl (q) (Ix_nI (by omega)) dX6_jugglerTold_38 ?_
      refine v_iload_n F dX6_jugglerTold_39 rfl 3 rfl ?_
      refine v_icmp_ne F (tgt := 47) dX6_jugglerTold_40 (by decide) (fun c40 => ?_) (fun c40 => ?_)
      · have := c40
        refine v_iconst F (v := 0) dX6_jugglerTold_47 (by decide) ?_
        refine v_iadd F dX6_jugglerTold_48 ?_
        refine v_istore_n F dX6_jugglerTold_49 rfl (by decide) (lv' := [(3, .int _), (4, .int _), (0, .ref _), (1, .int _), (2, .int _)]) rfl ?_
        refine v_iinc F (k := 1) (nI (q + 1)) dX6_jugglerTold_50 rfl (iinc_nI q) (by decide) (lv' := [(4, .int _), (3, .int _), (0, .ref _), (1, .int _), (2, .int _)]) rfl ?_
        refine v_goto F (tgt := 5) dX6_jugglerTold_53 (by decide) ?_
        refine v_eq rfl ?_ rfl (ih (q + 1) (by omega))
        simp_all [cI]
      · have := c40
        refine v_iconst F (v := 1) dX6_jugglerTold_43 (by decide) ?_
        refine v_goto F (tgt := 48) dX6_jugglerTold_44 (by decide) ?_
        refine v_iadd F dX6_jugglerTold_48 ?_
        refine v_istore_n F dX6_jugglerTold_49 rfl (by decide) (lv' := [(3, .int _), (4, .int _), (0, .ref _), (1, .int _), (2, .int _)]) rfl ?_
        refine v_iinc F (k := 1) (nI (q + 1)) dX6_jugglerTold_50 rfl (iinc_nI q) (by decide) (lv' := [(4, .int _), (3, .int _), (0, .ref _), (1, .int _), (2, .int _)]) rfl ?_
        refine v_goto F (tgt := 5) dX6_jugglerTold_53 (by decide) ?_
        refine v_eq rfl ?_ rfl (ih (q + 1) (by omega))
        simp_all [cI]
set_option maxHeartbeats 4000000 in
set_option maxRecDepth 100000 in
theorem c_X6_jugglerTold {X : Cx} {l : Launch} (G : Gx X l) {M : Mem} {lf : Lf} {σ : Sg} {jc tc b : Nat} {ln : Nat → Nat} (C : Cp σ (M 2) (M 3) jc tc b ln) {j w : Nat} (hj : j < jc) (hw : w < 7) : CI X l yX6_jugglerTold (wsc yX6_jugglerTold cX6_jugglerTold 5 (some .int)) rm_X6_jugglerTold [.ref (X.2.1 2 0 0), .int (nI j), .int (nI w)] (M) lf (fTellJ σ tc j w) (M) lf 1 7 := by
  refine CI_of (lv := [(0, .ref _), (1, .int _), (2, .int _)]) G (by decide) (Nat.le_of_ble_eq_true rfl) rfl (fun p e s m args below meth c F hr => ?_)
  have F : Fx p l s m args meth c cX6_jugglerTold 5 RX6 X := F
  have h4 := C.1.1.1
  have h12 := C.1.1.2.1
  have hJ := C.1.2.1
  have hT := C.1.2.2.1
  refine v_iconst F (v := 0) dX6_jugglerTold_0 (by decide) ?_
  refine v_istore_n F dX6_jugglerTold_1 rfl (by decide) (lv' := [(3, .int _), (0, .ref _), (1, .int _), (2, .int _)]) rfl ?_
  refine v_iconst F (v := nI 0) dX6_jugglerTold_2 (by decide) ?_
  refine v_istore F dX6_jugglerTold_3 (by decide) (lv' := [(4, .int _), (3, .int _), (0, .ref _), (1, .int _), (2, .int _)]) rfl ?_
  refine L_X6_jugglerTold F h12 hT ?_ tc 0 (Nat.add_zero tc)
  · skip
    refine v_bipush F (v := 7) dX6_jugglerTold_56 (by decide) ?_
    refine v_newt F 7 war_int (by decide) (by decide) (by decide) (Nat.le_of_ble_eq_true rfl) (Nat.le_of_ble_eq_true rfl) dX6_jugglerTold_58 (fun tmp => ?_)
    refine v_dup F dX6_jugglerTold_60 rfl ?_
    refine v_iconst F (v := 0) dX6_jugglerTold_61 (by decide) ?_
    refine v_aload_n F dX6_jugglerTold_62 rfl 2 rfl ?_
    refine v_get F (id_Q 0 (by decide)) rfl rfl uw_X6 3 (by decide) rfl rfl wf_X6_9 dX6_jugglerTold_63 ?_
    refine v_iload_n F dX6_jugglerTold_66 rfl 3 rfl ?_
    refine v_iald F (id_Q 1 (by decide)) rfl rfl (j) (Ix_nI (by omega)) dX6_jugglerTold_67 ?_
    refine v_topr (σ 2 j 2) (C.1.2.2.2.1 j hj).1 ?_
    refine v_east F (0) ⟨by decide, by decide, by decide⟩ dX6_jugglerTold_68 ?_
    refine v_dup F dX6_jugglerTold_69 rfl ?_
    refine v_iconst F (v := 1) dX6_jugglerTold_70 (by decide) ?_
    refine v_aload_n F dX6_jugglerTold_71 rfl 2 rfl ?_
    refine v_get F (id_Q 0 (by decide)) rfl rfl uw_X6 8 (by decide) rfl rfl wf_X6_30 dX6_jugglerTold_72 ?_
    refine v_getN F (id_S (Or.inl rfl) (by decide)) (celD_S (Or.inl rfl)) rfl uw_X5 1 (by decide) rfl rfl wf_X6_97 dX6_jugglerTold_75 ?_
    refine v_iload_n F dX6_jugglerTold_78 rfl 3 rfl ?_
    refine v_iald F (id_S (Or.inl rfl) (by decide)) (celD_S (Or.inl rfl)) rfl (j) (Ix_nI (by omega)) dX6_jugglerTold_79 ?_
    refine v_topr (σ 2 j 3) (C.2.2.2.2.2.1 j hj).1 ?_
    refine v_east F (1) ⟨by decide, by decide, by decide⟩ dX6_jugglerTold_80 ?_
    refine v_dup F dX6_jugglerTold_81 rfl ?_
    refine v_iconst F (v := 2) dX6_jugglerTold_82 (by decide) ?_
    refine v_aload_n F dX6_jugglerTold_83 rfl 2 rfl ?_
    refine v_get F (id_Q 0 (by decide)) rfl rfl uw_X6 8 (by decide) rfl rfl wf_X6_30 dX6_jugglerTold_84 ?_
    refine v_getN F (id_S (Or.inl rfl) (by decide)) (celD_S (Or.inl rfl)) rfl uw_X5 3 (by decide) rfl rfl wf_X6_63 dX6_jugglerTold_87 ?_
    refine v_iconst F (v := nI 2) dX6_jugglerTold_90 (by decide) ?_
    refine v_iload_n F dX6_jugglerTold_91 rfl 3 rfl ?_
    refine v_imul F dX6_jugglerTold_92 ?_
    refine v_topr (nI (2 * j)) (pk_mul 2 j) ?_
    refine v_iald F (id_S (Or.inl rfl) (by decide)) (celD_S (Or.inl rfl)) rfl (2 * j) (Ix_nI (by omega)) dX6_jugglerTold_93 ?_
    refine v_topr (σ 6 j 0 + 1) (C.2.2.2.1 j 0 hj (by decide)).1 ?_
    refine v_iconst F (v := 1) dX6_jugglerTold_94 (by decide) ?_
    refine v_isub F dX6_jugglerTold_95 ?_
    refine v_topr (σ 6 j 0) (Int32.add_sub_cancel _ _) ?_
    refine v_east F (2) ⟨by decide, by decide, by decide⟩ dX6_jugglerTold_96 ?_
    refine v_dup F dX6_jugglerTold_97 rfl ?_
    refine v_iconst F (v := 3) dX6_jugglerTold_98 (by decide) ?_
    refine v_aload_n F dX6_jugglerTold_99 rfl 2 rfl ?_
    refine v_get F (id_Q 0 (by decide)) rfl rfl uw_X6 8 (by decide) rfl rfl wf_X6_30 dX6_jugglerTold_100 ?_
    refine v_getN F (id_S (Or.inl rfl) (by decide)) (celD_S (Or.inl rfl)) rfl uw_X5 3 (by decide) rfl rfl wf_X6_63 dX6_jugglerTold_103 ?_
    refine v_iconst F (v := nI 2) dX6_jugglerTold_106 (by decide) ?_
    refine v_iload_n F dX6_jugglerTold_107 rfl 3 rfl ?_
    refine v_imul F dX6_jugglerTold_108 ?_
    refine v_topr (nI (2 * j)) (pk_mul 2 j) ?_
    refine v_iconst F (v := nI 1) dX6_jugglerTold_109 (by decide) ?_
    refine v_iadd F dX6_jugglerTold_110 ?_
    refine v_topr (nI (2 * j + 1)) (nI_add _ _) ?_
    refine v_iald F (id_S (Or.inl rfl) (by decide)) (celD_S (Or.inl rfl)) rfl (2 * j + 1) (Ix_nI (by omega)) dX6_jugglerTold_111 ?_
    refine v_topr (σ 6 j 1 + 1) (C.2.2.2.1 j 1 hj (by decide)).1 ?_
    refine v_iconst F (v := 1) dX6_jugglerTold_112 (by decide) ?_
    refine v_isub F dX6_jugglerTold_113 ?_
    refine v_topr (σ 6 j 1) (Int32.add_sub_cancel _ _) ?_
    refine v_east F (3) ⟨by decide, by decide, by decide⟩ dX6_jugglerTold_114 ?_
    refine v_dup F dX6_jugglerTold_115 rfl ?_
    refine v_iconst F (v := 4) dX6_jugglerTold_116 (by decide) ?_
    refine v_aload_n F dX6_jugglerTold_117 rfl 2 rfl ?_
    refine v_get F (id_Q 0 (by decide)) rfl rfl uw_X6 4 (by decide) rfl rfl wf_X6_13 dX6_jugglerTold_118 ?_
    refine v_iload_n F dX6_jugglerTold_121 rfl 3 rfl ?_
    refine v_iald F (id_Q 2 (by decide)) rfl rfl (j) (Ix_nI (by omega)) dX6_jugglerTold_122 ?_
    refine v_topr (σ 3 j 2) ((C.1.2.2.2.1 j hj).2.1.trans (C.1.1.2.2.2.2 j hj).2.2.symm) ?_
    refine v_east F (4) ⟨by decide, by decide, by decide⟩ dX6_jugglerTold_123 ?_
    refine v_dup F dX6_jugglerTold_124 rfl ?_
    refine v_iconst F (v := 5) dX6_jugglerTold_125 (by decide) ?_
    refine v_iload_n F dX6_jugglerTold_126 rfl 1 rfl ?_
    refine v_east F (5) ⟨by decide, by decide, by decide⟩ dX6_jugglerTold_127 ?_
    refine v_dup F dX6_jugglerTold_128 rfl ?_
    refine v_bipush F (v := 6) dX6_jugglerTold_129 (by decide) ?_
    refine v_aload_n F dX6_jugglerTold_131 rfl 2 rfl ?_
    refine v_get F (id_Q 0 (by decide)) rfl rfl uw_X6 8 (by decide) rfl rfl wf_X6_30 dX6_jugglerTold_132 ?_
    refine v_getN F (id_S (Or.inl rfl) (by decide)) (celD_S (Or.inl rfl)) rfl uw_X5 2 (by decide) rfl rfl wf_X6_100 dX6_jugglerTold_135 ?_
    refine v_iload_n F dX6_jugglerTold_138 rfl 3 rfl ?_
    refine v_iald F (id_S (Or.inl rfl) (by decide)) (celD_S (Or.inl rfl)) rfl (j) (Ix_nI (by omega)) dX6_jugglerTold_139 ?_
    refine v_topr (σ 2 j 4) (C.2.2.2.2.2.1 j hj).2 ?_
    refine v_east F (6) ⟨by decide, by decide, by decide⟩ dX6_jugglerTold_140 ?_
    refine v_astore F dX6_jugglerTold_141 (by decide) (lv' := [(4, .ref _), (3, .int _), (0, .ref _), (1, .int _), (2, .int _)]) rfl ?_
    refine v_aload F dX6_jugglerTold_143 0 rfl ?_
    refine v_iload_n F dX6_jugglerTold_145 rfl 4 rfl ?_
    refine v_eald F (w) (Ix_nI hw) dX6_jugglerTold_146 ?_
    refine v_iret F hr dX6_jugglerTold_147 ?_ rfl rfl
    have hfl := flies_e C (j := j)
    have hw7 : w = 0 ∨ w = 1 ∨ w = 2 ∨ w = 3 ∨ w = 4 ∨ w = 5 ∨ w = 6 := by omega
    rcases hw7 with rfl | rfl | rfl | rfl | rfl | rfl | rfl <;> simp [upd, fTellJ, hfl]
abbrev rm_X6_thing : Room := { frames := 2, cells := 1, slots := 7, locals := 47 }
set_option maxHeartbeats 4000000 in
set_option maxRecDepth 100000 in
theorem c_X6_thing {X : Cx} {l : Launch} (G : Gx X l) {M : Mem} {lf : Lf} {σ : Sg} {jc tc b : Nat} {ln : Nat → Nat} (C : Cp σ (M 2) (M 3) jc tc b ln) {k w : Nat} (hk : k < tc) (hw : w < 7) : CI X l yX6_thing (wsc yX6_thing cX6_thing 3 (some .int)) rm_X6_thing [.ref (X.2.1 2 0 0), .int (nI k), .int (nI w)] (M) lf (fTellT σ k w) (uC M 2 (u3 (M 2) 0 0 0 0)) lf 1 7 := by
  refine CI_of (lv := [(0, .ref _), (1, .int _), (2, .int _)]) G (by decide) (Nat.le_of_ble_eq_true rfl) rfl (fun p e s m args below meth c F hr => ?_)
  have F : Fx p l s m args meth c cX6_thing 3 RX6 X := F
  have h4 := C.1.1.1
  have h12 := C.1.1.2.1
  have hJ := C.1.2.1
  have hT := C.1.2.2.1
  have hJQ : (uC M 2 (u3 (M 2) 0 0 0 0)) 2 0 0 1 = nI jc := by rw [uC_at, u3_ne (by decide)]; exact hJ
  have hTQ : (uC M 2 (u3 (M 2) 0 0 0 0)) 2 0 0 2 = nI tc := by rw [uC_at, u3_ne (by decide)]; exact hT
  have CQ : Cp σ ((uC M 2 (u3 (M 2) 0 0 0 0)) 2) ((uC M 2 (u3 (M 2) 0 0 0 0)) 3) jc tc b ln := Cp_q C 0
  refine v_mem (uC_self _ 2) ?_
  refine v_aload_n F dX6_thing_0 rfl 0 rfl ?_
  refine v_iconst F (v := 0) dX6_thing_1 (by decide) ?_
  refine v_putC F tyX6 tyX6_ok nmX6 (id_Q 0 (by decide)) rfl rfl uw_X6 0 (by decide) rfl rfl (by decide +kernel) rfl (Nat.le_of_ble_eq_true rfl) wf_X6_37 dX6_thing_2 ?_
  refine v_aload_n F dX6_thing_5 rfl 0 rfl ?_
  refine v_iload_n F dX6_thing_6 rfl 1 rfl ?_
  refine v_callVi F (As := [_]) (rest := []) rfl (c_X6_isThing_y G hTQ (by omega) hk) Rv_Q wm_X6_66 rfl ⟨rfl, rfl, Nat.le_of_ble_eq_true rfl, Nat.le_of_ble_eq_true rfl, Nat.le_of_ble_eq_true rfl, Nat.le_of_ble_eq_true rfl, Nat.le_of_ble_eq_true rfl⟩ dX6_thing_7 ?_
  refine v_if_eq F (tgt := 32) dX6_thing_10 (by decide) (fun h => absurd h ((by decide))) (fun c10 => ?_)
  refine v_iload_n F dX6_thing_13 rfl 2 rfl ?_
  refine v_iconst F (v := 0) dX6_thing_14 (by decide) ?_
  refine v_bipush F (v := nI 6) dX6_thing_15 (by decide) ?_
  refine v_callSi F (As := [_, _, _]) (rest := []) rfl (c_X6_isIn_y G (nI_pos (by omega)) (nI_nlt (by omega) (by decide))) wm_X6_44 rfl ⟨rfl, rfl, Nat.le_of_ble_eq_true rfl, Nat.le_of_ble_eq_true rfl, Nat.le_of_ble_eq_true rfl, Nat.le_of_ble_eq_true rfl, Nat.le_of_ble_eq_true rfl⟩ dX6_thing_17 ?_
  refine v_if_eq F (tgt := 32) dX6_thing_20 (by decide) (fun h => absurd h ((by decide))) (fun c20 => ?_)
  refine v_aload_n F dX6_thing_23 rfl 0 rfl ?_
  refine v_iload_n F dX6_thing_24 rfl 1 rfl ?_
  refine v_iload_n F dX6_thing_25 rfl 2 rfl ?_
  refine v_callVi F (As := [_, _]) (rest := []) rfl (c_X6_thingTold G CQ hk hw) Rv_Q wm_X6_93 rfl ⟨rfl, rfl, Nat.le_of_ble_eq_true rfl, Nat.le_of_ble_eq_true rfl, Nat.le_of_ble_eq_true rfl, Nat.le_of_ble_eq_true rfl, Nat.le_of_ble_eq_true rfl⟩ dX6_thing_26 ?_
  refine v_goto F (tgt := 37) dX6_thing_29 (by decide) ?_
  exact v_iret F hr dX6_thing_37 rfl rfl rfl
set_option maxHeartbeats 4000000 in
set_option maxRecDepth 100000 in
theorem c_X6_thing_k {X : Cx} {l : Launch} (G : Gx X l) {M : Mem} {lf : Lf} {σ : Sg} {jc tc b : Nat} {ln : Nat → Nat} (C : Cp σ (M 2) (M 3) jc tc b ln) {x y : Int32} (hx : x < 0 ∨ nI tc ≤ x) : CI X l yX6_thing (wsc yX6_thing cX6_thing 3 (some .int)) rm_X6_thing [.ref (X.2.1 2 0 0), .int x, .int y] (M) lf (0) (uC M 2 (u3 (u3 (M 2) 0 0 0 0) 0 0 0 1)) lf 0 0 := by
  refine CI_of (lv := [(0, .ref _), (1, .int _), (2, .int _)]) G (by decide) (Nat.le_of_ble_eq_true rfl) rfl (fun p e s m args below meth c F hr => ?_)
  have F : Fx p l s m args meth c cX6_thing 3 RX6 X := F
  have h4 := C.1.1.1
  have h12 := C.1.1.2.1
  have hJ := C.1.2.1
  have hT := C.1.2.2.1
  have hJQ : (uC M 2 (u3 (M 2) 0 0 0 0)) 2 0 0 1 = nI jc := by rw [uC_at, u3_ne (by decide)]; exact hJ
  have hTQ : (uC M 2 (u3 (M 2) 0 0 0 0)) 2 0 0 2 = nI tc := by rw [uC_at, u3_ne (by decide)]; exact hT
  refine v_mem (uC_self _ 2) ?_
  refine v_aload_n F dX6_thing_0 rfl 0 rfl ?_
  refine v_iconst F (v := 0) dX6_thing_1 (by decide) ?_
  refine v_putC F tyX6 tyX6_ok nmX6 (id_Q 0 (by decide)) rfl rfl uw_X6 0 (by decide) rfl rfl (by decide +kernel) rfl (Nat.le_of_ble_eq_true rfl) wf_X6_37 dX6_thing_2 ?_
  refine v_aload_n F dX6_thing_5 rfl 0 rfl ?_
  refine v_iload_n F dX6_thing_6 rfl 1 rfl ?_
  refine v_callVi F (As := [_]) (rest := []) rfl (c_X6_isThing_n G hTQ (by omega) hx) Rv_Q wm_X6_66 rfl ⟨rfl, rfl, Nat.le_of_ble_eq_true rfl, Nat.le_of_ble_eq_true rfl, Nat.le_of_ble_eq_true rfl, Nat.le_of_ble_eq_true rfl, Nat.le_of_ble_eq_true rfl⟩ dX6_thing_7 ?_
  refine v_if_eq F (tgt := 32) dX6_thing_10 (by decide) (fun c10 => ?_) (fun h => absurd (rfl) h)
  refine v_aload_n F dX6_thing_32 rfl 0 rfl ?_
  refine v_iconst F (v := 1) dX6_thing_33 (by decide) ?_
  refine v_callVi F (As := [_]) (rest := []) rfl (c_X6_no G 1) Rv_Q wm_X6_55 rfl ⟨rfl, rfl, Nat.le_of_ble_eq_true rfl, Nat.le_of_ble_eq_true rfl, Nat.le_of_ble_eq_true rfl, Nat.le_of_ble_eq_true rfl, Nat.le_of_ble_eq_true rfl⟩ dX6_thing_34 ?_
  exact v_iret F hr dX6_thing_37 rfl rfl rfl
set_option maxHeartbeats 4000000 in
set_option maxRecDepth 100000 in
theorem c_X6_thing_w {X : Cx} {l : Launch} (G : Gx X l) {M : Mem} {lf : Lf} {σ : Sg} {jc tc b : Nat} {ln : Nat → Nat} (C : Cp σ (M 2) (M 3) jc tc b ln) {k : Nat} (hk : k < tc) {y : Int32} (hx : y < 0 ∨ nI 7 ≤ y) : CI X l yX6_thing (wsc yX6_thing cX6_thing 3 (some .int)) rm_X6_thing [.ref (X.2.1 2 0 0), .int (nI k), .int y] (M) lf (0) (uC M 2 (u3 (u3 (M 2) 0 0 0 0) 0 0 0 1)) lf 0 0 := by
  refine CI_of (lv := [(0, .ref _), (1, .int _), (2, .int _)]) G (by decide) (Nat.le_of_ble_eq_true rfl) rfl (fun p e s m args below meth c F hr => ?_)
  have F : Fx p l s m args meth c cX6_thing 3 RX6 X := F
  have h4 := C.1.1.1
  have h12 := C.1.1.2.1
  have hJ := C.1.2.1
  have hT := C.1.2.2.1
  have hJQ : (uC M 2 (u3 (M 2) 0 0 0 0)) 2 0 0 1 = nI jc := by rw [uC_at, u3_ne (by decide)]; exact hJ
  have hTQ : (uC M 2 (u3 (M 2) 0 0 0 0)) 2 0 0 2 = nI tc := by rw [uC_at, u3_ne (by decide)]; exact hT
  refine v_mem (uC_self _ 2) ?_
  refine v_aload_n F dX6_thing_0 rfl 0 rfl ?_
  refine v_iconst F (v := 0) dX6_thing_1 (by decide) ?_
  refine v_putC F tyX6 tyX6_ok nmX6 (id_Q 0 (by decide)) rfl rfl uw_X6 0 (by decide) rfl rfl (by decide +kernel) rfl (Nat.le_of_ble_eq_true rfl) wf_X6_37 dX6_thing_2 ?_
  refine v_aload_n F dX6_thing_5 rfl 0 rfl ?_
  refine v_iload_n F dX6_thing_6 rfl 1 rfl ?_
  refine v_callVi F (As := [_]) (rest := []) rfl (c_X6_isThing_y G hTQ (by omega) hk) Rv_Q wm_X6_66 rfl ⟨rfl, rfl, Nat.le_of_ble_eq_true rfl, Nat.le_of_ble_eq_true rfl, Nat.le_of_ble_eq_true rfl, Nat.le_of_ble_eq_true rfl, Nat.le_of_ble_eq_true rfl⟩ dX6_thing_7 ?_
  refine v_if_eq F (tgt := 32) dX6_thing_10 (by decide) (fun h => absurd h ((by decide))) (fun c10 => ?_)
  refine v_iload_n F dX6_thing_13 rfl 2 rfl ?_
  refine v_iconst F (v := 0) dX6_thing_14 (by decide) ?_
  refine v_bipush F (v := (nI 7 - 1)) dX6_thing_15 (by decide) ?_
  refine v_callSi F (As := [_, _, _]) (rest := []) rfl (c_X6_isIn_n G (m1_n (by decide) hx)) wm_X6_44 rfl ⟨rfl, rfl, Nat.le_of_ble_eq_true rfl, Nat.le_of_ble_eq_true rfl, Nat.le_of_ble_eq_true rfl, Nat.le_of_ble_eq_true rfl, Nat.le_of_ble_eq_true rfl⟩ dX6_thing_17 ?_
  refine v_if_eq F (tgt := 32) dX6_thing_20 (by decide) (fun c20 => ?_) (fun h => absurd (rfl) h)
  refine v_aload_n F dX6_thing_32 rfl 0 rfl ?_
  refine v_iconst F (v := 1) dX6_thing_33 (by decide) ?_
  refine v_callVi F (As := [_]) (rest := []) rfl (c_X6_no G 1) Rv_Q wm_X6_55 rfl ⟨rfl, rfl, Nat.le_of_ble_eq_true rfl, Nat.le_of_ble_eq_true rfl, Nat.le_of_ble_eq_true rfl, Nat.le_of_ble_eq_true rfl, Nat.le_of_ble_eq_true rfl⟩ dX6_thing_34 ?_
  exact v_iret F hr dX6_thing_37 rfl rfl rfl
abbrev rm_X6_juggler : Room := { frames := 2, cells := 1, slots := 7, locals := 43 }
set_option maxHeartbeats 4000000 in
set_option maxRecDepth 100000 in
theorem c_X6_juggler {X : Cx} {l : Launch} (G : Gx X l) {M : Mem} {lf : Lf} {σ : Sg} {jc tc b : Nat} {ln : Nat → Nat} (C : Cp σ (M 2) (M 3) jc tc b ln) {j w : Nat} (hj : j < jc) (hw : w < 7) : CI X l yX6_juggler (wsc yX6_juggler cX6_juggler 3 (some .int)) rm_X6_juggler [.ref (X.2.1 2 0 0), .int (nI j), .int (nI w)] (M) lf (fTellJ σ tc j w) (uC M 2 (u3 (M 2) 0 0 0 0)) lf 1 7 := by
  refine CI_of (lv := [(0, .ref _), (1, .int _), (2, .int _)]) G (by decide) (Nat.le_of_ble_eq_true rfl) rfl (fun p e s m args below meth c F hr => ?_)
  have F : Fx p l s m args meth c cX6_juggler 3 RX6 X := F
  have h4 := C.1.1.1
  have h12 := C.1.1.2.1
  have hJ := C.1.2.1
  have hT := C.1.2.2.1
  have hJQ : (uC M 2 (u3 (M 2) 0 0 0 0)) 2 0 0 1 = nI jc := by rw [uC_at, u3_ne (by decide)]; exact hJ
  have hTQ : (uC M 2 (u3 (M 2) 0 0 0 0)) 2 0 0 2 = nI tc := by rw [uC_at, u3_ne (by decide)]; exact hT
  have CQ : Cp σ ((uC M 2 (u3 (M 2) 0 0 0 0)) 2) ((uC M 2 (u3 (M 2) 0 0 0 0)) 3) jc tc b ln := Cp_q C 0
  refine v_mem (uC_self _ 2) ?_
  refine v_aload_n F dX6_juggler_0 rfl 0 rfl ?_
  refine v_iconst F (v := 0) dX6_juggler_1 (by decide) ?_
  refine v_putC F tyX6 tyX6_ok nmX6 (id_Q 0 (by decide)) rfl rfl uw_X6 0 (by decide) rfl rfl (by decide +kernel) rfl (Nat.le_of_ble_eq_true rfl) wf_X6_37 dX6_juggler_2 ?_
  refine v_aload_n F dX6_juggler_5 rfl 0 rfl ?_
  refine v_iload_n F dX6_juggler_6 rfl 1 rfl ?_
  refine v_callVi F (As := [_]) (rest := []) rfl (c_X6_isJuggler_y G hJQ (by omega) hj) Rv_Q wm_X6_51 rfl ⟨rfl, rfl, Nat.le_of_ble_eq_true rfl, Nat.le_of_ble_eq_true rfl, Nat.le_of_ble_eq_true rfl, Nat.le_of_ble_eq_true rfl, Nat.le_of_ble_eq_true rfl⟩ dX6_juggler_7 ?_
  refine v_if_eq F (tgt := 32) dX6_juggler_10 (by decide) (fun h => absurd h ((by decide))) (fun c10 => ?_)
  refine v_iload_n F dX6_juggler_13 rfl 2 rfl ?_
  refine v_iconst F (v := 0) dX6_juggler_14 (by decide) ?_
  refine v_bipush F (v := nI 6) dX6_juggler_15 (by decide) ?_
  refine v_callSi F (As := [_, _, _]) (rest := []) rfl (c_X6_isIn_y G (nI_pos (by omega)) (nI_nlt (by omega) (by decide))) wm_X6_44 rfl ⟨rfl, rfl, Nat.le_of_ble_eq_true rfl, Nat.le_of_ble_eq_true rfl, Nat.le_of_ble_eq_true rfl, Nat.le_of_ble_eq_true rfl, Nat.le_of_ble_eq_true rfl⟩ dX6_juggler_17 ?_
  refine v_if_eq F (tgt := 32) dX6_juggler_20 (by decide) (fun h => absurd h ((by decide))) (fun c20 => ?_)
  refine v_aload_n F dX6_juggler_23 rfl 0 rfl ?_
  refine v_iload_n F dX6_juggler_24 rfl 1 rfl ?_
  refine v_iload_n F dX6_juggler_25 rfl 2 rfl ?_
  refine v_callVi F (As := [_, _]) (rest := []) rfl (c_X6_jugglerTold G CQ hj hw) Rv_Q wm_X6_103 rfl ⟨rfl, rfl, Nat.le_of_ble_eq_true rfl, Nat.le_of_ble_eq_true rfl, Nat.le_of_ble_eq_true rfl, Nat.le_of_ble_eq_true rfl, Nat.le_of_ble_eq_true rfl⟩ dX6_juggler_26 ?_
  refine v_goto F (tgt := 37) dX6_juggler_29 (by decide) ?_
  exact v_iret F hr dX6_juggler_37 rfl rfl rfl
set_option maxHeartbeats 4000000 in
set_option maxRecDepth 100000 in
theorem c_X6_juggler_j {X : Cx} {l : Launch} (G : Gx X l) {M : Mem} {lf : Lf} {σ : Sg} {jc tc b : Nat} {ln : Nat → Nat} (C : Cp σ (M 2) (M 3) jc tc b ln) {x y : Int32} (hx : x < 0 ∨ nI jc ≤ x) : CI X l yX6_juggler (wsc yX6_juggler cX6_juggler 3 (some .int)) rm_X6_juggler [.ref (X.2.1 2 0 0), .int x, .int y] (M) lf (0) (uC M 2 (u3 (u3 (M 2) 0 0 0 0) 0 0 0 1)) lf 0 0 := by
  refine CI_of (lv := [(0, .ref _), (1, .int _), (2, .int _)]) G (by decide) (Nat.le_of_ble_eq_true rfl) rfl (fun p e s m args below meth c F hr => ?_)
  have F : Fx p l s m args meth c cX6_juggler 3 RX6 X := F
  have h4 := C.1.1.1
  have h12 := C.1.1.2.1
  have hJ := C.1.2.1
  have hT := C.1.2.2.1
  have hJQ : (uC M 2 (u3 (M 2) 0 0 0 0)) 2 0 0 1 = nI jc := by rw [uC_at, u3_ne (by decide)]; exact hJ
  have hTQ : (uC M 2 (u3 (M 2) 0 0 0 0)) 2 0 0 2 = nI tc := by rw [uC_at, u3_ne (by decide)]; exact hT
  refine v_mem (uC_self _ 2) ?_
  refine v_aload_n F dX6_juggler_0 rfl 0 rfl ?_
  refine v_iconst F (v := 0) dX6_juggler_1 (by decide) ?_
  refine v_putC F tyX6 tyX6_ok nmX6 (id_Q 0 (by decide)) rfl rfl uw_X6 0 (by decide) rfl rfl (by decide +kernel) rfl (Nat.le_of_ble_eq_true rfl) wf_X6_37 dX6_juggler_2 ?_
  refine v_aload_n F dX6_juggler_5 rfl 0 rfl ?_
  refine v_iload_n F dX6_juggler_6 rfl 1 rfl ?_
  refine v_callVi F (As := [_]) (rest := []) rfl (c_X6_isJuggler_n G hJQ (by omega) hx) Rv_Q wm_X6_51 rfl ⟨rfl, rfl, Nat.le_of_ble_eq_true rfl, Nat.le_of_ble_eq_true rfl, Nat.le_of_ble_eq_true rfl, Nat.le_of_ble_eq_true rfl, Nat.le_of_ble_eq_true rfl⟩ dX6_juggler_7 ?_
  refine v_if_eq F (tgt := 32) dX6_juggler_10 (by decide) (fun c10 => ?_) (fun h => absurd (rfl) h)
  refine v_aload_n F dX6_juggler_32 rfl 0 rfl ?_
  refine v_iconst F (v := 1) dX6_juggler_33 (by decide) ?_
  refine v_callVi F (As := [_]) (rest := []) rfl (c_X6_no G 1) Rv_Q wm_X6_55 rfl ⟨rfl, rfl, Nat.le_of_ble_eq_true rfl, Nat.le_of_ble_eq_true rfl, Nat.le_of_ble_eq_true rfl, Nat.le_of_ble_eq_true rfl, Nat.le_of_ble_eq_true rfl⟩ dX6_juggler_34 ?_
  exact v_iret F hr dX6_juggler_37 rfl rfl rfl
set_option maxHeartbeats 4000000 in
set_option maxRecDepth 100000 in
theorem c_X6_juggler_w {X : Cx} {l : Launch} (G : Gx X l) {M : Mem} {lf : Lf} {σ : Sg} {jc tc b : Nat} {ln : Nat → Nat} (C : Cp σ (M 2) (M 3) jc tc b ln) {j : Nat} (hj : j < jc) {y : Int32} (hx : y < 0 ∨ nI 7 ≤ y) : CI X l yX6_juggler (wsc yX6_juggler cX6_juggler 3 (some .int)) rm_X6_juggler [.ref (X.2.1 2 0 0), .int (nI j), .int y] (M) lf (0) (uC M 2 (u3 (u3 (M 2) 0 0 0 0) 0 0 0 1)) lf 0 0 := by
  refine CI_of (lv := [(0, .ref _), (1, .int _), (2, .int _)]) G (by decide) (Nat.le_of_ble_eq_true rfl) rfl (fun p e s m args below meth c F hr => ?_)
  have F : Fx p l s m args meth c cX6_juggler 3 RX6 X := F
  have h4 := C.1.1.1
  have h12 := C.1.1.2.1
  have hJ := C.1.2.1
  have hT := C.1.2.2.1
  have hJQ : (uC M 2 (u3 (M 2) 0 0 0 0)) 2 0 0 1 = nI jc := by rw [uC_at, u3_ne (by decide)]; exact hJ
  have hTQ : (uC M 2 (u3 (M 2) 0 0 0 0)) 2 0 0 2 = nI tc := by rw [uC_at, u3_ne (by decide)]; exact hT
  refine v_mem (uC_self _ 2) ?_
  refine v_aload_n F dX6_juggler_0 rfl 0 rfl ?_
  refine v_iconst F (v := 0) dX6_juggler_1 (by decide) ?_
  refine v_putC F tyX6 tyX6_ok nmX6 (id_Q 0 (by decide)) rfl rfl uw_X6 0 (by decide) rfl rfl (by decide +kernel) rfl (Nat.le_of_ble_eq_true rfl) wf_X6_37 dX6_juggler_2 ?_
  refine v_aload_n F dX6_juggler_5 rfl 0 rfl ?_
  refine v_iload_n F dX6_juggler_6 rfl 1 rfl ?_
  refine v_callVi F (As := [_]) (rest := []) rfl (c_X6_isJuggler_y G hJQ (by omega) hj) Rv_Q wm_X6_51 rfl ⟨rfl, rfl, Nat.le_of_ble_eq_true rfl, Nat.le_of_ble_eq_true rfl, Nat.le_of_ble_eq_true rfl, Nat.le_of_ble_eq_true rfl, Nat.le_of_ble_eq_true rfl⟩ dX6_juggler_7 ?_
  refine v_if_eq F (tgt := 32) dX6_juggler_10 (by decide) (fun h => absurd h ((by decide))) (fun c10 => ?_)
  refine v_iload_n F dX6_juggler_13 rfl 2 rfl ?_
  refine v_iconst F (v := 0) dX6_juggler_14 (by decide) ?_
  refine v_bipush F (v := (nI 7 - 1)) dX6_juggler_15 (by decide) ?_
  refine v_callSi F (As := [_, _, _]) (rest := []) rfl (c_X6_isIn_n G (m1_n (by decide) hx)) wm_X6_44 rfl ⟨rfl, rfl, Nat.le_of_ble_eq_true rfl, Nat.le_of_ble_eq_true rfl, Nat.le_of_ble_eq_true rfl, Nat.le_of_ble_eq_true rfl, Nat.le_of_ble_eq_true rfl⟩ dX6_juggler_17 ?_
  refine v_if_eq F (tgt := 32) dX6_juggler_20 (by decide) (fun c20 => ?_) (fun h => absurd (rfl) h)
  refine v_aload_n F dX6_juggler_32 rfl 0 rfl ?_
  refine v_iconst F (v := 1) dX6_juggler_33 (by decide) ?_
  refine v_callVi F (As := [_]) (rest := []) rfl (c_X6_no G 1) Rv_Q wm_X6_55 rfl ⟨rfl, rfl, Nat.le_of_ble_eq_true rfl, Nat.le_of_ble_eq_true rfl, Nat.le_of_ble_eq_true rfl, Nat.le_of_ble_eq_true rfl, Nat.le_of_ble_eq_true rfl⟩ dX6_juggler_34 ?_
  exact v_iret F hr dX6_juggler_37 rfl rfl rfl
abbrev rm_X6_lasts : Room := { frames := 2, cells := 0, slots := 0, locals := 43 }
set_option maxHeartbeats 4000000 in
set_option maxRecDepth 100000 in
theorem L_X6_lasts (F : Fx p l s m args meth c cX6_lasts 4 RX6 X) {j n : Nat} (hj : j < 4) (h1 : 1 ≤ n) (h8 : n ≤ 8) (hl : M 2 2 0 j = nI n) {σ : Sg} (hh : ∀ z, z < n → M 2 3 0 (8 * j + z) = σ 4 j z ∧ ∃ h, h ≤ 9 ∧ σ 4 j z = nI h) (K : V p l e R s m args below meth c Q X 4 ex (M) lf cells slots 72 [(3, .int (nI n)), (2, .int (nI (orF (lnd σ j n) n))), (0, .ref (X.2.1 2 0 0)), (1, .int (nI j))] []) : ∀ (k q : Nat), k + q = n → V p l e R s m args below meth c Q X 4 ex (M) lf cells slots 31 [(3, .int (nI q)), (2, .int (nI (orF (lnd σ j n) q))), (0, .ref (X.2.1 2 0 0)), (1, .int (nI j))] [] := by
  intro k
  induction k with
  | zero =>
    intro q hq
    obtain rfl : q = n := by omega
    refine v_iload_n F dX6_lasts_31 rfl 0 rfl ?_
    refine v_aload_n F dX6_lasts_32 rfl 2 rfl ?_
    refine v_get F (id_Q 0 (by decide)) rfl rfl uw_X6 4 (by decide) rfl rfl wf_X6_13 dX6_lasts_33 ?_
    refine v_iload_n F dX6_lasts_36 rfl 3 rfl ?_
    refine v_iald F (id_Q 2 (by decide)) rfl rfl (j) (Ix_nI (by omega)) dX6_lasts_37 ?_
    refine v_topr (nI q) hl ?_
    refine v_icmp_ge F (tgt := 72) dX6_lasts_38 (by decide) (fun c38 => ?_) (fun h => absurd (nI_le (Nat.le_refl _) (by omega)) h)
    exact K
  | succ k ih =>
    intro q hq
    obtain ⟨v, v9, ev⟩ := (hh q (by omega)).2
    have el : lnd σ j n q = (q + v) % n := by unfold lnd; rw [ev, nI_clamp (show v < 2 ^ 31 by omega)]
    have hlt : lnd σ j n q < 9 := by
      have : lnd σ j n q < n := Nat.mod_lt _ h1
      omega
    refine v_iload_n F dX6_lasts_31 rfl 0 rfl ?_
    refine v_aload_n F dX6_lasts_32 rfl 2 rfl ?_
    refine v_get F (id_Q 0 (by decide)) rfl rfl uw_X6 4 (by decide) rfl rfl wf_X6_13 dX6_lasts_33 ?_
    refine v_iload_n F dX6_lasts_36 rfl 3 rfl ?_
    refine v_iald F (id_Q 2 (by decide)) rfl rfl (j) (Ix_nI (by omega)) dX6_lasts_37 ?_
    refine v_topr (nI n) hl ?_
    refine v_icmp_ge F (tgt := 72) dX6_lasts_38 (by decide) (fun h => absurd h (nI_ge (by omega) (by omega))) (fun c38 => ?_)
    refine v_iload_n F dX6_lasts_41 rfl 1 rfl ?_
    refine v_iconst F (v := 1) dX6_lasts_42 (by decide) ?_
    refine v_iload_n F dX6_lasts_43 rfl 0 rfl ?_
    refine v_aload_n F dX6_lasts_44 rfl 2 rfl ?_
    refine v_get F (id_Q 0 (by decide)) rfl rfl uw_X6 5 (by decide) rfl rfl wf_X6_16 dX6_lasts_45 ?_
    refine v_bipush F (v := nI 8) dX6_lasts_48 (by decide) ?_
    refine v_iload_n F dX6_lasts_50 rfl 3 rfl ?_
    refine v_imul F dX6_lasts_51 ?_
    refine v_iload_n F dX6_lasts_52 rfl 0 rfl ?_
    refine v_iadd F dX6_lasts_53 ?_
    refine v_topr (nI (8 * j + q)) (by rw [pk_mul, nI_add]) ?_
    refine v_iald F (id_Q 3 (by decide)) rfl rfl (8 * j + q) (Ix_nI (by omega)) dX6_lasts_54 ?_
    refine v_topr (σ 4 j q) (hh q (by omega)).1 ?_
    refine v_iadd F dX6_lasts_55 ?_
    refine v_aload_n F dX6_lasts_56 rfl 2 rfl ?_
    refine v_get F (id_Q 0 (by decide)) rfl rfl uw_X6 4 (by decide) rfl rfl wf_X6_13 dX6_lasts_57 ?_
    refine v_iload_n F dX6_lasts_60 rfl 3 rfl ?_
    refine v_iald F (id_Q 2 (by decide)) rfl rfl (j) (Ix_nI (by omega)) dX6_lasts_61 ?_
    refine v_topr (nI n) hl ?_
    refine v_irem F dX6_lasts_62 (nI_ne0 (by omega) (by omega)) ?_
    refine v_topr (nI (lnd σ j n q)) (by rw [el, ev, nI_add]; exact pk_rem (by omega) (by omega) (by omega)) ?_
    refine v_ishl F dX6_lasts_63 ?_
    refine v_topr (nI (2 ^ lnd σ j n q)) (shl_1 ⟨lnd σ j n q, hlt⟩) ?_
    refine v_ior F dX6_lasts_64 ?_
    refine v_topr (nI (orF (lnd σ j n) (q + 1))) (nI_or _ _) ?_
    refine v_istore_n F dX6_lasts_65 rfl (by decide) (lv' := [(2, .int _), (3, .int _), (0, .ref _), (1, .int _)]) rfl ?_
    refine v_iinc F (k := 1) (nI (q + 1)) dX6_lasts_66 rfl (iinc_nI q) (by decide) (lv' := [(3, .int _), (2, .int _), (0, .ref _), (1, .int _)]) rfl ?_
    refine v_goto F (tgt := 31) dX6_lasts_69 (by decide) ?_
    exact v_locs [0, 1, 2, 3] rfl (ih (q + 1) (by omega))
set_option maxHeartbeats 4000000 in
set_option maxRecDepth 100000 in
theorem c_X6_lasts {X : Cx} {l : Launch} (G : Gx X l) {M : Mem} {lf : Lf} {σ : Sg} {jc tc b : Nat} {ln : Nat → Nat} (C : Cp σ (M 2) (M 3) jc tc b ln) {j : Nat} (hj : j < jc) : CI X l yX6_lasts (wsc yX6_lasts cX6_lasts 4 (some .boolean)) rm_X6_lasts [.ref (X.2.1 2 0 0), .int (nI j)] (M) lf (fLands σ j (ln j)) (uC M 2 (u3 (M 2) 0 0 0 0)) lf 0 0 := by
  refine CI_of (lv := [(0, .ref _), (1, .int _)]) G (by decide) (Nat.le_of_ble_eq_true rfl) rfl (fun p e s m args below meth c F hr => ?_)
  have F : Fx p l s m args meth c cX6_lasts 4 RX6 X := F
  have h4 := C.1.1.1
  have h12 := C.1.1.2.1
  have hJ := C.1.2.1
  have hT := C.1.2.2.1
  have hJQ : (uC M 2 (u3 (M 2) 0 0 0 0)) 2 0 0 1 = nI jc := by rw [uC_at, u3_ne (by decide)]; exact hJ
  have hTQ : (uC M 2 (u3 (M 2) 0 0 0 0)) 2 0 0 2 = nI tc := by rw [uC_at, u3_ne (by decide)]; exact hT
  have hlQ : (uC M 2 (u3 (M 2) 0 0 0 0)) 2 2 0 j = nI (ln j) := by rw [uC_at, u3_ne (by omega)]; exact (C.1.2.2.2.1 j hj).2.1
  have h8 := (C.1.1.2.2.2.2 j hj).2.1
  have h1 := (C.1.1.2.2.2.2 j hj).1
  have hhp : ∀ z, z < ln j → (uC M 2 (u3 (M 2) 0 0 0 0)) 2 3 0 (8 * j + z) = σ 4 j z ∧ ∃ h, h ≤ 9 ∧ σ 4 j z = nI h := fun z hz => by
    obtain ⟨vh, vt, v9, vtj, e1, e2, e3, e4⟩ := (C.1.2.2.2.1 j hj).2.2 z hz
    exact ⟨by rw [uC_at, u3_ne (by omega), e2, e1], vh, v9, e1⟩
  refine v_mem (uC_self _ 2) ?_
  refine v_aload_n F dX6_lasts_0 rfl 0 rfl ?_
  refine v_iconst F (v := 0) dX6_lasts_1 (by decide) ?_
  refine v_putC F tyX6 tyX6_ok nmX6 (id_Q 0 (by decide)) rfl rfl uw_X6 0 (by decide) rfl rfl (by decide +kernel) rfl (Nat.le_of_ble_eq_true rfl) wf_X6_37 dX6_lasts_2 ?_
  refine v_aload_n F dX6_lasts_5 rfl 0 rfl ?_
  refine v_iload_n F dX6_lasts_6 rfl 1 rfl ?_
  refine v_callVi F (As := [_]) (rest := []) rfl (c_X6_isJuggler_y G (hJQ) (by omega) hj) Rv_Q wm_X6_51 rfl ⟨rfl, rfl, Nat.le_of_ble_eq_true rfl, Nat.le_of_ble_eq_true rfl, Nat.le_of_ble_eq_true rfl, Nat.le_of_ble_eq_true rfl, Nat.le_of_ble_eq_true rfl⟩ dX6_lasts_7 ?_
  refine v_if_ne F (tgt := 27) dX6_lasts_10 (by decide) (fun c10 => ?_) (fun h => absurd h ((by decide)))
  refine v_iconst F (v := nI 0) dX6_lasts_27 (by decide) ?_
  refine v_topr (nI (orF (lnd σ j (ln j)) 0)) rfl ?_
  refine v_istore_n F dX6_lasts_28 rfl (by decide) (lv' := [(2, .int _), (0, .ref _), (1, .int _)]) rfl ?_
  refine v_iconst F (v := nI 0) dX6_lasts_29 (by decide) ?_
  refine v_istore_n F dX6_lasts_30 rfl (by decide) (lv' := [(3, .int _), (2, .int _), (0, .ref _), (1, .int _)]) rfl ?_
  refine L_X6_lasts F (show j < 4 by omega) h1 h8 hlQ hhp ?_ (ln j) 0 (Nat.add_zero _)
  · skip
    have ho := orF_lt (f := lnd σ j (ln j)) (n := ln j) (fun z _ => Nat.mod_lt _ h1) (ln j) (Nat.le_refl _)
    have h2 : 2 ^ ln j ≤ 2 ^ 8 := Nat.pow_le_pow_right (by decide) h8
    refine v_iload_n F dX6_lasts_72 rfl 1 rfl ?_
    refine v_iconst F (v := 1) dX6_lasts_73 (by decide) ?_
    refine v_aload_n F dX6_lasts_74 rfl 2 rfl ?_
    refine v_get F (id_Q 0 (by decide)) heQ rfl uw_X6 4 (by decide) rfl rfl wf_X6_13 dX6_lasts_75 ?_
    refine v_iload_n F dX6_lasts_78 rfl 3 rfl ?_
    refine v_iald F (id_Q 2 (by decide)) heQ rfl (j) (Ix_nI (by omega)) dX6_lasts_79 ?_
    refine v_topr (nI (ln j)) hlQ ?_
    refine v_ishl F dX6_lasts_80 ?_
    refine v_topr (nI (2 ^ ln j)) (shl_1 ⟨ln j, by omega⟩) ?_
    refine v_iconst F (v := nI 1) dX6_lasts_81 (by decide) ?_
    refine v_isub F dX6_lasts_82 ?_
    refine v_topr (nI (2 ^ ln j - 1)) (pk_sub (Nat.two_pow_pos _)) ?_
    refine v_icmp_ne F (tgt := 90) dX6_lasts_83 (by decide) (fun c83 => ?_) (fun c83 => ?_)
    · have := c83
      have hv : (0 : Int32) = fLands σ j (ln j) := by rw [lasts_e h1 h8 (fun z hz => (hhp z hz).2), if_neg (fun y => c83 (by rw [y]))]
      refine v_iconst F (v := 0) dX6_lasts_90 (by decide) ?_
      exact v_zret F hr dX6_lasts_91 (by decide) hv rfl rfl
    · have := c83
      have hv : (1 : Int32) = fLands σ j (ln j) := by rw [lasts_e h1 h8 (fun z hz => (hhp z hz).2), if_pos (nI_inj (by omega) (by omega) c83)]
      refine v_iconst F (v := 1) dX6_lasts_86 (by decide) ?_
      refine v_goto F (tgt := 91) dX6_lasts_87 (by decide) ?_
      exact v_zret F hr dX6_lasts_91 (by decide) hv rfl rfl
set_option maxHeartbeats 4000000 in
set_option maxRecDepth 100000 in
theorem c_X6_lasts_j {X : Cx} {l : Launch} (G : Gx X l) {M : Mem} {lf : Lf} {σ : Sg} {jc tc b : Nat} {ln : Nat → Nat} (C : Cp σ (M 2) (M 3) jc tc b ln) {x : Int32} (hx : x < 0 ∨ nI jc ≤ x) : CI X l yX6_lasts (wsc yX6_lasts cX6_lasts 4 (some .boolean)) rm_X6_lasts [.ref (X.2.1 2 0 0), .int x] (M) lf (0) (uC M 2 (u3 (u3 (M 2) 0 0 0 0) 0 0 0 1)) lf 0 0 := by
  refine CI_of (lv := [(0, .ref _), (1, .int _)]) G (by decide) (Nat.le_of_ble_eq_true rfl) rfl (fun p e s m args below meth c F hr => ?_)
  have F : Fx p l s m args meth c cX6_lasts 4 RX6 X := F
  have h4 := C.1.1.1
  have h12 := C.1.1.2.1
  have hJ := C.1.2.1
  have hT := C.1.2.2.1
  have hJQ : (uC M 2 (u3 (M 2) 0 0 0 0)) 2 0 0 1 = nI jc := by rw [uC_at, u3_ne (by decide)]; exact hJ
  have hTQ : (uC M 2 (u3 (M 2) 0 0 0 0)) 2 0 0 2 = nI tc := by rw [uC_at, u3_ne (by decide)]; exact hT
  refine v_mem (uC_self _ 2) ?_
  refine v_aload_n F dX6_lasts_0 rfl 0 rfl ?_
  refine v_iconst F (v := 0) dX6_lasts_1 (by decide) ?_
  refine v_putC F tyX6 tyX6_ok nmX6 (id_Q 0 (by decide)) rfl rfl uw_X6 0 (by decide) rfl rfl (by decide +kernel) rfl (Nat.le_of_ble_eq_true rfl) wf_X6_37 dX6_lasts_2 ?_
  refine v_aload_n F dX6_lasts_5 rfl 0 rfl ?_
  refine v_iload_n F dX6_lasts_6 rfl 1 rfl ?_
  refine v_callVi F (As := [_]) (rest := []) rfl (c_X6_isJuggler_n G (hJQ) (by omega) hx) Rv_Q wm_X6_51 rfl ⟨rfl, rfl, Nat.le_of_ble_eq_true rfl, Nat.le_of_ble_eq_true rfl, Nat.le_of_ble_eq_true rfl, Nat.le_of_ble_eq_true rfl, Nat.le_of_ble_eq_true rfl⟩ dX6_lasts_7 ?_
  refine v_if_ne F (tgt := 27) dX6_lasts_10 (by decide) (fun h => absurd (rfl) h) (fun c10 => ?_)
  refine v_aload_n F dX6_lasts_13 rfl 0 rfl ?_
  refine v_iconst F (v := 1) dX6_lasts_14 (by decide) ?_
  refine v_callVi F (As := [_]) (rest := []) rfl (c_X6_no G 1) Rv_Q wm_X6_55 rfl ⟨rfl, rfl, Nat.le_of_ble_eq_true rfl, Nat.le_of_ble_eq_true rfl, Nat.le_of_ble_eq_true rfl, Nat.le_of_ble_eq_true rfl, Nat.le_of_ble_eq_true rfl⟩ dX6_lasts_15 ?_
  refine v_if_eq F (tgt := 25) dX6_lasts_18 (by decide) (fun c18 => ?_) (fun h => absurd (rfl) h)
  refine v_iconst F (v := 0) dX6_lasts_25 (by decide) ?_
  exact v_zret F hr dX6_lasts_26 (by decide) rfl rfl rfl
abbrev rm_X6_asks : Room := { frames := 2, cells := 0, slots := 0, locals := 43 }
set_option maxHeartbeats 4000000 in
set_option maxRecDepth 100000 in
theorem L_X6_asks (F : Fx p l s m args meth c cX6_asks 4 RX6 X) {j n : Nat} (hj : j < 4) (h1 : 1 ≤ n) (h8 : n ≤ 8) (hl : M 2 2 0 j = nI n) {σ : Sg} (hh : ∀ z, z < n → M 2 3 0 (8 * j + z) = σ 4 j z ∧ ∃ h, h ≤ 9 ∧ σ 4 j z = nI h) (K : V p l e R s m args below meth c Q X 4 ex (M) lf cells slots 53 [(3, .int (nI n)), (2, .int (sI (σ 4 j) n)), (0, .ref (X.2.1 2 0 0)), (1, .int (nI j))] []) : ∀ (k q : Nat), k + q = n → V p l e R s m args below meth c Q X 4 ex (M) lf cells slots 23 [(3, .int (nI q)), (2, .int (sI (σ 4 j) q)), (0, .ref (X.2.1 2 0 0)), (1, .int (nI j))] [] := by
  intro k
  induction k with
  | zero =>
    intro q hq
    obtain rfl : q = n := by omega
    refine v_iload_n F dX6_asks_23 rfl 0 rfl ?_
    refine v_aload_n F dX6_asks_24 rfl 2 rfl ?_
    refine v_get F (id_Q 0 (by decide)) rfl rfl uw_X6 4 (by decide) rfl rfl wf_X6_13 dX6_asks_25 ?_
    refine v_iload_n F dX6_asks_28 rfl 3 rfl ?_
    refine v_iald F (id_Q 2 (by decide)) rfl rfl (j) (Ix_nI (by omega)) dX6_asks_29 ?_
    refine v_topr (nI q) hl ?_
    refine v_icmp_ge F (tgt := 53) dX6_asks_30 (by decide) (fun c30 => ?_) (fun h => absurd (nI_le (Nat.le_refl _) (by omega)) h)
    exact K
  | succ k ih =>
    intro q hq
    refine v_iload_n F dX6_asks_23 rfl 0 rfl ?_
    refine v_aload_n F dX6_asks_24 rfl 2 rfl ?_
    refine v_get F (id_Q 0 (by decide)) rfl rfl uw_X6 4 (by decide) rfl rfl wf_X6_13 dX6_asks_25 ?_
    refine v_iload_n F dX6_asks_28 rfl 3 rfl ?_
    refine v_iald F (id_Q 2 (by decide)) rfl rfl (j) (Ix_nI (by omega)) dX6_asks_29 ?_
    refine v_topr (nI n) hl ?_
    refine v_icmp_ge F (tgt := 53) dX6_asks_30 (by decide) (fun h => absurd h (nI_ge (by omega) (by omega))) (fun c30 => ?_)
    refine v_iload_n F dX6_asks_33 rfl 1 rfl ?_
    refine v_aload_n F dX6_asks_34 rfl 2 rfl ?_
    refine v_get F (id_Q 0 (by decide)) rfl rfl uw_X6 5 (by decide) rfl rfl wf_X6_16 dX6_asks_35 ?_
    refine v_bipush F (v := nI 8) dX6_asks_38 (by decide) ?_
    refine v_iload_n F dX6_asks_40 rfl 3 rfl ?_
    refine v_imul F dX6_asks_41 ?_
    refine v_iload_n F dX6_asks_42 rfl 0 rfl ?_
    refine v_iadd F dX6_asks_43 ?_
    refine v_topr (nI (8 * j + q)) (by rw [pk_mul, nI_add]) ?_
    refine v_iald F (id_Q 3 (by decide)) rfl rfl (8 * j + q) (Ix_nI (by omega)) dX6_asks_44 ?_
    refine v_topr (σ 4 j q) (hh q (by omega)).1 ?_
    refine v_iadd F dX6_asks_45 ?_
    refine v_istore_n F dX6_asks_46 rfl (by decide) (lv' := [(2, .int _), (3, .int _), (0, .ref _), (1, .int _)]) rfl ?_
    refine v_iinc F (k := 1) (nI (q + 1)) dX6_asks_47 rfl (iinc_nI q) (by decide) (lv' := [(3, .int _), (2, .int _), (0, .ref _), (1, .int _)]) rfl ?_
    refine v_goto F (tgt := 23) dX6_asks_50 (by decide) ?_
    exact v_locs [0, 1, 2, 3] rfl (ih (q + 1) (by omega))
set_option maxHeartbeats 4000000 in
set_option maxRecDepth 100000 in
theorem c_X6_asks {X : Cx} {l : Launch} (G : Gx X l) {M : Mem} {lf : Lf} {σ : Sg} {jc tc b : Nat} {ln : Nat → Nat} (C : Cp σ (M 2) (M 3) jc tc b ln) {j : Nat} (hj : j < jc) : CI X l yX6_asks (wsc yX6_asks cX6_asks 4 (some .int)) rm_X6_asks [.ref (X.2.1 2 0 0), .int (nI j)] (M) lf (fAsks σ j (ln j)) (uC M 2 (u3 (M 2) 0 0 0 0)) lf 0 0 := by
  refine CI_of (lv := [(0, .ref _), (1, .int _)]) G (by decide) (Nat.le_of_ble_eq_true rfl) rfl (fun p e s m args below meth c F hr => ?_)
  have F : Fx p l s m args meth c cX6_asks 4 RX6 X := F
  have h4 := C.1.1.1
  have h12 := C.1.1.2.1
  have hJ := C.1.2.1
  have hT := C.1.2.2.1
  have hJQ : (uC M 2 (u3 (M 2) 0 0 0 0)) 2 0 0 1 = nI jc := by rw [uC_at, u3_ne (by decide)]; exact hJ
  have hTQ : (uC M 2 (u3 (M 2) 0 0 0 0)) 2 0 0 2 = nI tc := by rw [uC_at, u3_ne (by decide)]; exact hT
  have hlQ : (uC M 2 (u3 (M 2) 0 0 0 0)) 2 2 0 j = nI (ln j) := by rw [uC_at, u3_ne (by omega)]; exact (C.1.2.2.2.1 j hj).2.1
  have h8 := (C.1.1.2.2.2.2 j hj).2.1
  have h1 := (C.1.1.2.2.2.2 j hj).1
  have hhp : ∀ z, z < ln j → (uC M 2 (u3 (M 2) 0 0 0 0)) 2 3 0 (8 * j + z) = σ 4 j z ∧ ∃ h, h ≤ 9 ∧ σ 4 j z = nI h := fun z hz => by
    obtain ⟨vh, vt, v9, vtj, e1, e2, e3, e4⟩ := (C.1.2.2.2.1 j hj).2.2 z hz
    exact ⟨by rw [uC_at, u3_ne (by omega), e2, e1], vh, v9, e1⟩
  refine v_mem (uC_self _ 2) ?_
  refine v_aload_n F dX6_asks_0 rfl 0 rfl ?_
  refine v_iconst F (v := 0) dX6_asks_1 (by decide) ?_
  refine v_putC F tyX6 tyX6_ok nmX6 (id_Q 0 (by decide)) rfl rfl uw_X6 0 (by decide) rfl rfl (by decide +kernel) rfl (Nat.le_of_ble_eq_true rfl) wf_X6_37 dX6_asks_2 ?_
  refine v_aload_n F dX6_asks_5 rfl 0 rfl ?_
  refine v_iload_n F dX6_asks_6 rfl 1 rfl ?_
  refine v_callVi F (As := [_]) (rest := []) rfl (c_X6_isJuggler_y G (hJQ) (by omega) hj) Rv_Q wm_X6_51 rfl ⟨rfl, rfl, Nat.le_of_ble_eq_true rfl, Nat.le_of_ble_eq_true rfl, Nat.le_of_ble_eq_true rfl, Nat.le_of_ble_eq_true rfl, Nat.le_of_ble_eq_true rfl⟩ dX6_asks_7 ?_
  refine v_if_ne F (tgt := 19) dX6_asks_10 (by decide) (fun c10 => ?_) (fun h => absurd h ((by decide)))
  refine v_iconst F (v := 0) dX6_asks_19 (by decide) ?_
  refine v_istore_n F dX6_asks_20 rfl (by decide) (lv' := [(2, .int _), (0, .ref _), (1, .int _)]) rfl ?_
  refine v_iconst F (v := nI 0) dX6_asks_21 (by decide) ?_
  refine v_istore_n F dX6_asks_22 rfl (by decide) (lv' := [(3, .int _), (2, .int _), (0, .ref _), (1, .int _)]) rfl ?_
  refine L_X6_asks F (show j < 4 by omega) h1 h8 hlQ hhp ?_ (ln j) 0 (Nat.add_zero _)
  · skip
    refine v_iload_n F dX6_asks_53 rfl 1 rfl ?_
    refine v_aload_n F dX6_asks_54 rfl 2 rfl ?_
    refine v_get F (id_Q 0 (by decide)) heQ rfl uw_X6 4 (by decide) rfl rfl wf_X6_13 dX6_asks_55 ?_
    refine v_iload_n F dX6_asks_58 rfl 3 rfl ?_
    refine v_iald F (id_Q 2 (by decide)) heQ rfl (j) (Ix_nI (by omega)) dX6_asks_59 ?_
    refine v_topr (nI (ln j)) hlQ ?_
    refine v_irem F dX6_asks_60 (nI_ne0 (by omega) (by omega)) ?_
    refine v_if_ne F (tgt := 75) dX6_asks_61 (by decide) (fun c61 => ?_) (fun c61 => ?_)
    · have := c61
      refine v_iconst F (v := (-1)) dX6_asks_75 (by decide) ?_
      refine v_iret F hr dX6_asks_76 ?_ rfl rfl
      first | (rw [fAsks, if_pos c61]; done) | (rw [fAsks, if_neg c61]; done)
    · have := c61
      refine v_iload_n F dX6_asks_64 rfl 1 rfl ?_
      refine v_aload_n F dX6_asks_65 rfl 2 rfl ?_
      refine v_get F (id_Q 0 (by decide)) heQ rfl uw_X6 4 (by decide) rfl rfl wf_X6_13 dX6_asks_66 ?_
      refine v_iload_n F dX6_asks_69 rfl 3 rfl ?_
      refine v_iald F (id_Q 2 (by decide)) heQ rfl (j) (Ix_nI (by omega)) dX6_asks_70 ?_
      refine v_topr (nI (ln j)) hlQ ?_
      refine v_idiv F dX6_asks_71 (nI_ne0 (by omega) (by omega)) ?_
      refine v_goto F (tgt := 76) dX6_asks_72 (by decide) ?_
      refine v_iret F hr dX6_asks_76 ?_ rfl rfl
      first | (rw [fAsks, if_pos c61]; done) | (rw [fAsks, if_neg c61]; done)
set_option maxHeartbeats 4000000 in
set_option maxRecDepth 100000 in
theorem c_X6_asks_j {X : Cx} {l : Launch} (G : Gx X l) {M : Mem} {lf : Lf} {σ : Sg} {jc tc b : Nat} {ln : Nat → Nat} (C : Cp σ (M 2) (M 3) jc tc b ln) {x : Int32} (hx : x < 0 ∨ nI jc ≤ x) : CI X l yX6_asks (wsc yX6_asks cX6_asks 4 (some .int)) rm_X6_asks [.ref (X.2.1 2 0 0), .int x] (M) lf (0) (uC M 2 (u3 (u3 (M 2) 0 0 0 0) 0 0 0 1)) lf 0 0 := by
  refine CI_of (lv := [(0, .ref _), (1, .int _)]) G (by decide) (Nat.le_of_ble_eq_true rfl) rfl (fun p e s m args below meth c F hr => ?_)
  have F : Fx p l s m args meth c cX6_asks 4 RX6 X := F
  have h4 := C.1.1.1
  have h12 := C.1.1.2.1
  have hJ := C.1.2.1
  have hT := C.1.2.2.1
  have hJQ : (uC M 2 (u3 (M 2) 0 0 0 0)) 2 0 0 1 = nI jc := by rw [uC_at, u3_ne (by decide)]; exact hJ
  have hTQ : (uC M 2 (u3 (M 2) 0 0 0 0)) 2 0 0 2 = nI tc := by rw [uC_at, u3_ne (by decide)]; exact hT
  refine v_mem (uC_self _ 2) ?_
  refine v_aload_n F dX6_asks_0 rfl 0 rfl ?_
  refine v_iconst F (v := 0) dX6_asks_1 (by decide) ?_
  refine v_putC F tyX6 tyX6_ok nmX6 (id_Q 0 (by decide)) rfl rfl uw_X6 0 (by decide) rfl rfl (by decide +kernel) rfl (Nat.le_of_ble_eq_true rfl) wf_X6_37 dX6_asks_2 ?_
  refine v_aload_n F dX6_asks_5 rfl 0 rfl ?_
  refine v_iload_n F dX6_asks_6 rfl 1 rfl ?_
  refine v_callVi F (As := [_]) (rest := []) rfl (c_X6_isJuggler_n G (hJQ) (by omega) hx) Rv_Q wm_X6_51 rfl ⟨rfl, rfl, Nat.le_of_ble_eq_true rfl, Nat.le_of_ble_eq_true rfl, Nat.le_of_ble_eq_true rfl, Nat.le_of_ble_eq_true rfl, Nat.le_of_ble_eq_true rfl⟩ dX6_asks_7 ?_
  refine v_if_ne F (tgt := 19) dX6_asks_10 (by decide) (fun h => absurd (rfl) h) (fun c10 => ?_)
  refine v_aload_n F dX6_asks_13 rfl 0 rfl ?_
  refine v_iconst F (v := 1) dX6_asks_14 (by decide) ?_
  refine v_callVi F (As := [_]) (rest := []) rfl (c_X6_no G 1) Rv_Q wm_X6_55 rfl ⟨rfl, rfl, Nat.le_of_ble_eq_true rfl, Nat.le_of_ble_eq_true rfl, Nat.le_of_ble_eq_true rfl, Nat.le_of_ble_eq_true rfl, Nat.le_of_ble_eq_true rfl⟩ dX6_asks_15 ?_
  exact v_iret F hr dX6_asks_18 rfl rfl rfl
abbrev rm_X6_isWritten : Room := { frames := 0, cells := 0, slots := 0, locals := 0 }
set_option maxHeartbeats 4000000 in
set_option maxRecDepth 100000 in
theorem L_X6_isWritten (F : Fx p l s m args meth c cX6_isWritten 5 RX6 X) {j n d : Nat} (hj : j < 4) (h1 : 1 ≤ d) (hd : d ≤ n) (h8 : n ≤ 8) (hl : M 2 2 0 j = nI n) {σ : Sg} (hh : ∀ z, z < n → M 2 3 0 (8 * j + z) = σ 4 j z) (hr5 : ∀ z, z < n → M 2 4 0 (8 * j + z) = σ 5 j z) (K1 : wqL σ j d (n - d) d = 1 → ∀ lv0, V p l e R s m args below meth c Q X 5 ex (M) lf cells slots 86 lv0 []) (K0 : wqL σ j d (n - d) d = 0 → ∀ lv0, V p l e R s m args below meth c Q X 5 ex (M) lf cells slots 78 lv0 []) : ∀ (k q : Nat), k + q = n → d ≤ q → wqL σ j d (n - d) d = wqL σ j d k q → V p l e R s m args below meth c Q X 5 ex (M) lf cells slots 21 [(4, .int (nI q)), (3, .int (nI (8 * j))), (0, .ref (X.2.1 2 0 0)), (1, .int (nI j)), (2, .int (nI d))] [] := by
  intro k
  induction k with
  | zero =>
    intro q hq hdq e1
    obtain rfl : q = n := by omega
    refine v_iload F dX6_isWritten_21 0 rfl ?_
    refine v_aload_n F dX6_isWritten_23 rfl 2 rfl ?_
    refine v_get F (id_Q 0 (by decide)) rfl rfl uw_X6 4 (by decide) rfl rfl wf_X6_13 dX6_isWritten_24 ?_
    refine v_iload_n F dX6_isWritten_27 rfl 3 rfl ?_
    refine v_iald F (id_Q 2 (by decide)) rfl rfl (j) (Ix_nI (by omega)) dX6_isWritten_28 ?_
    refine v_topr (nI q) hl ?_
    refine v_icmp_ge F (tgt := 86) dX6_isWritten_29 (by decide) (fun c29 => ?_) (fun h => absurd (nI_le (Nat.le_refl _) (by omega)) h)
    exact K1 e1 _
  | succ k ih =>
    intro q hq hdq e1
    have hmd : q % d < d := Nat.mod_lt q h1
    refine v_iload F dX6_isWritten_21 0 rfl ?_
    refine v_aload_n F dX6_isWritten_23 rfl 2 rfl ?_
    refine v_get F (id_Q 0 (by decide)) rfl rfl uw_X6 4 (by decide) rfl rfl wf_X6_13 dX6_isWritten_24 ?_
    refine v_iload_n F dX6_isWritten_27 rfl 3 rfl ?_
    refine v_iald F (id_Q 2 (by decide)) rfl rfl (j) (Ix_nI (by omega)) dX6_isWritten_28 ?_
    refine v_topr (nI n) hl ?_
    refine v_icmp_ge F (tgt := 86) dX6_isWritten_29 (by decide) (fun h => absurd h (nI_ge (by omega) (by omega))) (fun c29 => ?_)
    refine v_aload_n F dX6_isWritten_32 rfl 2 rfl ?_
    refine v_get F (id_Q 0 (by decide)) rfl rfl uw_X6 5 (by decide) rfl rfl wf_X6_16 dX6_isWritten_33 ?_
    refine v_iload_n F dX6_isWritten_36 rfl 1 rfl ?_
    refine v_iload F dX6_isWritten_37 0 rfl ?_
    refine v_iadd F dX6_isWritten_39 ?_
    refine v_topr (nI (8 * j + q)) (nI_add _ _) ?_
    refine v_iald F (id_Q 3 (by decide)) rfl rfl (8 * j + q) (Ix_nI (by omega)) dX6_isWritten_40 ?_
    refine v_topr (σ 4 j q) (hh q (by omega)) ?_
    refine v_aload_n F dX6_isWritten_41 rfl 2 rfl ?_
    refine v_get F (id_Q 0 (by decide)) rfl rfl uw_X6 5 (by decide) rfl rfl wf_X6_16 dX6_isWritten_42 ?_
    refine v_iload_n F dX6_isWritten_45 rfl 1 rfl ?_
    refine v_iload F dX6_isWritten_46 0 rfl ?_
    refine v_iload_n F dX6_isWritten_48 rfl 4 rfl ?_
    refine v_irem F dX6_isWritten_49 (nI_ne0 (by omega) (by omega)) ?_
    refine v_topr (nI (q % d)) (pk_rem (by omega) (by omega) (by omega)) ?_
    refine v_iadd F dX6_isWritten_50 ?_
    refine v_topr (nI (8 * j + q % d)) (nI_add _ _) ?_
    refine v_iald F (id_Q 3 (by decide)) rfl rfl (8 * j + q % d) (Ix_nI (by omega)) dX6_isWritten_51 ?_
    refine v_topr (σ 4 j (q % d)) (hh _ (by omega)) ?_
    refine v_icmp_ne F (tgt := 78) dX6_isWritten_52 (by decide) (fun c52 => ?_) (fun c52 => ?_)
    · have := c52
      refine K0 ?_ _
      rw [e1, wqL]
      first | (rw [if_neg (fun z => c52 z.1)]; done) | (rw [if_neg (fun z => c75 z.2)]; done)
    · have := c52
      refine v_aload_n F dX6_isWritten_55 rfl 2 rfl ?_
      refine v_get F (id_Q 0 (by decide)) rfl rfl uw_X6 6 (by decide) rfl rfl wf_X6_19 dX6_isWritten_56 ?_
      refine v_iload_n F dX6_isWritten_59 rfl 1 rfl ?_
      refine v_iload F dX6_isWritten_60 0 rfl ?_
      refine v_iadd F dX6_isWritten_62 ?_
      refine v_topr (nI (8 * j + q)) (nI_add _ _) ?_
      refine v_iald F (id_Q 4 (by decide)) rfl rfl (8 * j + q) (Ix_nI (by omega)) dX6_isWritten_63 ?_
      refine v_topr (σ 5 j q) (hr5 q (by omega)) ?_
      refine v_aload_n F dX6_isWritten_64 rfl 2 rfl ?_
      refine v_get F (id_Q 0 (by decide)) rfl rfl uw_X6 6 (by decide) rfl rfl wf_X6_19 dX6_isWritten_65 ?_
      refine v_iload_n F dX6_isWritten_68 rfl 1 rfl ?_
      refine v_iload F dX6_isWritten_69 0 rfl ?_
      refine v_iload_n F dX6_isWritten_71 rfl 4 rfl ?_
      refine v_irem F dX6_isWritten_72 (nI_ne0 (by omega) (by omega)) ?_
      refine v_topr (nI (q % d)) (pk_rem (by omega) (by omega) (by omega)) ?_
      refine v_iadd F dX6_isWritten_73 ?_
      refine v_topr (nI (8 * j + q % d)) (nI_add _ _) ?_
      refine v_iald F (id_Q 4 (by decide)) rfl rfl (8 * j + q % d) (Ix_nI (by omega)) dX6_isWritten_74 ?_
      refine v_topr (σ 5 j (q % d)) (hr5 _ (by omega)) ?_
      refine v_icmp_eq F (tgt := 80) dX6_isWritten_75 (by decide) (fun c75 => ?_) (fun c75 => ?_)
      · have := c75
        refine v_iinc F (k := 0) (nI (q + 1)) dX6_isWritten_80 rfl (iinc_nI q) (by decide) (lv' := [(4, .int _), (3, .int _), (0, .ref _), (1, .int _), (2, .int _)]) rfl ?_
        refine v_goto F (tgt := 21) dX6_isWritten_83 (by decide) ?_
        refine v_locs [0, 1, 2, 3, 4] rfl (ih (q + 1) (by omega) (by omega) ?_)
        rw [e1, wqL, if_pos ⟨c52, c75⟩]
      · have := c75
        refine K0 ?_ _
        rw [e1, wqL]
        first | (rw [if_neg (fun z => c52 z.1)]; done) | (rw [if_neg (fun z => c75 z.2)]; done)
set_option maxHeartbeats 4000000 in
set_option maxRecDepth 100000 in
theorem c_X6_isWritten {X : Cx} {l : Launch} (G : Gx X l) {M : Mem} {lf : Lf} {j n d : Nat} (hj : j < 4) (h1 : 1 ≤ d) (hd : d ≤ n) (h8 : n ≤ 8) (hl : M 2 2 0 j = nI n) {σ : Sg} (hh : ∀ z, z < n → M 2 3 0 (8 * j + z) = σ 4 j z) (hr5 : ∀ z, z < n → M 2 4 0 (8 * j + z) = σ 5 j z)  : CI X l yX6_isWritten (wsc yX6_isWritten cX6_isWritten 5 (some .boolean)) rm_X6_isWritten [.ref (X.2.1 2 0 0), .int (nI j), .int (nI d)] (M) lf ((if n % d = 0 ∧ fRep σ j n d = 1 then 1 else 0)) (M) lf 0 0 := by
  refine CI_of (lv := [(0, .ref _), (1, .int _), (2, .int _)]) G (by decide) (Nat.le_of_ble_eq_true rfl) rfl (fun p e s m args below meth c F hr => ?_)
  have F : Fx p l s m args meth c cX6_isWritten 5 RX6 X := F
  have hmd : n % d < d := Nat.mod_lt n h1
  refine v_aload_n F dX6_isWritten_0 rfl 0 rfl ?_
  refine v_get F (id_Q 0 (by decide)) rfl rfl uw_X6 4 (by decide) rfl rfl wf_X6_13 dX6_isWritten_1 ?_
  refine v_iload_n F dX6_isWritten_4 rfl 1 rfl ?_
  refine v_iald F (id_Q 2 (by decide)) rfl rfl (j) (Ix_nI (by omega)) dX6_isWritten_5 ?_
  refine v_topr (nI n) hl ?_
  refine v_iload_n F dX6_isWritten_6 rfl 2 rfl ?_
  refine v_irem F dX6_isWritten_7 (nI_ne0 (by omega) (by omega)) ?_
  refine v_topr (nI (n % d)) (pk_rem (by omega) (by omega) (by omega)) ?_
  refine v_if_le F (tgt := 13) dX6_isWritten_8 (by decide) (fun c8 => ?_) (fun c8 => ?_)
  · have := c8
    have hz : n % d = 0 := Nat.eq_zero_of_not_pos (fun z => nI_nle z (by omega) c8)
    refine v_bipush F (v := nI 8) dX6_isWritten_13 (by decide) ?_
    refine v_iload_n F dX6_isWritten_15 rfl 1 rfl ?_
    refine v_imul F dX6_isWritten_16 ?_
    refine v_topr (nI (8 * j)) (pk_mul 8 j) ?_
    refine v_istore_n F dX6_isWritten_17 rfl (by decide) (lv' := [(3, .int _), (0, .ref _), (1, .int _), (2, .int _)]) rfl ?_
    refine v_iload_n F dX6_isWritten_18 rfl 3 rfl ?_
    refine v_istore F dX6_isWritten_19 (by decide) (lv' := [(4, .int _), (3, .int _), (0, .ref _), (1, .int _), (2, .int _)]) rfl ?_
    refine L_X6_isWritten F hj h1 hd h8 hl hh hr5 (fun e2 lv0 => ?_) (fun e2 lv0 => ?_) (n - d) d (by omega) (Nat.le_refl d) rfl
    · refine v_iconst F (v := 1) dX6_isWritten_86 (by decide) ?_
      exact v_zret F hr dX6_isWritten_87 (by decide) (by rw [if_pos ⟨hz, (wqL_r h1).symm.trans e2⟩]) rfl rfl
    · refine v_iconst F (v := 0) dX6_isWritten_78 (by decide) ?_
      exact v_zret F hr dX6_isWritten_79 (by decide) (by rw [if_neg (fun y => absurd (e2.symm.trans ((wqL_r h1).trans y.2)) (by decide))]) rfl rfl
  · have := c8
    have hz : ¬ n % d = 0 := fun z => c8 (by rw [z]; decide)
    refine v_iconst F (v := 0) dX6_isWritten_11 (by decide) ?_
    exact v_zret F hr dX6_isWritten_12 (by decide) (by rw [if_neg (fun y => hz y.1)]) rfl rfl
abbrev rm_X6_shortest : Room := { frames := 2, cells := 0, slots := 0, locals := 43 }
set_option maxHeartbeats 4000000 in
set_option maxRecDepth 100000 in
theorem L_X6_shortest (F : Fx p l s m args meth c cX6_shortest 3 RX6 X) (G : Gx X l) {j n : Nat} (hj : j < 4) (h1 : 1 ≤ n) (h8 : n ≤ 8) (hl : M 2 2 0 j = nI n) {σ : Sg} (hh : ∀ z, z < n → M 2 3 0 (8 * j + z) = σ 4 j z) (hr5 : ∀ z, z < n → M 2 4 0 (8 * j + z) = σ 5 j z) (K : V p l e rm_X6_shortest s m args below meth c Q X 3 ex (M) lf 0 0 36 [(2, .int (nI (fShort σ j n))), (0, .ref (X.2.1 2 0 0)), (1, .int (nI j))] []) : ∀ (k a : Nat), k + a = n → 1 ≤ a → fShort σ j n = shL σ j n k a → V p l e rm_X6_shortest s m args below meth c Q X 3 ex (M) lf 0 0 21 [(2, .int (nI a)), (0, .ref (X.2.1 2 0 0)), (1, .int (nI j))] [] := by
  intro k
  induction k with
  | zero =>
    intro a ha h1a e1
    obtain rfl : a = n := by omega
    have hy : (if a % a = 0 ∧ fRep σ j a a = 1 then (1 : Int32) else 0) = 1 := if_pos ⟨Nat.mod_self a, fRep_n⟩
    refine v_aload_n F dX6_shortest_21 rfl 1 rfl ?_
    refine v_iload_n F dX6_shortest_22 rfl 2 rfl ?_
    refine v_iload_n F dX6_shortest_23 rfl 0 rfl ?_
    refine v_callVi F (As := [_, _]) (rest := []) rfl (c_X6_isWritten G hj (show 1 ≤ a by omega) (Nat.le_refl a) h8 hl hh hr5) Rv_Q wm_X6_106 rfl ⟨rfl, rfl, Nat.le_of_ble_eq_true rfl, Nat.le_of_ble_eq_true rfl, Nat.le_of_ble_eq_true rfl, Nat.le_of_ble_eq_true rfl, Nat.le_of_ble_eq_true rfl⟩ dX6_shortest_24 ?_
    refine v_topr (1) hy ?_
    refine v_if_ne F (tgt := 36) dX6_shortest_27 (by decide) (fun c27 => ?_) (fun h => absurd h ((by decide)))
    rw [show a = fShort σ j a from e1.symm]
    exact K
  | succ k ih =>
    intro a ha h1a e1
    refine v_aload_n F dX6_shortest_21 rfl 1 rfl ?_
    refine v_iload_n F dX6_shortest_22 rfl 2 rfl ?_
    refine v_iload_n F dX6_shortest_23 rfl 0 rfl ?_
    refine v_callVi F (As := [_, _]) (rest := []) rfl (c_X6_isWritten G hj (show 1 ≤ a by omega) (show a ≤ n by omega) h8 hl hh hr5) Rv_Q wm_X6_106 rfl ⟨rfl, rfl, Nat.le_of_ble_eq_true rfl, Nat.le_of_ble_eq_true rfl, Nat.le_of_ble_eq_true rfl, Nat.le_of_ble_eq_true rfl, Nat.le_of_ble_eq_true rfl⟩ dX6_shortest_24 ?_
    refine v_if_ne F (tgt := 36) dX6_shortest_27 (by decide) (fun c27 => ?_) (fun c27 => ?_)
    · have := c27
      have hy : n % a = 0 ∧ fRep σ j n a = 1 := by
        refine Classical.byContradiction (fun y => c27 (if_neg y))
      rw [shL, if_pos hy] at e1
      rw [← e1]
      exact K
    · have := c27
      refine v_iinc F (k := 0) (nI (a + 1)) dX6_shortest_30 rfl (iinc_nI a) (by decide) (lv' := [(2, .int _), (0, .ref _), (1, .int _)]) rfl ?_
      refine v_goto F (tgt := 21) dX6_shortest_33 (by decide) ?_
      have hy : ¬ (n % a = 0 ∧ fRep σ j n a = 1) := fun y => by rw [if_pos y] at c27; exact absurd c27 (by decide)
      rw [shL, if_neg hy] at e1
      exact ih (a + 1) (by omega) (by omega) e1
set_option maxHeartbeats 4000000 in
set_option maxRecDepth 100000 in
theorem c_X6_shortest {X : Cx} {l : Launch} (G : Gx X l) {M : Mem} {lf : Lf} {σ : Sg} {jc tc b : Nat} {ln : Nat → Nat} (C : Cp σ (M 2) (M 3) jc tc b ln) {j : Nat} (hj : j < jc) : CI X l yX6_shortest (wsc yX6_shortest cX6_shortest 3 (some .int)) rm_X6_shortest [.ref (X.2.1 2 0 0), .int (nI j)] (M) lf (nI (fShort σ j (ln j))) (uC M 2 (u3 (M 2) 0 0 0 0)) lf 0 0 := by
  refine CI_of (lv := [(0, .ref _), (1, .int _)]) G (by decide) (Nat.le_of_ble_eq_true rfl) rfl (fun p e s m args below meth c F hr => ?_)
  have F : Fx p l s m args meth c cX6_shortest 3 RX6 X := F
  have h4 := C.1.1.1
  have h12 := C.1.1.2.1
  have hJ := C.1.2.1
  have hT := C.1.2.2.1
  have hJQ : (uC M 2 (u3 (M 2) 0 0 0 0)) 2 0 0 1 = nI jc := by rw [uC_at, u3_ne (by decide)]; exact hJ
  have hTQ : (uC M 2 (u3 (M 2) 0 0 0 0)) 2 0 0 2 = nI tc := by rw [uC_at, u3_ne (by decide)]; exact hT
  have hlQ : (uC M 2 (u3 (M 2) 0 0 0 0)) 2 2 0 j = nI (ln j) := by rw [uC_at, u3_ne (by omega)]; exact (C.1.2.2.2.1 j hj).2.1
  have h8 := (C.1.1.2.2.2.2 j hj).2.1
  have h1 := (C.1.1.2.2.2.2 j hj).1
  have hhp : ∀ z, z < ln j → (uC M 2 (u3 (M 2) 0 0 0 0)) 2 3 0 (8 * j + z) = σ 4 j z ∧ ∃ h, h ≤ 9 ∧ σ 4 j z = nI h := fun z hz => by
    obtain ⟨vh, vt, v9, vtj, e1, e2, e3, e4⟩ := (C.1.2.2.2.1 j hj).2.2 z hz
    exact ⟨by rw [uC_at, u3_ne (by omega), e2, e1], vh, v9, e1⟩
  have hh4 : ∀ z, z < ln j → (uC M 2 (u3 (M 2) 0 0 0 0)) 2 3 0 (8 * j + z) = σ 4 j z := fun z hz => (hhp z hz).1
  have hh5 : ∀ z, z < ln j → (uC M 2 (u3 (M 2) 0 0 0 0)) 2 4 0 (8 * j + z) = σ 5 j z := fun z hz => by
    obtain ⟨vh, vt, v9, vtj, e1, e2, e3, e4⟩ := (C.1.2.2.2.1 j hj).2.2 z hz
    rw [uC_at, u3_ne (by omega), e4, e3]
  refine v_mem (uC_self _ 2) ?_
  refine v_aload_n F dX6_shortest_0 rfl 0 rfl ?_
  refine v_iconst F (v := 0) dX6_shortest_1 (by decide) ?_
  refine v_putC F tyX6 tyX6_ok nmX6 (id_Q 0 (by decide)) rfl rfl uw_X6 0 (by decide) rfl rfl (by decide +kernel) rfl (Nat.le_of_ble_eq_true rfl) wf_X6_37 dX6_shortest_2 ?_
  refine v_aload_n F dX6_shortest_5 rfl 0 rfl ?_
  refine v_iload_n F dX6_shortest_6 rfl 1 rfl ?_
  refine v_callVi F (As := [_]) (rest := []) rfl (c_X6_isJuggler_y G (hJQ) (by omega) hj) Rv_Q wm_X6_51 rfl ⟨rfl, rfl, Nat.le_of_ble_eq_true rfl, Nat.le_of_ble_eq_true rfl, Nat.le_of_ble_eq_true rfl, Nat.le_of_ble_eq_true rfl, Nat.le_of_ble_eq_true rfl⟩ dX6_shortest_7 ?_
  refine v_if_ne F (tgt := 19) dX6_shortest_10 (by decide) (fun c10 => ?_) (fun h => absurd h ((by decide)))
  refine v_iconst F (v := nI 1) dX6_shortest_19 (by decide) ?_
  refine v_istore_n F dX6_shortest_20 rfl (by decide) (lv' := [(2, .int _), (0, .ref _), (1, .int _)]) rfl ?_
  refine L_X6_shortest F G (show j < 4 by omega) h1 h8 hlQ hh4 hh5 ?_ (ln j - 1) 1 (by omega) (Nat.le_refl 1) rfl
  · skip
    refine v_iload_n F dX6_shortest_36 rfl 0 rfl ?_
    exact v_iret F hr dX6_shortest_37 rfl rfl rfl
set_option maxHeartbeats 4000000 in
set_option maxRecDepth 100000 in
theorem c_X6_shortest_j {X : Cx} {l : Launch} (G : Gx X l) {M : Mem} {lf : Lf} {σ : Sg} {jc tc b : Nat} {ln : Nat → Nat} (C : Cp σ (M 2) (M 3) jc tc b ln) {x : Int32} (hx : x < 0 ∨ nI jc ≤ x) : CI X l yX6_shortest (wsc yX6_shortest cX6_shortest 3 (some .int)) rm_X6_shortest [.ref (X.2.1 2 0 0), .int x] (M) lf (0) (uC M 2 (u3 (u3 (M 2) 0 0 0 0) 0 0 0 1)) lf 0 0 := by
  refine CI_of (lv := [(0, .ref _), (1, .int _)]) G (by decide) (Nat.le_of_ble_eq_true rfl) rfl (fun p e s m args below meth c F hr => ?_)
  have F : Fx p l s m args meth c cX6_shortest 3 RX6 X := F
  have h4 := C.1.1.1
  have h12 := C.1.1.2.1
  have hJ := C.1.2.1
  have hT := C.1.2.2.1
  have hJQ : (uC M 2 (u3 (M 2) 0 0 0 0)) 2 0 0 1 = nI jc := by rw [uC_at, u3_ne (by decide)]; exact hJ
  have hTQ : (uC M 2 (u3 (M 2) 0 0 0 0)) 2 0 0 2 = nI tc := by rw [uC_at, u3_ne (by decide)]; exact hT
  refine v_mem (uC_self _ 2) ?_
  refine v_aload_n F dX6_shortest_0 rfl 0 rfl ?_
  refine v_iconst F (v := 0) dX6_shortest_1 (by decide) ?_
  refine v_putC F tyX6 tyX6_ok nmX6 (id_Q 0 (by decide)) rfl rfl uw_X6 0 (by decide) rfl rfl (by decide +kernel) rfl (Nat.le_of_ble_eq_true rfl) wf_X6_37 dX6_shortest_2 ?_
  refine v_aload_n F dX6_shortest_5 rfl 0 rfl ?_
  refine v_iload_n F dX6_shortest_6 rfl 1 rfl ?_
  refine v_callVi F (As := [_]) (rest := []) rfl (c_X6_isJuggler_n G (hJQ) (by omega) hx) Rv_Q wm_X6_51 rfl ⟨rfl, rfl, Nat.le_of_ble_eq_true rfl, Nat.le_of_ble_eq_true rfl, Nat.le_of_ble_eq_true rfl, Nat.le_of_ble_eq_true rfl, Nat.le_of_ble_eq_true rfl⟩ dX6_shortest_7 ?_
  refine v_if_ne F (tgt := 19) dX6_shortest_10 (by decide) (fun h => absurd (rfl) h) (fun c10 => ?_)
  refine v_aload_n F dX6_shortest_13 rfl 0 rfl ?_
  refine v_iconst F (v := 1) dX6_shortest_14 (by decide) ?_
  refine v_callVi F (As := [_]) (rest := []) rfl (c_X6_no G 1) Rv_Q wm_X6_55 rfl ⟨rfl, rfl, Nat.le_of_ble_eq_true rfl, Nat.le_of_ble_eq_true rfl, Nat.le_of_ble_eq_true rfl, Nat.le_of_ble_eq_true rfl, Nat.le_of_ble_eq_true rfl⟩ dX6_shortest_15 ?_
  exact v_iret F hr dX6_shortest_18 rfl rfl rfl
end SY
