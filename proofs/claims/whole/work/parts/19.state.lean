/-! ===== the reference: a state ===== -/
theorem wcp1 : Cond.methodLink RX5 43 arraycopyName ∈ wAll := wAll_in (i := 842) (by decide +kernel) (by decide +kernel)
theorem wcp2 : Cond.native arraycopyName ∈ wAll := wAll_in (i := 844) (by decide +kernel) (by decide +kernel)
theorem wcp3 : Cond.static arraycopyName ∈ wAll := wAll_in (i := 843) (by decide +kernel) (by decide +kernel)
theorem war_int : Cond.arrayClass .int ∈ wAll := wAll_in (i := 112) (by decide +kernel) (by decide +kernel)
theorem wm_X5_72 : Wt RX5 72 yX6_beatsOf cX6_beatsOf 2 (some .int) 2 := ⟨by decide +kernel, ⟨_, wml_X5_72⟩, wst_X6_beatsOf, wini_X6, wc_X6_beatsOf⟩
theorem Dy_air {σ τ : Sg} {jc tc b k : Nat} (D : Dy σ τ jc tc b) (hk : k < tc) (h : τ 4 0 k = 2) : ∃ i, i < jc ∧ τ 5 0 k = nI i := by
  obtain ⟨h1, -, -, h2⟩ := D.2.2.2.1 k hk
  rw [h1] at h
  rcases h2 with z | z | ⟨-, i, hi, -, -, w5, -⟩
  · rcases z.1 with y | y <;> rw [y] at h <;> exact absurd h (by decide)
  · rw [z.1] at h; exact absurd h (by decide)
  · exact ⟨i, hi, w5⟩
theorem Dy_hold {σ τ : Sg} {jc tc b j h : Nat} (D : Dy σ τ jc tc b) (h12 : tc ≤ 12) (hj : j < jc) (hh : h < 2) : τ 3 0 (2 * j + h) = 0 ∨ ∃ k, k < 12 ∧ τ 3 0 (2 * j + h) = nI (k + 1) := by
  obtain ⟨h1, h2⟩ := D.2.2.1 j h hj hh
  rcases h2 with z | ⟨k, k1, k2, -⟩
  · exact Or.inl (by rw [h1, z]; decide)
  · exact Or.inr ⟨k, by omega, by rw [h1, k2, nI_1]⟩
abbrev rm_X6_beatsOf : Room := { frames := 0, cells := 0, slots := 0, locals := 0 }
set_option maxHeartbeats 4000000 in
set_option maxRecDepth 100000 in
theorem c_X6_beatsOf {X : Cx} {l : Launch} (G : Gx X l) {M : Mem} {lf : Lf} (kd h : Int32) : CI X l yX6_beatsOf (wsc yX6_beatsOf cX6_beatsOf 2 (some .int)) rm_X6_beatsOf [.int kd, .int h] (M) lf (fAir kd h) (M) lf 0 0 := by
  refine CI_of (lv := [(0, .int _), (1, .int _)]) G (by decide) (Nat.le_of_ble_eq_true rfl) rfl (fun p e s m args below meth c F hr => ?_)
  have F : Fx p l s m args meth c cX6_beatsOf 2 RX6 X := F
  refine v_iload_n F dX6_beatsOf_0 rfl 0 rfl ?_
  refine v_iconst F (v := 1) dX6_beatsOf_1 (by decide) ?_
  refine v_icmp_ne F (tgt := 14) dX6_beatsOf_2 (by decide) (fun c2 => ?_) (fun c2 => ?_)
  · have := c2
    refine v_iload_n F dX6_beatsOf_14 rfl 0 rfl ?_
    refine v_iconst F (v := 2) dX6_beatsOf_15 (by decide) ?_
    refine v_icmp_ne F (tgt := 30) dX6_beatsOf_16 (by decide) (fun c16 => ?_) (fun c16 => ?_)
    · have := c16
      refine v_iload_n F dX6_beatsOf_30 rfl 1 rfl ?_
      refine v_iret F hr dX6_beatsOf_31 ?_ rfl rfl
      simp_all [fAir]
    · have := c16
      refine v_iload_n F dX6_beatsOf_19 rfl 1 rfl ?_
      refine v_iconst F (v := 5) dX6_beatsOf_20 (by decide) ?_
      refine v_icmp_lt F (tgt := 30) dX6_beatsOf_21 (by decide) (fun c21 => ?_) (fun c21 => ?_)
      · have := c21
        refine v_iload_n F dX6_beatsOf_30 rfl 1 rfl ?_
        refine v_iret F hr dX6_beatsOf_31 ?_ rfl rfl
        simp_all [fAir]
      · have := c21
        refine v_iload_n F dX6_beatsOf_24 rfl 1 rfl ?_
        refine v_iconst F (v := 1) dX6_beatsOf_25 (by decide) ?_
        refine v_iadd F dX6_beatsOf_26 ?_
        refine v_goto F (tgt := 31) dX6_beatsOf_27 (by decide) ?_
        refine v_iret F hr dX6_beatsOf_31 ?_ rfl rfl
        simp_all [fAir]
  · have := c2
    refine v_iload_n F dX6_beatsOf_5 rfl 1 rfl ?_
    refine v_iconst F (v := 3) dX6_beatsOf_6 (by decide) ?_
    refine v_icmp_lt F (tgt := 14) dX6_beatsOf_7 (by decide) (fun c7 => ?_) (fun c7 => ?_)
    · have := c7
      refine v_iload_n F dX6_beatsOf_14 rfl 0 rfl ?_
      refine v_iconst F (v := 2) dX6_beatsOf_15 (by decide) ?_
      refine v_icmp_ne F (tgt := 30) dX6_beatsOf_16 (by decide) (fun c16 => ?_) (fun c16 => ?_)
      · have := c16
        refine v_iload_n F dX6_beatsOf_30 rfl 1 rfl ?_
        refine v_iret F hr dX6_beatsOf_31 ?_ rfl rfl
        simp_all [fAir]
      · have := c16
        refine v_iload_n F dX6_beatsOf_19 rfl 1 rfl ?_
        refine v_iconst F (v := 5) dX6_beatsOf_20 (by decide) ?_
        refine v_icmp_lt F (tgt := 30) dX6_beatsOf_21 (by decide) (fun c21 => ?_) (fun c21 => ?_)
        · have := c21
          refine v_iload_n F dX6_beatsOf_30 rfl 1 rfl ?_
          refine v_iret F hr dX6_beatsOf_31 ?_ rfl rfl
          simp_all [fAir]
        · have := c21
          refine v_iload_n F dX6_beatsOf_24 rfl 1 rfl ?_
          refine v_iconst F (v := 1) dX6_beatsOf_25 (by decide) ?_
          refine v_iadd F dX6_beatsOf_26 ?_
          refine v_goto F (tgt := 31) dX6_beatsOf_27 (by decide) ?_
          refine v_iret F hr dX6_beatsOf_31 ?_ rfl rfl
          simp_all [fAir]
    · have := c7
      refine v_iload_n F dX6_beatsOf_10 rfl 1 rfl ?_
      refine v_iconst F (v := 1) dX6_beatsOf_11 (by decide) ?_
      refine v_isub F dX6_beatsOf_12 ?_
      refine v_iret F hr dX6_beatsOf_13 ?_ rfl rfl
      simp_all [fAir]
abbrev rm_X5_copy : Room := { frames := 1, cells := 0, slots := 0, locals := 18 }
set_option maxHeartbeats 4000000 in
set_option maxRecDepth 100000 in
theorem c_X5_copy_1 {X : Cx} {l : Launch} (G : Gx X l) {M : Mem} {lf : Lf} {τ : Sg} : CV X l yX5_copy (wsc yX5_copy cX5_copy 3 none) rm_X5_copy [.ref (X.2.1 4 0 0), .ref (X.2.1 3 1 0), .ref (X.2.1 4 1 0)] (uC M 4 τ) lf (uC M 4 (uS τ 1 0 (va_cpy (M 3 1 0) (τ 1 0) 0 0 4))) lf 0 0 := by
  refine CV_of (lv := [(0, .ref _), (1, .ref _), (2, .ref _)]) G (by decide) (Nat.le_of_ble_eq_true rfl) rfl (fun p e s m args below meth c F hr => ?_)
  have F : Fx p l s m args meth c cX5_copy 3 RX5 X := F
  refine v_aload_n F dX5_copy_0 rfl 1 rfl ?_
  refine v_iconst F (v := 0) dX5_copy_1 (by decide) ?_
  refine v_aload_n F dX5_copy_2 rfl 2 rfl ?_
  refine v_iconst F (v := 0) dX5_copy_3 (by decide) ?_
  refine v_aload_n F dX5_copy_4 rfl 1 rfl ?_
  refine v_alen F (t0 := 0) (id_S (Or.inl rfl) (by decide)) ((heO (by decide)).trans ((celD_S (Or.inl rfl)))) rfl (v := nI 4) (by decide) dX5_copy_5 ?_
  refine v_copy F (σ := τ) (st := []) (n := 4) (n1 := 4) (f := M 3 1 0) (g := τ 1 0) wcp1 wcp2 wcp3 wini_System (id_S (Or.inl rfl) (by decide)) (id_S (Or.inr rfl) (by decide)) ((heO (by decide)).trans (celD_S (Or.inl rfl))) rfl (heS (Or.inr rfl)) rfl rfl rfl rfl (by decide) (by decide) (Nat.le_refl _) (celD_S (Or.inr rfl)) (Nat.le_of_ble_eq_true rfl) (Nat.le_of_ble_eq_true rfl) dX5_copy_6 ?_
  exact v_vret F hr dX5_copy_9 (by rw [uC_uC, uC_at]) rfl
set_option maxHeartbeats 4000000 in
set_option maxRecDepth 100000 in
theorem c_X5_copy_2 {X : Cx} {l : Launch} (G : Gx X l) {M : Mem} {lf : Lf} {τ : Sg} : CV X l yX5_copy (wsc yX5_copy cX5_copy 3 none) rm_X5_copy [.ref (X.2.1 4 0 0), .ref (X.2.1 3 2 0), .ref (X.2.1 4 2 0)] (uC M 4 τ) lf (uC M 4 (uS τ 2 0 (va_cpy (M 3 2 0) (τ 2 0) 0 0 4))) lf 0 0 := by
  refine CV_of (lv := [(0, .ref _), (1, .ref _), (2, .ref _)]) G (by decide) (Nat.le_of_ble_eq_true rfl) rfl (fun p e s m args below meth c F hr => ?_)
  have F : Fx p l s m args meth c cX5_copy 3 RX5 X := F
  refine v_aload_n F dX5_copy_0 rfl 1 rfl ?_
  refine v_iconst F (v := 0) dX5_copy_1 (by decide) ?_
  refine v_aload_n F dX5_copy_2 rfl 2 rfl ?_
  refine v_iconst F (v := 0) dX5_copy_3 (by decide) ?_
  refine v_aload_n F dX5_copy_4 rfl 1 rfl ?_
  refine v_alen F (t0 := 0) (id_S (Or.inl rfl) (by decide)) ((heO (by decide)).trans ((celD_S (Or.inl rfl)))) rfl (v := nI 4) (by decide) dX5_copy_5 ?_
  refine v_copy F (σ := τ) (st := []) (n := 4) (n1 := 4) (f := M 3 2 0) (g := τ 2 0) wcp1 wcp2 wcp3 wini_System (id_S (Or.inl rfl) (by decide)) (id_S (Or.inr rfl) (by decide)) ((heO (by decide)).trans (celD_S (Or.inl rfl))) rfl (heS (Or.inr rfl)) rfl rfl rfl rfl (by decide) (by decide) (Nat.le_refl _) (celD_S (Or.inr rfl)) (Nat.le_of_ble_eq_true rfl) (Nat.le_of_ble_eq_true rfl) dX5_copy_6 ?_
  exact v_vret F hr dX5_copy_9 (by rw [uC_uC, uC_at]) rfl
set_option maxHeartbeats 4000000 in
set_option maxRecDepth 100000 in
theorem c_X5_copy_3 {X : Cx} {l : Launch} (G : Gx X l) {M : Mem} {lf : Lf} {τ : Sg} : CV X l yX5_copy (wsc yX5_copy cX5_copy 3 none) rm_X5_copy [.ref (X.2.1 4 0 0), .ref (X.2.1 3 3 0), .ref (X.2.1 4 3 0)] (uC M 4 τ) lf (uC M 4 (uS τ 3 0 (va_cpy (M 3 3 0) (τ 3 0) 0 0 8))) lf 0 0 := by
  refine CV_of (lv := [(0, .ref _), (1, .ref _), (2, .ref _)]) G (by decide) (Nat.le_of_ble_eq_true rfl) rfl (fun p e s m args below meth c F hr => ?_)
  have F : Fx p l s m args meth c cX5_copy 3 RX5 X := F
  refine v_aload_n F dX5_copy_0 rfl 1 rfl ?_
  refine v_iconst F (v := 0) dX5_copy_1 (by decide) ?_
  refine v_aload_n F dX5_copy_2 rfl 2 rfl ?_
  refine v_iconst F (v := 0) dX5_copy_3 (by decide) ?_
  refine v_aload_n F dX5_copy_4 rfl 1 rfl ?_
  refine v_alen F (t0 := 0) (id_S (Or.inl rfl) (by decide)) ((heO (by decide)).trans ((celD_S (Or.inl rfl)))) rfl (v := nI 8) (by decide) dX5_copy_5 ?_
  refine v_copy F (σ := τ) (st := []) (n := 8) (n1 := 8) (f := M 3 3 0) (g := τ 3 0) wcp1 wcp2 wcp3 wini_System (id_S (Or.inl rfl) (by decide)) (id_S (Or.inr rfl) (by decide)) ((heO (by decide)).trans (celD_S (Or.inl rfl))) rfl (heS (Or.inr rfl)) rfl rfl rfl rfl (by decide) (by decide) (Nat.le_refl _) (celD_S (Or.inr rfl)) (Nat.le_of_ble_eq_true rfl) (Nat.le_of_ble_eq_true rfl) dX5_copy_6 ?_
  exact v_vret F hr dX5_copy_9 (by rw [uC_uC, uC_at]) rfl
set_option maxHeartbeats 4000000 in
set_option maxRecDepth 100000 in
theorem c_X5_copy_4 {X : Cx} {l : Launch} (G : Gx X l) {M : Mem} {lf : Lf} {τ : Sg} : CV X l yX5_copy (wsc yX5_copy cX5_copy 3 none) rm_X5_copy [.ref (X.2.1 4 0 0), .ref (X.2.1 3 4 0), .ref (X.2.1 4 4 0)] (uC M 4 τ) lf (uC M 4 (uS τ 4 0 (va_cpy (M 3 4 0) (τ 4 0) 0 0 12))) lf 0 0 := by
  refine CV_of (lv := [(0, .ref _), (1, .ref _), (2, .ref _)]) G (by decide) (Nat.le_of_ble_eq_true rfl) rfl (fun p e s m args below meth c F hr => ?_)
  have F : Fx p l s m args meth c cX5_copy 3 RX5 X := F
  refine v_aload_n F dX5_copy_0 rfl 1 rfl ?_
  refine v_iconst F (v := 0) dX5_copy_1 (by decide) ?_
  refine v_aload_n F dX5_copy_2 rfl 2 rfl ?_
  refine v_iconst F (v := 0) dX5_copy_3 (by decide) ?_
  refine v_aload_n F dX5_copy_4 rfl 1 rfl ?_
  refine v_alen F (t0 := 0) (id_S (Or.inl rfl) (by decide)) ((heO (by decide)).trans ((celD_S (Or.inl rfl)))) rfl (v := nI 12) (by decide) dX5_copy_5 ?_
  refine v_copy F (σ := τ) (st := []) (n := 12) (n1 := 12) (f := M 3 4 0) (g := τ 4 0) wcp1 wcp2 wcp3 wini_System (id_S (Or.inl rfl) (by decide)) (id_S (Or.inr rfl) (by decide)) ((heO (by decide)).trans (celD_S (Or.inl rfl))) rfl (heS (Or.inr rfl)) rfl rfl rfl rfl (by decide) (by decide) (Nat.le_refl _) (celD_S (Or.inr rfl)) (Nat.le_of_ble_eq_true rfl) (Nat.le_of_ble_eq_true rfl) dX5_copy_6 ?_
  exact v_vret F hr dX5_copy_9 (by rw [uC_uC, uC_at]) rfl
set_option maxHeartbeats 4000000 in
set_option maxRecDepth 100000 in
theorem c_X5_copy_5 {X : Cx} {l : Launch} (G : Gx X l) {M : Mem} {lf : Lf} {τ : Sg} : CV X l yX5_copy (wsc yX5_copy cX5_copy 3 none) rm_X5_copy [.ref (X.2.1 4 0 0), .ref (X.2.1 3 5 0), .ref (X.2.1 4 5 0)] (uC M 4 τ) lf (uC M 4 (uS τ 5 0 (va_cpy (M 3 5 0) (τ 5 0) 0 0 12))) lf 0 0 := by
  refine CV_of (lv := [(0, .ref _), (1, .ref _), (2, .ref _)]) G (by decide) (Nat.le_of_ble_eq_true rfl) rfl (fun p e s m args below meth c F hr => ?_)
  have F : Fx p l s m args meth c cX5_copy 3 RX5 X := F
  refine v_aload_n F dX5_copy_0 rfl 1 rfl ?_
  refine v_iconst F (v := 0) dX5_copy_1 (by decide) ?_
  refine v_aload_n F dX5_copy_2 rfl 2 rfl ?_
  refine v_iconst F (v := 0) dX5_copy_3 (by decide) ?_
  refine v_aload_n F dX5_copy_4 rfl 1 rfl ?_
  refine v_alen F (t0 := 0) (id_S (Or.inl rfl) (by decide)) ((heO (by decide)).trans ((celD_S (Or.inl rfl)))) rfl (v := nI 12) (by decide) dX5_copy_5 ?_
  refine v_copy F (σ := τ) (st := []) (n := 12) (n1 := 12) (f := M 3 5 0) (g := τ 5 0) wcp1 wcp2 wcp3 wini_System (id_S (Or.inl rfl) (by decide)) (id_S (Or.inr rfl) (by decide)) ((heO (by decide)).trans (celD_S (Or.inl rfl))) rfl (heS (Or.inr rfl)) rfl rfl rfl rfl (by decide) (by decide) (Nat.le_refl _) (celD_S (Or.inr rfl)) (Nat.le_of_ble_eq_true rfl) (Nat.le_of_ble_eq_true rfl) dX5_copy_6 ?_
  exact v_vret F hr dX5_copy_9 (by rw [uC_uC, uC_at]) rfl
set_option maxHeartbeats 4000000 in
set_option maxRecDepth 100000 in
theorem c_X5_copy_6 {X : Cx} {l : Launch} (G : Gx X l) {M : Mem} {lf : Lf} {τ : Sg} : CV X l yX5_copy (wsc yX5_copy cX5_copy 3 none) rm_X5_copy [.ref (X.2.1 4 0 0), .ref (X.2.1 3 6 0), .ref (X.2.1 4 6 0)] (uC M 4 τ) lf (uC M 4 (uS τ 6 0 (va_cpy (M 3 6 0) (τ 6 0) 0 0 12))) lf 0 0 := by
  refine CV_of (lv := [(0, .ref _), (1, .ref _), (2, .ref _)]) G (by decide) (Nat.le_of_ble_eq_true rfl) rfl (fun p e s m args below meth c F hr => ?_)
  have F : Fx p l s m args meth c cX5_copy 3 RX5 X := F
  refine v_aload_n F dX5_copy_0 rfl 1 rfl ?_
  refine v_iconst F (v := 0) dX5_copy_1 (by decide) ?_
  refine v_aload_n F dX5_copy_2 rfl 2 rfl ?_
  refine v_iconst F (v := 0) dX5_copy_3 (by decide) ?_
  refine v_aload_n F dX5_copy_4 rfl 1 rfl ?_
  refine v_alen F (t0 := 0) (id_S (Or.inl rfl) (by decide)) ((heO (by decide)).trans ((celD_S (Or.inl rfl)))) rfl (v := nI 12) (by decide) dX5_copy_5 ?_
  refine v_copy F (σ := τ) (st := []) (n := 12) (n1 := 12) (f := M 3 6 0) (g := τ 6 0) wcp1 wcp2 wcp3 wini_System (id_S (Or.inl rfl) (by decide)) (id_S (Or.inr rfl) (by decide)) ((heO (by decide)).trans (celD_S (Or.inl rfl))) rfl (heS (Or.inr rfl)) rfl rfl rfl rfl (by decide) (by decide) (Nat.le_refl _) (celD_S (Or.inr rfl)) (Nat.le_of_ble_eq_true rfl) (Nat.le_of_ble_eq_true rfl) dX5_copy_6 ?_
  exact v_vret F hr dX5_copy_9 (by rw [uC_uC, uC_at]) rfl
set_option maxHeartbeats 4000000 in
set_option maxRecDepth 100000 in
theorem c_X5_copy_7 {X : Cx} {l : Launch} (G : Gx X l) {M : Mem} {lf : Lf} {τ : Sg} : CV X l yX5_copy (wsc yX5_copy cX5_copy 3 none) rm_X5_copy [.ref (X.2.1 4 0 0), .ref (X.2.1 3 7 0), .ref (X.2.1 4 7 0)] (uC M 4 τ) lf (uC M 4 (uS τ 7 0 (va_cpy (M 3 7 0) (τ 7 0) 0 0 12))) lf 0 0 := by
  refine CV_of (lv := [(0, .ref _), (1, .ref _), (2, .ref _)]) G (by decide) (Nat.le_of_ble_eq_true rfl) rfl (fun p e s m args below meth c F hr => ?_)
  have F : Fx p l s m args meth c cX5_copy 3 RX5 X := F
  refine v_aload_n F dX5_copy_0 rfl 1 rfl ?_
  refine v_iconst F (v := 0) dX5_copy_1 (by decide) ?_
  refine v_aload_n F dX5_copy_2 rfl 2 rfl ?_
  refine v_iconst F (v := 0) dX5_copy_3 (by decide) ?_
  refine v_aload_n F dX5_copy_4 rfl 1 rfl ?_
  refine v_alen F (t0 := 0) (id_S (Or.inl rfl) (by decide)) ((heO (by decide)).trans ((celD_S (Or.inl rfl)))) rfl (v := nI 12) (by decide) dX5_copy_5 ?_
  refine v_copy F (σ := τ) (st := []) (n := 12) (n1 := 12) (f := M 3 7 0) (g := τ 7 0) wcp1 wcp2 wcp3 wini_System (id_S (Or.inl rfl) (by decide)) (id_S (Or.inr rfl) (by decide)) ((heO (by decide)).trans (celD_S (Or.inl rfl))) rfl (heS (Or.inr rfl)) rfl rfl rfl rfl (by decide) (by decide) (Nat.le_refl _) (celD_S (Or.inr rfl)) (Nat.le_of_ble_eq_true rfl) (Nat.le_of_ble_eq_true rfl) dX5_copy_6 ?_
  exact v_vret F hr dX5_copy_9 (by rw [uC_uC, uC_at]) rfl
set_option maxHeartbeats 4000000 in
set_option maxRecDepth 100000 in
theorem c_X5_copy_8 {X : Cx} {l : Launch} (G : Gx X l) {M : Mem} {lf : Lf} {τ : Sg} : CV X l yX5_copy (wsc yX5_copy cX5_copy 3 none) rm_X5_copy [.ref (X.2.1 4 0 0), .ref (X.2.1 3 8 0), .ref (X.2.1 4 8 0)] (uC M 4 τ) lf (uC M 4 (uS τ 8 0 (va_cpy (M 3 8 0) (τ 8 0) 0 0 12))) lf 0 0 := by
  refine CV_of (lv := [(0, .ref _), (1, .ref _), (2, .ref _)]) G (by decide) (Nat.le_of_ble_eq_true rfl) rfl (fun p e s m args below meth c F hr => ?_)
  have F : Fx p l s m args meth c cX5_copy 3 RX5 X := F
  refine v_aload_n F dX5_copy_0 rfl 1 rfl ?_
  refine v_iconst F (v := 0) dX5_copy_1 (by decide) ?_
  refine v_aload_n F dX5_copy_2 rfl 2 rfl ?_
  refine v_iconst F (v := 0) dX5_copy_3 (by decide) ?_
  refine v_aload_n F dX5_copy_4 rfl 1 rfl ?_
  refine v_alen F (t0 := 0) (id_S (Or.inl rfl) (by decide)) ((heO (by decide)).trans ((celD_S (Or.inl rfl)))) rfl (v := nI 12) (by decide) dX5_copy_5 ?_
  refine v_copy F (σ := τ) (st := []) (n := 12) (n1 := 12) (f := M 3 8 0) (g := τ 8 0) wcp1 wcp2 wcp3 wini_System (id_S (Or.inl rfl) (by decide)) (id_S (Or.inr rfl) (by decide)) ((heO (by decide)).trans (celD_S (Or.inl rfl))) rfl (heS (Or.inr rfl)) rfl rfl rfl rfl (by decide) (by decide) (Nat.le_refl _) (celD_S (Or.inr rfl)) (Nat.le_of_ble_eq_true rfl) (Nat.le_of_ble_eq_true rfl) dX5_copy_6 ?_
  exact v_vret F hr dX5_copy_9 (by rw [uC_uC, uC_at]) rfl
set_option maxHeartbeats 4000000 in
set_option maxRecDepth 100000 in
theorem c_X5_copy_9 {X : Cx} {l : Launch} (G : Gx X l) {M : Mem} {lf : Lf} {τ : Sg} : CV X l yX5_copy (wsc yX5_copy cX5_copy 3 none) rm_X5_copy [.ref (X.2.1 4 0 0), .ref (X.2.1 3 9 0), .ref (X.2.1 4 9 0)] (uC M 4 τ) lf (uC M 4 (uS τ 9 0 (va_cpy (M 3 9 0) (τ 9 0) 0 0 12))) lf 0 0 := by
  refine CV_of (lv := [(0, .ref _), (1, .ref _), (2, .ref _)]) G (by decide) (Nat.le_of_ble_eq_true rfl) rfl (fun p e s m args below meth c F hr => ?_)
  have F : Fx p l s m args meth c cX5_copy 3 RX5 X := F
  refine v_aload_n F dX5_copy_0 rfl 1 rfl ?_
  refine v_iconst F (v := 0) dX5_copy_1 (by decide) ?_
  refine v_aload_n F dX5_copy_2 rfl 2 rfl ?_
  refine v_iconst F (v := 0) dX5_copy_3 (by decide) ?_
  refine v_aload_n F dX5_copy_4 rfl 1 rfl ?_
  refine v_alen F (t0 := 0) (id_S (Or.inl rfl) (by decide)) ((heO (by decide)).trans ((celD_S (Or.inl rfl)))) rfl (v := nI 12) (by decide) dX5_copy_5 ?_
  refine v_copy F (σ := τ) (st := []) (n := 12) (n1 := 12) (f := M 3 9 0) (g := τ 9 0) wcp1 wcp2 wcp3 wini_System (id_S (Or.inl rfl) (by decide)) (id_S (Or.inr rfl) (by decide)) ((heO (by decide)).trans (celD_S (Or.inl rfl))) rfl (heS (Or.inr rfl)) rfl rfl rfl rfl (by decide) (by decide) (Nat.le_refl _) (celD_S (Or.inr rfl)) (Nat.le_of_ble_eq_true rfl) (Nat.le_of_ble_eq_true rfl) dX5_copy_6 ?_
  exact v_vret F hr dX5_copy_9 (by rw [uC_uC, uC_at]) rfl
abbrev rm_X5_become : Room := { frames := 2, cells := 0, slots := 0, locals := 40 }
def gBec (ρ τ : Sg) : Sg := uS (uS (uS (uS (uS (uS (uS (uS (uS (u3 ρ 0 0 0 (τ 0 0 0)) 1 0 (va_cpy (τ 1 0) (ρ 1 0) 0 0 4)) 2 0 (va_cpy (τ 2 0) (ρ 2 0) 0 0 4)) 3 0 (va_cpy (τ 3 0) (ρ 3 0) 0 0 8)) 4 0 (va_cpy (τ 4 0) (ρ 4 0) 0 0 12)) 5 0 (va_cpy (τ 5 0) (ρ 5 0) 0 0 12)) 6 0 (va_cpy (τ 6 0) (ρ 6 0) 0 0 12)) 7 0 (va_cpy (τ 7 0) (ρ 7 0) 0 0 12)) 8 0 (va_cpy (τ 8 0) (ρ 8 0) 0 0 12)) 9 0 (va_cpy (τ 9 0) (ρ 9 0) 0 0 12)
set_option maxHeartbeats 4000000 in
set_option maxRecDepth 100000 in
theorem c_X5_become {X : Cx} {l : Launch} (G : Gx X l) {M : Mem} {lf : Lf} {ρ : Sg} : CV X l yX5_become (wsc yX5_become cX5_become 2 none) rm_X5_become [.ref (X.2.1 4 0 0), .ref (X.2.1 3 0 0)] (uC M 4 ρ) lf (uC M 4 (gBec ρ (M 3))) lf 0 0 := by
  refine CV_of (lv := [(0, .ref _), (1, .ref _)]) G (by decide) (Nat.le_of_ble_eq_true rfl) rfl (fun p e s m args below meth c F hr => ?_)
  have F : Fx p l s m args meth c cX5_become 2 RX5 X := F
  refine v_aload_n F dX5_become_0 rfl 0 rfl ?_
  refine v_aload_n F dX5_become_1 rfl 1 rfl ?_
  refine v_get F (id_S (Or.inl rfl) (by decide)) ((heO (by decide)).trans ((celD_S (Or.inl rfl)))) rfl uw_X5 0 (by decide) rfl rfl wf_X5_49 dX5_become_2 ?_
  refine v_putC F tyX5 tyX5_ok nmX5 (id_S (Or.inr rfl) (by decide)) (celD_S (Or.inr rfl)) rfl uw_X5 0 (by decide) rfl rfl (by decide +kernel) (celD_S (Or.inr rfl)) (Nat.le_of_ble_eq_true rfl) wf_X5_49 dX5_become_5 ?_
  refine v_aload_n F dX5_become_8 rfl 0 rfl ?_
  refine v_aload_n F dX5_become_9 rfl 1 rfl ?_
  refine v_get F (id_S (Or.inl rfl) (by decide)) ((heO (by decide)).trans ((celD_S (Or.inl rfl)))) rfl uw_X5 1 (by decide) rfl rfl wf_X5_15 dX5_become_10 ?_
  refine v_aload_n F dX5_become_13 rfl 0 rfl ?_
  refine v_get F (id_S (Or.inr rfl) (by decide)) (heS (Or.inr rfl)) rfl uw_X5 1 (by decide) rfl rfl wf_X5_15 dX5_become_14 ?_
  refine v_callVv F (As := [_, _]) (rest := []) rfl (c_X5_copy_1 G) (Rv_S (Or.inr rfl)) wm_X5_53 rfl ⟨rfl, rfl, Nat.le_of_ble_eq_true rfl, Nat.le_of_ble_eq_true rfl, Nat.le_of_ble_eq_true rfl, Nat.le_of_ble_eq_true rfl, Nat.le_of_ble_eq_true rfl⟩ dX5_become_17 ?_
  refine v_aload_n F dX5_become_20 rfl 0 rfl ?_
  refine v_aload_n F dX5_become_21 rfl 1 rfl ?_
  refine v_get F (id_S (Or.inl rfl) (by decide)) ((heO (by decide)).trans ((celD_S (Or.inl rfl)))) rfl uw_X5 2 (by decide) rfl rfl wf_X5_19 dX5_become_22 ?_
  refine v_aload_n F dX5_become_25 rfl 0 rfl ?_
  refine v_get F (id_S (Or.inr rfl) (by decide)) (heS (Or.inr rfl)) rfl uw_X5 2 (by decide) rfl rfl wf_X5_19 dX5_become_26 ?_
  refine v_callVv F (As := [_, _]) (rest := []) rfl (c_X5_copy_2 G) (Rv_S (Or.inr rfl)) wm_X5_53 rfl ⟨rfl, rfl, Nat.le_of_ble_eq_true rfl, Nat.le_of_ble_eq_true rfl, Nat.le_of_ble_eq_true rfl, Nat.le_of_ble_eq_true rfl, Nat.le_of_ble_eq_true rfl⟩ dX5_become_29 ?_
  refine v_aload_n F dX5_become_32 rfl 0 rfl ?_
  refine v_aload_n F dX5_become_33 rfl 1 rfl ?_
  refine v_get F (id_S (Or.inl rfl) (by decide)) ((heO (by decide)).trans ((celD_S (Or.inl rfl)))) rfl uw_X5 3 (by decide) rfl rfl wf_X5_22 dX5_become_34 ?_
  refine v_aload_n F dX5_become_37 rfl 0 rfl ?_
  refine v_get F (id_S (Or.inr rfl) (by decide)) (heS (Or.inr rfl)) rfl uw_X5 3 (by decide) rfl rfl wf_X5_22 dX5_become_38 ?_
  refine v_callVv F (As := [_, _]) (rest := []) rfl (c_X5_copy_3 G) (Rv_S (Or.inr rfl)) wm_X5_53 rfl ⟨rfl, rfl, Nat.le_of_ble_eq_true rfl, Nat.le_of_ble_eq_true rfl, Nat.le_of_ble_eq_true rfl, Nat.le_of_ble_eq_true rfl, Nat.le_of_ble_eq_true rfl⟩ dX5_become_41 ?_
  refine v_aload_n F dX5_become_44 rfl 0 rfl ?_
  refine v_aload_n F dX5_become_45 rfl 1 rfl ?_
  refine v_get F (id_S (Or.inl rfl) (by decide)) ((heO (by decide)).trans ((celD_S (Or.inl rfl)))) rfl uw_X5 4 (by decide) rfl rfl wf_X5_25 dX5_become_46 ?_
  refine v_aload_n F dX5_become_49 rfl 0 rfl ?_
  refine v_get F (id_S (Or.inr rfl) (by decide)) (heS (Or.inr rfl)) rfl uw_X5 4 (by decide) rfl rfl wf_X5_25 dX5_become_50 ?_
  refine v_callVv F (As := [_, _]) (rest := []) rfl (c_X5_copy_4 G) (Rv_S (Or.inr rfl)) wm_X5_53 rfl ⟨rfl, rfl, Nat.le_of_ble_eq_true rfl, Nat.le_of_ble_eq_true rfl, Nat.le_of_ble_eq_true rfl, Nat.le_of_ble_eq_true rfl, Nat.le_of_ble_eq_true rfl⟩ dX5_become_53 ?_
  refine v_aload_n F dX5_become_56 rfl 0 rfl ?_
  refine v_aload_n F dX5_become_57 rfl 1 rfl ?_
  refine v_get F (id_S (Or.inl rfl) (by decide)) ((heO (by decide)).trans ((celD_S (Or.inl rfl)))) rfl uw_X5 5 (by decide) rfl rfl wf_X5_28 dX5_become_58 ?_
  refine v_aload_n F dX5_become_61 rfl 0 rfl ?_
  refine v_get F (id_S (Or.inr rfl) (by decide)) (heS (Or.inr rfl)) rfl uw_X5 5 (by decide) rfl rfl wf_X5_28 dX5_become_62 ?_
  refine v_callVv F (As := [_, _]) (rest := []) rfl (c_X5_copy_5 G) (Rv_S (Or.inr rfl)) wm_X5_53 rfl ⟨rfl, rfl, Nat.le_of_ble_eq_true rfl, Nat.le_of_ble_eq_true rfl, Nat.le_of_ble_eq_true rfl, Nat.le_of_ble_eq_true rfl, Nat.le_of_ble_eq_true rfl⟩ dX5_become_65 ?_
  refine v_aload_n F dX5_become_68 rfl 0 rfl ?_
  refine v_aload_n F dX5_become_69 rfl 1 rfl ?_
  refine v_get F (id_S (Or.inl rfl) (by decide)) ((heO (by decide)).trans ((celD_S (Or.inl rfl)))) rfl uw_X5 6 (by decide) rfl rfl wf_X5_31 dX5_become_70 ?_
  refine v_aload_n F dX5_become_73 rfl 0 rfl ?_
  refine v_get F (id_S (Or.inr rfl) (by decide)) (heS (Or.inr rfl)) rfl uw_X5 6 (by decide) rfl rfl wf_X5_31 dX5_become_74 ?_
  refine v_callVv F (As := [_, _]) (rest := []) rfl (c_X5_copy_6 G) (Rv_S (Or.inr rfl)) wm_X5_53 rfl ⟨rfl, rfl, Nat.le_of_ble_eq_true rfl, Nat.le_of_ble_eq_true rfl, Nat.le_of_ble_eq_true rfl, Nat.le_of_ble_eq_true rfl, Nat.le_of_ble_eq_true rfl⟩ dX5_become_77 ?_
  refine v_aload_n F dX5_become_80 rfl 0 rfl ?_
  refine v_aload_n F dX5_become_81 rfl 1 rfl ?_
  refine v_get F (id_S (Or.inl rfl) (by decide)) ((heO (by decide)).trans ((celD_S (Or.inl rfl)))) rfl uw_X5 7 (by decide) rfl rfl wf_X5_34 dX5_become_82 ?_
  refine v_aload_n F dX5_become_85 rfl 0 rfl ?_
  refine v_get F (id_S (Or.inr rfl) (by decide)) (heS (Or.inr rfl)) rfl uw_X5 7 (by decide) rfl rfl wf_X5_34 dX5_become_86 ?_
  refine v_callVv F (As := [_, _]) (rest := []) rfl (c_X5_copy_7 G) (Rv_S (Or.inr rfl)) wm_X5_53 rfl ⟨rfl, rfl, Nat.le_of_ble_eq_true rfl, Nat.le_of_ble_eq_true rfl, Nat.le_of_ble_eq_true rfl, Nat.le_of_ble_eq_true rfl, Nat.le_of_ble_eq_true rfl⟩ dX5_become_89 ?_
  refine v_aload_n F dX5_become_92 rfl 0 rfl ?_
  refine v_aload_n F dX5_become_93 rfl 1 rfl ?_
  refine v_get F (id_S (Or.inl rfl) (by decide)) ((heO (by decide)).trans ((celD_S (Or.inl rfl)))) rfl uw_X5 8 (by decide) rfl rfl wf_X5_37 dX5_become_94 ?_
  refine v_aload_n F dX5_become_97 rfl 0 rfl ?_
  refine v_get F (id_S (Or.inr rfl) (by decide)) (heS (Or.inr rfl)) rfl uw_X5 8 (by decide) rfl rfl wf_X5_37 dX5_become_98 ?_
  refine v_callVv F (As := [_, _]) (rest := []) rfl (c_X5_copy_8 G) (Rv_S (Or.inr rfl)) wm_X5_53 rfl ⟨rfl, rfl, Nat.le_of_ble_eq_true rfl, Nat.le_of_ble_eq_true rfl, Nat.le_of_ble_eq_true rfl, Nat.le_of_ble_eq_true rfl, Nat.le_of_ble_eq_true rfl⟩ dX5_become_101 ?_
  refine v_aload_n F dX5_become_104 rfl 0 rfl ?_
  refine v_aload_n F dX5_become_105 rfl 1 rfl ?_
  refine v_get F (id_S (Or.inl rfl) (by decide)) ((heO (by decide)).trans ((celD_S (Or.inl rfl)))) rfl uw_X5 9 (by decide) rfl rfl wf_X5_40 dX5_become_106 ?_
  refine v_aload_n F dX5_become_109 rfl 0 rfl ?_
  refine v_get F (id_S (Or.inr rfl) (by decide)) (heS (Or.inr rfl)) rfl uw_X5 9 (by decide) rfl rfl wf_X5_40 dX5_become_110 ?_
  refine v_callVv F (As := [_, _]) (rest := []) rfl (c_X5_copy_9 G) (Rv_S (Or.inr rfl)) wm_X5_53 rfl ⟨rfl, rfl, Nat.le_of_ble_eq_true rfl, Nat.le_of_ble_eq_true rfl, Nat.le_of_ble_eq_true rfl, Nat.le_of_ble_eq_true rfl, Nat.le_of_ble_eq_true rfl⟩ dX5_become_113 ?_
  exact v_vret F hr dX5_become_116 rfl rfl
abbrev rm_X5_comeDown : Room := { frames := 0, cells := 0, slots := 0, locals := 0 }
set_option maxHeartbeats 4000000 in
set_option maxRecDepth 100000 in
theorem c_X5_comeDown {X : Cx} {l : Launch} (G : Gx X l) {M : Mem} {lf : Lf} {d : Nat} (hd : d = 3 ∨ d = 4) {τ : Sg} {k i b : Nat} (hk : k < 12) (hi : i < 4) (hw : τ 5 0 k = nI i) (hb : b < 2 ^ 31) (hbt : τ 0 0 0 = nI b) : CV X l yX5_comeDown (wsc yX5_comeDown cX5_comeDown 4 none) rm_X5_comeDown [.ref (X.2.1 d 0 0), .int (nI k)] (uC M d τ) lf (uC M d (gDown τ (M 2) k i (b % 2))) lf 0 0 := by
  refine CV_of (lv := [(0, .ref _), (1, .int _)]) G (by decide) (Nat.le_of_ble_eq_true rfl) rfl (fun p e s m args below meth c F hr => ?_)
  have F : Fx p l s m args meth c cX5_comeDown 4 RX5 X := F
  have hh : b % 2 < 2 := Nat.mod_lt b (by decide)
  have h2d : 2 ≠ d := by omega
  refine v_aload_n F dX5_comeDown_0 rfl 0 rfl ?_
  refine v_get F (id_S hd (by decide)) (heS hd) rfl uw_X5 5 (by decide) rfl rfl wf_X5_28 dX5_comeDown_1 ?_
  refine v_iload_n F dX5_comeDown_4 rfl 1 rfl ?_
  refine v_iald F (id_S hd (by decide)) (heS hd) rfl (k) (Ix_nI hk) dX5_comeDown_5 ?_
  refine v_topr (nI i) hw ?_
  refine v_istore_n F dX5_comeDown_6 rfl (by decide) (lv' := [(2, .int _), (0, .ref _), (1, .int _)]) rfl ?_
  refine v_iconst F (v := nI 2) dX5_comeDown_7 (by decide) ?_
  refine v_iload_n F dX5_comeDown_8 rfl 0 rfl ?_
  refine v_imul F dX5_comeDown_9 ?_
  refine v_aload_n F dX5_comeDown_10 rfl 1 rfl ?_
  refine v_get F (id_S hd (by decide)) (heS hd) rfl uw_X5 0 (by decide) rfl rfl wf_X5_49 dX5_comeDown_11 ?_
  refine v_topr (nI b) hbt ?_
  refine v_iconst F (v := nI 2) dX5_comeDown_14 (by decide) ?_
  refine v_irem F dX5_comeDown_15 (by decide) ?_
  refine v_topr (nI (b % 2)) (pk_rem hb (by decide) (by decide)) ?_
  refine v_iadd F dX5_comeDown_16 ?_
  refine v_topr (nI (2 * i + b % 2)) (by rw [pk_mul, nI_add]) ?_
  refine v_istore_n F dX5_comeDown_17 rfl (by decide) (lv' := [(3, .int _), (2, .int _), (0, .ref _), (1, .int _)]) rfl ?_
  refine v_aload_n F dX5_comeDown_18 rfl 2 rfl ?_
  refine v_get F (id_S hd (by decide)) (heS hd) rfl uw_X5 3 (by decide) rfl rfl wf_X5_22 dX5_comeDown_19 ?_
  refine v_iload_n F dX5_comeDown_22 rfl 0 rfl ?_
  refine v_iald F (id_S hd (by decide)) (heS hd) rfl (2 * i + b % 2) (Ix_nI (by omega)) dX5_comeDown_23 ?_
  refine v_if_ne F (tgt := 74) dX5_comeDown_24 (by decide) (fun c24 => ?_) (fun c24 => ?_)
  · have := c24
    have hg : gDown τ (M 2) k i (b % 2) = gMiss τ (M 2) k i := if_neg (fun z => c24 z.1)
    refine v_aload_n F dX5_comeDown_74 rfl 2 rfl ?_
    refine v_get F (id_S hd (by decide)) (heS hd) rfl uw_X5 9 (by decide) rfl rfl wf_X5_40 dX5_comeDown_75 ?_
    refine v_iload_n F dX5_comeDown_78 rfl 3 rfl ?_
    refine v_dup2_11 F dX5_comeDown_79 rfl rfl ?_
    refine v_iald F (id_S hd (by decide)) (heS hd) rfl (k) (Ix_nI hk) dX5_comeDown_80 ?_
    refine v_iconst F (v := 1) dX5_comeDown_81 (by decide) ?_
    refine v_iadd F dX5_comeDown_82 ?_
    refine v_iastC F (id_S hd (by decide)) (celD_S hd) rfl (k) (Ix_nI hk) (celD_S hd) dX5_comeDown_83 ?_
    refine v_aload_n F dX5_comeDown_84 rfl 2 rfl ?_
    refine v_get F (id_S hd (by decide)) (heS hd) rfl uw_X5 4 (by decide) rfl rfl wf_X5_25 dX5_comeDown_85 ?_
    refine v_iload_n F dX5_comeDown_88 rfl 3 rfl ?_
    refine v_aload_n F dX5_comeDown_89 rfl 2 rfl ?_
    refine v_get F (id_S hd (by decide)) (heS hd) rfl uw_X5 10 (by decide) rfl rfl wf_X5_3 dX5_comeDown_90 ?_
    refine v_getN F (id_Q 0 (by decide)) (heO h2d) rfl uw_X6 7 (by decide) rfl rfl wf_X5_60 dX5_comeDown_93 ?_
    refine v_iload_n F dX5_comeDown_96 rfl 3 rfl ?_
    refine v_iald F (id_Q 5 (by decide)) (heO h2d) rfl (k) (Ix_nI hk) dX5_comeDown_97 ?_
    refine v_iconst F (v := 2) dX5_comeDown_98 (by decide) ?_
    refine v_icmp_ne F (tgt := 106) dX5_comeDown_99 (by decide) (fun c99 => ?_) (fun c99 => ?_)
    · have := c99
      refine v_iconst F (v := 0) dX5_comeDown_106 (by decide) ?_
      refine v_iastC F (id_S hd (by decide)) (celD_S hd) rfl (k) (Ix_nI hk) (celD_S hd) dX5_comeDown_107 ?_
      refine v_aload_n F dX5_comeDown_108 rfl 2 rfl ?_
      refine v_get F (id_S hd (by decide)) (heS hd) rfl uw_X5 10 (by decide) rfl rfl wf_X5_3 dX5_comeDown_109 ?_
      refine v_getN F (id_Q 0 (by decide)) (heO h2d) rfl uw_X6 7 (by decide) rfl rfl wf_X5_60 dX5_comeDown_112 ?_
      refine v_iload_n F dX5_comeDown_115 rfl 3 rfl ?_
      refine v_iald F (id_Q 5 (by decide)) (heO h2d) rfl (k) (Ix_nI hk) dX5_comeDown_116 ?_
      refine v_iconst F (v := 1) dX5_comeDown_117 (by decide) ?_
      refine v_icmp_ne F (tgt := 131) dX5_comeDown_118 (by decide) (fun c118 => ?_) (fun c118 => ?_)
      · have := c118
        refine v_vret F hr dX5_comeDown_131 ?_ rfl
        rw [hg]
        first | exact absurd (c99.symm.trans c118) (by decide) | (simp [gMiss, u3_eq, c99, c118]; done)
      · have := c118
        refine v_aload_n F dX5_comeDown_121 rfl 2 rfl ?_
        refine v_get F (id_S hd (by decide)) (heS hd) rfl uw_X5 1 (by decide) rfl rfl wf_X5_15 dX5_comeDown_122 ?_
        refine v_iload_n F dX5_comeDown_125 rfl 1 rfl ?_
        refine v_dup2_11 F dX5_comeDown_126 rfl rfl ?_
        refine v_iald F (id_S hd (by decide)) (heS hd) rfl (i) (Ix_nI hi) dX5_comeDown_127 ?_
        refine v_iconst F (v := 1) dX5_comeDown_128 (by decide) ?_
        refine v_iadd F dX5_comeDown_129 ?_
        refine v_iastC F (id_S hd (by decide)) (celD_S hd) rfl (i) (Ix_nI hi) (celD_S hd) dX5_comeDown_130 ?_
        refine v_vret F hr dX5_comeDown_131 ?_ rfl
        rw [hg]
        first | exact absurd (c99.symm.trans c118) (by decide) | (simp [gMiss, u3_eq, c99, c118]; done)
    · have := c99
      refine v_iconst F (v := 3) dX5_comeDown_102 (by decide) ?_
      refine v_goto F (tgt := 107) dX5_comeDown_103 (by decide) ?_
      refine v_iastC F (id_S hd (by decide)) (celD_S hd) rfl (k) (Ix_nI hk) (celD_S hd) dX5_comeDown_107 ?_
      refine v_aload_n F dX5_comeDown_108 rfl 2 rfl ?_
      refine v_get F (id_S hd (by decide)) (heS hd) rfl uw_X5 10 (by decide) rfl rfl wf_X5_3 dX5_comeDown_109 ?_
      refine v_getN F (id_Q 0 (by decide)) (heO h2d) rfl uw_X6 7 (by decide) rfl rfl wf_X5_60 dX5_comeDown_112 ?_
      refine v_iload_n F dX5_comeDown_115 rfl 3 rfl ?_
      refine v_iald F (id_Q 5 (by decide)) (heO h2d) rfl (k) (Ix_nI hk) dX5_comeDown_116 ?_
      refine v_iconst F (v := 1) dX5_comeDown_117 (by decide) ?_
      refine v_icmp_ne F (tgt := 131) dX5_comeDown_118 (by decide) (fun c118 => ?_) (fun c118 => ?_)
      · have := c118
        refine v_vret F hr dX5_comeDown_131 ?_ rfl
        rw [hg]
        first | exact absurd (c99.symm.trans c118) (by decide) | (simp [gMiss, u3_eq, c99, c118]; done)
      · have := c118
        refine v_aload_n F dX5_comeDown_121 rfl 2 rfl ?_
        refine v_get F (id_S hd (by decide)) (heS hd) rfl uw_X5 1 (by decide) rfl rfl wf_X5_15 dX5_comeDown_122 ?_
        refine v_iload_n F dX5_comeDown_125 rfl 1 rfl ?_
        refine v_dup2_11 F dX5_comeDown_126 rfl rfl ?_
        refine v_iald F (id_S hd (by decide)) (heS hd) rfl (i) (Ix_nI hi) dX5_comeDown_127 ?_
        refine v_iconst F (v := 1) dX5_comeDown_128 (by decide) ?_
        refine v_iadd F dX5_comeDown_129 ?_
        refine v_iastC F (id_S hd (by decide)) (celD_S hd) rfl (i) (Ix_nI hi) (celD_S hd) dX5_comeDown_130 ?_
        refine v_vret F hr dX5_comeDown_131 ?_ rfl
        rw [hg]
        first | exact absurd (c99.symm.trans c118) (by decide) | (simp [gMiss, u3_eq, c99, c118]; done)
  · have := c24
    refine v_aload_n F dX5_comeDown_27 rfl 2 rfl ?_
    refine v_get F (id_S hd (by decide)) (heS hd) rfl uw_X5 7 (by decide) rfl rfl wf_X5_34 dX5_comeDown_28 ?_
    refine v_iload_n F dX5_comeDown_31 rfl 3 rfl ?_
    refine v_iald F (id_S hd (by decide)) (heS hd) rfl (k) (Ix_nI hk) dX5_comeDown_32 ?_
    refine v_aload_n F dX5_comeDown_33 rfl 2 rfl ?_
    refine v_get F (id_S hd (by decide)) (heS hd) rfl uw_X5 10 (by decide) rfl rfl wf_X5_3 dX5_comeDown_34 ?_
    refine v_getN F (id_Q 0 (by decide)) (heO h2d) rfl uw_X6 3 (by decide) rfl rfl wf_X5_57 dX5_comeDown_37 ?_
    refine v_iload_n F dX5_comeDown_40 rfl 1 rfl ?_
    refine v_iald F (id_Q 1 (by decide)) (heO h2d) rfl (i) (Ix_nI hi) dX5_comeDown_41 ?_
    refine v_iconst F (v := 2) dX5_comeDown_42 (by decide) ?_
    refine v_iadd F dX5_comeDown_43 ?_
    refine v_icmp_gt F (tgt := 74) dX5_comeDown_44 (by decide) (fun c44 => ?_) (fun c44 => ?_)
    · have := c44
      have hg : gDown τ (M 2) k i (b % 2) = gMiss τ (M 2) k i := if_neg (fun z => z.2 c44)
      refine v_aload_n F dX5_comeDown_74 rfl 2 rfl ?_
      refine v_get F (id_S hd (by decide)) (heS hd) rfl uw_X5 9 (by decide) rfl rfl wf_X5_40 dX5_comeDown_75 ?_
      refine v_iload_n F dX5_comeDown_78 rfl 3 rfl ?_
      refine v_dup2_11 F dX5_comeDown_79 rfl rfl ?_
      refine v_iald F (id_S hd (by decide)) (heS hd) rfl (k) (Ix_nI hk) dX5_comeDown_80 ?_
      refine v_iconst F (v := 1) dX5_comeDown_81 (by decide) ?_
      refine v_iadd F dX5_comeDown_82 ?_
      refine v_iastC F (id_S hd (by decide)) (celD_S hd) rfl (k) (Ix_nI hk) (celD_S hd) dX5_comeDown_83 ?_
      refine v_aload_n F dX5_comeDown_84 rfl 2 rfl ?_
      refine v_get F (id_S hd (by decide)) (heS hd) rfl uw_X5 4 (by decide) rfl rfl wf_X5_25 dX5_comeDown_85 ?_
      refine v_iload_n F dX5_comeDown_88 rfl 3 rfl ?_
      refine v_aload_n F dX5_comeDown_89 rfl 2 rfl ?_
      refine v_get F (id_S hd (by decide)) (heS hd) rfl uw_X5 10 (by decide) rfl rfl wf_X5_3 dX5_comeDown_90 ?_
      refine v_getN F (id_Q 0 (by decide)) (heO h2d) rfl uw_X6 7 (by decide) rfl rfl wf_X5_60 dX5_comeDown_93 ?_
      refine v_iload_n F dX5_comeDown_96 rfl 3 rfl ?_
      refine v_iald F (id_Q 5 (by decide)) (heO h2d) rfl (k) (Ix_nI hk) dX5_comeDown_97 ?_
      refine v_iconst F (v := 2) dX5_comeDown_98 (by decide) ?_
      refine v_icmp_ne F (tgt := 106) dX5_comeDown_99 (by decide) (fun c99 => ?_) (fun c99 => ?_)
      · have := c99
        refine v_iconst F (v := 0) dX5_comeDown_106 (by decide) ?_
        refine v_iastC F (id_S hd (by decide)) (celD_S hd) rfl (k) (Ix_nI hk) (celD_S hd) dX5_comeDown_107 ?_
        refine v_aload_n F dX5_comeDown_108 rfl 2 rfl ?_
        refine v_get F (id_S hd (by decide)) (heS hd) rfl uw_X5 10 (by decide) rfl rfl wf_X5_3 dX5_comeDown_109 ?_
        refine v_getN F (id_Q 0 (by decide)) (heO h2d) rfl uw_X6 7 (by decide) rfl rfl wf_X5_60 dX5_comeDown_112 ?_
        refine v_iload_n F dX5_comeDown_115 rfl 3 rfl ?_
        refine v_iald F (id_Q 5 (by decide)) (heO h2d) rfl (k) (Ix_nI hk) dX5_comeDown_116 ?_
        refine v_iconst F (v := 1) dX5_comeDown_117 (by decide) ?_
        refine v_icmp_ne F (tgt := 131) dX5_comeDown_118 (by decide) (fun c118 => ?_) (fun c118 => ?_)
        · have := c118
          refine v_vret F hr dX5_comeDown_131 ?_ rfl
          rw [hg]
          first | exact absurd (c99.symm.trans c118) (by decide) | (simp [gMiss, u3_eq, c99, c118]; done)
        · have := c118
          refine v_aload_n F dX5_comeDown_121 rfl 2 rfl ?_
          refine v_get F (id_S hd (by decide)) (heS hd) rfl uw_X5 1 (by decide) rfl rfl wf_X5_15 dX5_comeDown_122 ?_
          refine v_iload_n F dX5_comeDown_125 rfl 1 rfl ?_
          refine v_dup2_11 F dX5_comeDown_126 rfl rfl ?_
          refine v_iald F (id_S hd (by decide)) (heS hd) rfl (i) (Ix_nI hi) dX5_comeDown_127 ?_
          refine v_iconst F (v := 1) dX5_comeDown_128 (by decide) ?_
          refine v_iadd F dX5_comeDown_129 ?_
          refine v_iastC F (id_S hd (by decide)) (celD_S hd) rfl (i) (Ix_nI hi) (celD_S hd) dX5_comeDown_130 ?_
          refine v_vret F hr dX5_comeDown_131 ?_ rfl
          rw [hg]
          first | exact absurd (c99.symm.trans c118) (by decide) | (simp [gMiss, u3_eq, c99, c118]; done)
      · have := c99
        refine v_iconst F (v := 3) dX5_comeDown_102 (by decide) ?_
        refine v_goto F (tgt := 107) dX5_comeDown_103 (by decide) ?_
        refine v_iastC F (id_S hd (by decide)) (celD_S hd) rfl (k) (Ix_nI hk) (celD_S hd) dX5_comeDown_107 ?_
        refine v_aload_n F dX5_comeDown_108 rfl 2 rfl ?_
        refine v_get F (id_S hd (by decide)) (heS hd) rfl uw_X5 10 (by decide) rfl rfl wf_X5_3 dX5_comeDown_109 ?_
        refine v_getN F (id_Q 0 (by decide)) (heO h2d) rfl uw_X6 7 (by decide) rfl rfl wf_X5_60 dX5_comeDown_112 ?_
        refine v_iload_n F dX5_comeDown_115 rfl 3 rfl ?_
        refine v_iald F (id_Q 5 (by decide)) (heO h2d) rfl (k) (Ix_nI hk) dX5_comeDown_116 ?_
        refine v_iconst F (v := 1) dX5_comeDown_117 (by decide) ?_
        refine v_icmp_ne F (tgt := 131) dX5_comeDown_118 (by decide) (fun c118 => ?_) (fun c118 => ?_)
        · have := c118
          refine v_vret F hr dX5_comeDown_131 ?_ rfl
          rw [hg]
          first | exact absurd (c99.symm.trans c118) (by decide) | (simp [gMiss, u3_eq, c99, c118]; done)
        · have := c118
          refine v_aload_n F dX5_comeDown_121 rfl 2 rfl ?_
          refine v_get F (id_S hd (by decide)) (heS hd) rfl uw_X5 1 (by decide) rfl rfl wf_X5_15 dX5_comeDown_122 ?_
          refine v_iload_n F dX5_comeDown_125 rfl 1 rfl ?_
          refine v_dup2_11 F dX5_comeDown_126 rfl rfl ?_
          refine v_iald F (id_S hd (by decide)) (heS hd) rfl (i) (Ix_nI hi) dX5_comeDown_127 ?_
          refine v_iconst F (v := 1) dX5_comeDown_128 (by decide) ?_
          refine v_iadd F dX5_comeDown_129 ?_
          refine v_iastC F (id_S hd (by decide)) (celD_S hd) rfl (i) (Ix_nI hi) (celD_S hd) dX5_comeDown_130 ?_
          refine v_vret F hr dX5_comeDown_131 ?_ rfl
          rw [hg]
          first | exact absurd (c99.symm.trans c118) (by decide) | (simp [gMiss, u3_eq, c99, c118]; done)
    · have := c44
      have hg : gDown τ (M 2) k i (b % 2) = gCatch τ k i (b % 2) := if_pos ⟨c24, c44⟩
      refine v_aload_n F dX5_comeDown_47 rfl 2 rfl ?_
      refine v_get F (id_S hd (by decide)) (heS hd) rfl uw_X5 3 (by decide) rfl rfl wf_X5_22 dX5_comeDown_48 ?_
      refine v_iload_n F dX5_comeDown_51 rfl 0 rfl ?_
      refine v_iload_n F dX5_comeDown_52 rfl 3 rfl ?_
      refine v_iconst F (v := 1) dX5_comeDown_53 (by decide) ?_
      refine v_iadd F dX5_comeDown_54 ?_
      refine v_iastC F (id_S hd (by decide)) (celD_S hd) rfl (2 * i + b % 2) (Ix_nI (by omega)) (celD_S hd) dX5_comeDown_55 ?_
      refine v_aload_n F dX5_comeDown_56 rfl 2 rfl ?_
      refine v_get F (id_S hd (by decide)) (heS hd) rfl uw_X5 4 (by decide) rfl rfl wf_X5_25 dX5_comeDown_57 ?_
      refine v_iload_n F dX5_comeDown_60 rfl 3 rfl ?_
      refine v_iconst F (v := 1) dX5_comeDown_61 (by decide) ?_
      refine v_iastC F (id_S hd (by decide)) (celD_S hd) rfl (k) (Ix_nI hk) (celD_S hd) dX5_comeDown_62 ?_
      refine v_aload_n F dX5_comeDown_63 rfl 2 rfl ?_
      refine v_get F (id_S hd (by decide)) (heS hd) rfl uw_X5 2 (by decide) rfl rfl wf_X5_19 dX5_comeDown_64 ?_
      refine v_iload_n F dX5_comeDown_67 rfl 1 rfl ?_
      refine v_dup2_11 F dX5_comeDown_68 rfl rfl ?_
      refine v_iald F (id_S hd (by decide)) (heS hd) rfl (i) (Ix_nI hi) dX5_comeDown_69 ?_
      refine v_iconst F (v := 1) dX5_comeDown_70 (by decide) ?_
      refine v_iadd F dX5_comeDown_71 ?_
      refine v_iastC F (id_S hd (by decide)) (celD_S hd) rfl (i) (Ix_nI hi) (celD_S hd) dX5_comeDown_72 ?_
      refine v_vret F hr dX5_comeDown_73 ?_ rfl
      rw [hg]
      simp [gCatch, u3_eq]
abbrev rm_X5_throwFrom : Room := { frames := 1, cells := 0, slots := 0, locals := 21 }
set_option maxHeartbeats 4000000 in
set_option maxRecDepth 100000 in
theorem c_X5_throwFrom {X : Cx} {l : Launch} (G : Gx X l) {M : Mem} {lf : Lf} {d : Nat} (hd : d = 3 ∨ d = 4) {τ : Sg} {j b n : Nat} (hj : j < 4) (hb : b < 2 ^ 31) (hbt : τ 0 0 0 = nI b) (h1 : 1 ≤ n) (h8 : n ≤ 8) (hn : M 2 2 0 j = nI n) (hH : τ 3 0 (2 * j + b % 2) = 0 ∨ ∃ k, k < 12 ∧ τ 3 0 (2 * j + b % 2) = nI (k + 1)) : CV X l yX5_throwFrom (wsc yX5_throwFrom cX5_throwFrom 5 none) rm_X5_throwFrom [.ref (X.2.1 d 0 0), .int (nI j)] (uC M d τ) lf (uC M d (gThrow τ (M 2) j b n)) lf 0 0 := by
  refine CV_of (lv := [(0, .ref _), (1, .int _)]) G (by decide) (Nat.le_of_ble_eq_true rfl) rfl (fun p e s m args below meth c F hr => ?_)
  have F : Fx p l s m args meth c cX5_throwFrom 5 RX5 X := F
  have hh : b % 2 < 2 := Nat.mod_lt b (by decide)
  have hm : b % n < n := Nat.mod_lt b h1
  have h2d : 2 ≠ d := by omega
  refine v_iconst F (v := nI 2) dX5_throwFrom_0 (by decide) ?_
  refine v_iload_n F dX5_throwFrom_1 rfl 1 rfl ?_
  refine v_imul F dX5_throwFrom_2 ?_
  refine v_aload_n F dX5_throwFrom_3 rfl 0 rfl ?_
  refine v_get F (id_S hd (by decide)) (heS hd) rfl uw_X5 0 (by decide) rfl rfl wf_X5_49 dX5_throwFrom_4 ?_
  refine v_topr (nI b) hbt ?_
  refine v_iconst F (v := nI 2) dX5_throwFrom_7 (by decide) ?_
  refine v_irem F dX5_throwFrom_8 (by decide) ?_
  refine v_topr (nI (b % 2)) (pk_rem hb (by decide) (by decide)) ?_
  refine v_iadd F dX5_throwFrom_9 ?_
  refine v_topr (nI (2 * j + b % 2)) (by rw [pk_mul, nI_add]) ?_
  refine v_istore_n F dX5_throwFrom_10 rfl (by decide) (lv' := [(2, .int _), (0, .ref _), (1, .int _)]) rfl ?_
  refine v_bipush F (v := nI 8) dX5_throwFrom_11 (by decide) ?_
  refine v_iload_n F dX5_throwFrom_13 rfl 2 rfl ?_
  refine v_imul F dX5_throwFrom_14 ?_
  refine v_aload_n F dX5_throwFrom_15 rfl 1 rfl ?_
  refine v_get F (id_S hd (by decide)) (heS hd) rfl uw_X5 0 (by decide) rfl rfl wf_X5_49 dX5_throwFrom_16 ?_
  refine v_topr (nI b) hbt ?_
  refine v_aload_n F dX5_throwFrom_19 rfl 1 rfl ?_
  refine v_get F (id_S hd (by decide)) (heS hd) rfl uw_X5 10 (by decide) rfl rfl wf_X5_3 dX5_throwFrom_20 ?_
  refine v_getN F (id_Q 0 (by decide)) (heO h2d) rfl uw_X6 4 (by decide) rfl rfl wf_X5_63 dX5_throwFrom_23 ?_
  refine v_iload_n F dX5_throwFrom_26 rfl 2 rfl ?_
  refine v_iald F (id_Q 2 (by decide)) (heO h2d) rfl (j) (Ix_nI hj) dX5_throwFrom_27 ?_
  refine v_topr (nI n) hn ?_
  refine v_irem F dX5_throwFrom_28 (nI_ne0 (by omega) (by omega)) ?_
  refine v_topr (nI (b % n)) (pk_rem hb (by omega) (by omega)) ?_
  refine v_iadd F dX5_throwFrom_29 ?_
  refine v_topr (nI (8 * j + b % n)) (by rw [pk_mul, nI_add]) ?_
  refine v_istore_n F dX5_throwFrom_30 rfl (by decide) (lv' := [(3, .int _), (2, .int _), (0, .ref _), (1, .int _)]) rfl ?_
  refine v_aload_n F dX5_throwFrom_31 rfl 2 rfl ?_
  refine v_get F (id_S hd (by decide)) (heS hd) rfl uw_X5 3 (by decide) rfl rfl wf_X5_22 dX5_throwFrom_32 ?_
  refine v_iload_n F dX5_throwFrom_35 rfl 1 rfl ?_
  refine v_iald F (id_S hd (by decide)) (heS hd) rfl (2 * j + b % 2) (Ix_nI (by omega)) dX5_throwFrom_36 ?_
  refine v_if_eq F (tgt := 52) dX5_throwFrom_37 (by decide) (fun c37 => ?_) (fun c37 => ?_)
  · have := c37
    refine v_vret F hr dX5_throwFrom_52 ?_ rfl
    first | (rw [gThrow, if_pos (Or.inl c37)]; done) | (rw [gThrow, if_pos (Or.inr c49)]; done)
  · have := c37
    obtain ⟨k, hk1, hk2⟩ := hH.resolve_left c37
    refine v_aload_n F dX5_throwFrom_40 rfl 2 rfl ?_
    refine v_get F (id_S hd (by decide)) (heS hd) rfl uw_X5 10 (by decide) rfl rfl wf_X5_3 dX5_throwFrom_41 ?_
    refine v_getN F (id_Q 0 (by decide)) (heO h2d) rfl uw_X6 5 (by decide) rfl rfl wf_X5_66 dX5_throwFrom_44 ?_
    refine v_iload_n F dX5_throwFrom_47 rfl 0 rfl ?_
    refine v_iald F (id_Q 3 (by decide)) (heO h2d) rfl (8 * j + b % n) (Ix_nI (by omega)) dX5_throwFrom_48 ?_
    refine v_if_ne F (tgt := 53) dX5_throwFrom_49 (by decide) (fun c49 => ?_) (fun c49 => ?_)
    · have := c49
      refine v_aload_n F dX5_throwFrom_53 rfl 2 rfl ?_
      refine v_get F (id_S hd (by decide)) (heS hd) rfl uw_X5 3 (by decide) rfl rfl wf_X5_22 dX5_throwFrom_54 ?_
      refine v_iload_n F dX5_throwFrom_57 rfl 1 rfl ?_
      refine v_iald F (id_S hd (by decide)) (heS hd) rfl (2 * j + b % 2) (Ix_nI (by omega)) dX5_throwFrom_58 ?_
      refine v_topr (nI (k + 1)) hk2 ?_
      refine v_iconst F (v := 1) dX5_throwFrom_59 (by decide) ?_
      refine v_isub F dX5_throwFrom_60 ?_
      refine v_topr (nI k) (nI_pred k) ?_
      refine v_istore F dX5_throwFrom_61 (by decide) (lv' := [(4, .int _), (3, .int _), (2, .int _), (0, .ref _), (1, .int _)]) rfl ?_
      refine v_aload_n F dX5_throwFrom_63 rfl 3 rfl ?_
      refine v_get F (id_S hd (by decide)) (heS hd) rfl uw_X5 3 (by decide) rfl rfl wf_X5_22 dX5_throwFrom_64 ?_
      refine v_iload_n F dX5_throwFrom_67 rfl 2 rfl ?_
      refine v_iconst F (v := 0) dX5_throwFrom_68 (by decide) ?_
      refine v_iastC F (id_S hd (by decide)) (celD_S hd) rfl (2 * j + b % 2) (Ix_nI (by omega)) (celD_S hd) dX5_throwFrom_69 ?_
      refine v_aload_n F dX5_throwFrom_70 rfl 3 rfl ?_
      refine v_get F (id_S hd (by decide)) (heS hd) rfl uw_X5 4 (by decide) rfl rfl wf_X5_25 dX5_throwFrom_71 ?_
      refine v_iload F dX5_throwFrom_74 0 rfl ?_
      refine v_iconst F (v := 2) dX5_throwFrom_76 (by decide) ?_
      refine v_iastC F (id_S hd (by decide)) (celD_S hd) rfl (k) (Ix_nI hk1) (celD_S hd) dX5_throwFrom_77 ?_
      refine v_aload_n F dX5_throwFrom_78 rfl 3 rfl ?_
      refine v_get F (id_S hd (by decide)) (heS hd) rfl uw_X5 5 (by decide) rfl rfl wf_X5_28 dX5_throwFrom_79 ?_
      refine v_iload F dX5_throwFrom_82 0 rfl ?_
      refine v_aload_n F dX5_throwFrom_84 rfl 3 rfl ?_
      refine v_get F (id_S hd (by decide)) (heS hd) rfl uw_X5 10 (by decide) rfl rfl wf_X5_3 dX5_throwFrom_85 ?_
      refine v_getN F (id_Q 0 (by decide)) (heO h2d) rfl uw_X6 6 (by decide) rfl rfl wf_X5_69 dX5_throwFrom_88 ?_
      refine v_iload_n F dX5_throwFrom_91 rfl 1 rfl ?_
      refine v_iald F (id_Q 4 (by decide)) (heO h2d) rfl (8 * j + b % n) (Ix_nI (by omega)) dX5_throwFrom_92 ?_
      refine v_iastC F (id_S hd (by decide)) (celD_S hd) rfl (k) (Ix_nI hk1) (celD_S hd) dX5_throwFrom_93 ?_
      refine v_aload_n F dX5_throwFrom_94 rfl 3 rfl ?_
      refine v_get F (id_S hd (by decide)) (heS hd) rfl uw_X5 7 (by decide) rfl rfl wf_X5_34 dX5_throwFrom_95 ?_
      refine v_iload F dX5_throwFrom_98 0 rfl ?_
      refine v_aload_n F dX5_throwFrom_100 rfl 3 rfl ?_
      refine v_get F (id_S hd (by decide)) (heS hd) rfl uw_X5 10 (by decide) rfl rfl wf_X5_3 dX5_throwFrom_101 ?_
      refine v_getN F (id_Q 0 (by decide)) (heO h2d) rfl uw_X6 5 (by decide) rfl rfl wf_X5_66 dX5_throwFrom_104 ?_
      refine v_iload_n F dX5_throwFrom_107 rfl 1 rfl ?_
      refine v_iald F (id_Q 3 (by decide)) (heO h2d) rfl (8 * j + b % n) (Ix_nI (by omega)) dX5_throwFrom_108 ?_
      refine v_iastC F (id_S hd (by decide)) (celD_S hd) rfl (k) (Ix_nI hk1) (celD_S hd) dX5_throwFrom_109 ?_
      refine v_aload_n F dX5_throwFrom_110 rfl 3 rfl ?_
      refine v_get F (id_S hd (by decide)) (heS hd) rfl uw_X5 6 (by decide) rfl rfl wf_X5_31 dX5_throwFrom_111 ?_
      refine v_iload F dX5_throwFrom_114 0 rfl ?_
      refine v_aload_n F dX5_throwFrom_116 rfl 3 rfl ?_
      refine v_get F (id_S hd (by decide)) (heS hd) rfl uw_X5 0 (by decide) rfl rfl wf_X5_49 dX5_throwFrom_117 ?_
      refine v_topr (nI b) (by simpa [u3_eq] using hbt) ?_
      refine v_aload_n F dX5_throwFrom_120 rfl 3 rfl ?_
      refine v_get F (id_S hd (by decide)) (heS hd) rfl uw_X5 10 (by decide) rfl rfl wf_X5_3 dX5_throwFrom_121 ?_
      refine v_getN F (id_Q 0 (by decide)) (heO h2d) rfl uw_X6 7 (by decide) rfl rfl wf_X5_60 dX5_throwFrom_124 ?_
      refine v_iload F dX5_throwFrom_127 0 rfl ?_
      refine v_iald F (id_Q 5 (by decide)) (heO h2d) rfl (k) (Ix_nI hk1) dX5_throwFrom_129 ?_
      refine v_aload_n F dX5_throwFrom_130 rfl 3 rfl ?_
      refine v_get F (id_S hd (by decide)) (heS hd) rfl uw_X5 10 (by decide) rfl rfl wf_X5_3 dX5_throwFrom_131 ?_
      refine v_getN F (id_Q 0 (by decide)) (heO h2d) rfl uw_X6 5 (by decide) rfl rfl wf_X5_66 dX5_throwFrom_134 ?_
      refine v_iload_n F dX5_throwFrom_137 rfl 1 rfl ?_
      refine v_iald F (id_Q 3 (by decide)) (heO h2d) rfl (8 * j + b % n) (Ix_nI (by omega)) dX5_throwFrom_138 ?_
      refine v_callTi F (As := [_, _]) (rest := [.int _, .int _, .ref _]) rfl (c_X6_beatsOf G _ _) wm_X5_72 rfl ⟨rfl, rfl, Nat.le_of_ble_eq_true rfl, Nat.le_of_ble_eq_true rfl, Nat.le_of_ble_eq_true rfl, Nat.le_of_ble_eq_true rfl, Nat.le_of_ble_eq_true rfl⟩ dX5_throwFrom_139 ?_
      refine v_iadd F dX5_throwFrom_142 ?_
      refine v_iastC F (id_S hd (by decide)) (celD_S hd) rfl (k) (Ix_nI hk1) (celD_S hd) dX5_throwFrom_143 ?_
      refine v_aload_n F dX5_throwFrom_144 rfl 3 rfl ?_
      refine v_get F (id_S hd (by decide)) (heS hd) rfl uw_X5 8 (by decide) rfl rfl wf_X5_37 dX5_throwFrom_145 ?_
      refine v_iload F dX5_throwFrom_148 0 rfl ?_
      refine v_dup2_11 F dX5_throwFrom_150 rfl rfl ?_
      refine v_iald F (id_S hd (by decide)) (heS hd) rfl (k) (Ix_nI hk1) dX5_throwFrom_151 ?_
      refine v_iconst F (v := 1) dX5_throwFrom_152 (by decide) ?_
      refine v_iadd F dX5_throwFrom_153 ?_
      refine v_iastC F (id_S hd (by decide)) (celD_S hd) rfl (k) (Ix_nI hk1) (celD_S hd) dX5_throwFrom_154 ?_
      refine v_vret F hr dX5_throwFrom_155 ?_ rfl
      have e3 : nI (k + 1) - 1 = nI k := nI_pred k
      rw [gThrow, if_neg (fun z => z.elim c37 c49), hk2, e3, nI_clamp (show k < 2 ^ 31 by omega)]
      simp [gFly, u3_eq]
    · have := c49
      refine v_vret F hr dX5_throwFrom_52 ?_ rfl
      first | (rw [gThrow, if_pos (Or.inl c37)]; done) | (rw [gThrow, if_pos (Or.inr c49)]; done)
section SG
variable {p : Program} {l : Launch} {e : Env} {R : Room} {s : State} {m : MethodId} {args : Array Value} {below : List Frame} {meth : Method} {c : Code} {Q : State → Prop} {X : Cx} {nL : Nat} {ex : va_W} {M : Mem} {lf : Lf} {cells slots : Nat}
abbrev rm_X5_go : Room := { frames := 2, cells := 0, slots := 0, locals := 45 }
set_option maxHeartbeats 4000000 in
set_option maxRecDepth 100000 in
theorem L1_X5_go (F : Fx p l s m args meth c cX5_go 2 RX5 X) (G : Gx X l) {d : Nat} (hd : d = 3 ∨ d = 4) {σ : Sg} {jc tc b : Nat} {ln : Nat → Nat} {τ0 : Sg} (S : St σ (M 2) jc tc ln) (D : Dy σ τ0 jc tc b) (hb : b < 2 ^ 31) (K : V p l e rm_X5_go s m args below meth c Q X 2 ex (uC M d (gdL (M 2) b τ0 tc)) lf 0 0 47 [(1, .int (nI tc)), (0, .ref (X.2.1 d 0 0))] []) : ∀ (k q : Nat) (τ : Sg), k + q = tc → τ = gdL (M 2) b τ0 q → V p l e rm_X5_go s m args below meth c Q X 2 ex (uC M d τ) lf 0 0 2 [(1, .int (nI q)), (0, .ref (X.2.1 d 0 0))] [] := by
  have h12 := S.1.2.1
  have h4 := S.1.1
  have h2d : 2 ≠ d := by omega
  intro k
  induction k with
  | zero =>
    intro q τ hq hτ
    obtain rfl : q = tc := by omega
    refine v_iload_n F dX5_go_2 rfl 0 rfl ?_
    refine v_aload_n F dX5_go_3 rfl 1 rfl ?_
    refine v_get F (id_S hd (by decide)) (heS hd) rfl uw_X5 10 (by decide) rfl rfl wf_X5_3 dX5_go_4 ?_
    refine v_getN F (id_Q 0 (by decide)) (heO h2d) rfl uw_X6 2 (by decide) rfl rfl wf_X5_76 dX5_go_7 ?_
    refine v_topr (nI q) S.2.2.1 ?_
    refine v_icmp_ge F (tgt := 47) dX5_go_10 (by decide) (fun c10 => ?_) (fun h => absurd (nI_le (Nat.le_refl _) (by omega)) h)
    subst hτ
    exact K
  | succ k ih =>
    intro q τ hq hτ
    have hD : Dy (dnL (b % 2) σ q) τ jc tc b := by rw [hτ]; exact (Dy_dn S D q (by omega)).1
    refine v_iload_n F dX5_go_2 rfl 0 rfl ?_
    refine v_aload_n F dX5_go_3 rfl 1 rfl ?_
    refine v_get F (id_S hd (by decide)) (heS hd) rfl uw_X5 10 (by decide) rfl rfl wf_X5_3 dX5_go_4 ?_
    refine v_getN F (id_Q 0 (by decide)) (heO h2d) rfl uw_X6 2 (by decide) rfl rfl wf_X5_76 dX5_go_7 ?_
    refine v_topr (nI tc) S.2.2.1 ?_
    refine v_icmp_ge F (tgt := 47) dX5_go_10 (by decide) (fun h => absurd h (nI_ge (by omega) (by omega))) (fun c10 => ?_)
    refine v_aload_n F dX5_go_13 rfl 1 rfl ?_
    refine v_get F (id_S hd (by decide)) (heS hd) rfl uw_X5 4 (by decide) rfl rfl wf_X5_25 dX5_go_14 ?_
    refine v_iload_n F dX5_go_17 rfl 0 rfl ?_
    refine v_iald F (id_S hd (by decide)) (heS hd) rfl (q) (Ix_nI (by omega)) dX5_go_18 ?_
    refine v_iconst F (v := 2) dX5_go_19 (by decide) ?_
    refine v_icmp_ne F (tgt := 41) dX5_go_20 (by decide) (fun c20 => ?_) (fun c20 => ?_)
    · have := c20
      refine v_iinc F (k := 0) (nI (q + 1)) dX5_go_41 rfl (iinc_nI q) (by decide) (lv' := [(1, .int _), (0, .ref _)]) rfl ?_
      refine v_goto F (tgt := 2) dX5_go_44 (by decide) ?_
      refine ih (q + 1) _ (by omega) ?_
      show _ = gDn1 (gdL (M 2) b τ0 q) (M 2) q b
      rw [← hτ, gDn1]
      first | (rw [if_neg (fun z => c20 z.1)]; done) | (rw [if_neg (fun z => c33 z.2)]; done) | (rw [if_pos ⟨c20, c33⟩, hw, nI_clamp (show i < 2 ^ 31 by omega)]; done)
    · have := c20
      refine v_aload_n F dX5_go_23 rfl 1 rfl ?_
      refine v_get F (id_S hd (by decide)) (heS hd) rfl uw_X5 6 (by decide) rfl rfl wf_X5_31 dX5_go_24 ?_
      refine v_iload_n F dX5_go_27 rfl 0 rfl ?_
      refine v_iald F (id_S hd (by decide)) (heS hd) rfl (q) (Ix_nI (by omega)) dX5_go_28 ?_
      refine v_aload_n F dX5_go_29 rfl 1 rfl ?_
      refine v_get F (id_S hd (by decide)) (heS hd) rfl uw_X5 0 (by decide) rfl rfl wf_X5_49 dX5_go_30 ?_
      refine v_topr (nI b) hD.2.1 ?_
      refine v_icmp_ne F (tgt := 41) dX5_go_33 (by decide) (fun c33 => ?_) (fun c33 => ?_)
      · have := c33
        refine v_iinc F (k := 0) (nI (q + 1)) dX5_go_41 rfl (iinc_nI q) (by decide) (lv' := [(1, .int _), (0, .ref _)]) rfl ?_
        refine v_goto F (tgt := 2) dX5_go_44 (by decide) ?_
        refine ih (q + 1) _ (by omega) ?_
        show _ = gDn1 (gdL (M 2) b τ0 q) (M 2) q b
        rw [← hτ, gDn1]
        first | (rw [if_neg (fun z => c20 z.1)]; done) | (rw [if_neg (fun z => c33 z.2)]; done) | (rw [if_pos ⟨c20, c33⟩, hw, nI_clamp (show i < 2 ^ 31 by omega)]; done)
      · have := c33
        obtain ⟨i, hi, hw⟩ := Dy_air hD (show q < tc by omega) c20
        refine v_aload_n F dX5_go_36 rfl 1 rfl ?_
        refine v_iload_n F dX5_go_37 rfl 0 rfl ?_
        refine v_callVv F (As := [_]) (rest := []) rfl (c_X5_comeDown G hd (show q < 12 by omega) (show i < 4 by omega) hw hb hD.2.1) (Rv_S hd) wm_X5_79 rfl ⟨rfl, rfl, Nat.le_of_ble_eq_true rfl, Nat.le_of_ble_eq_true rfl, Nat.le_of_ble_eq_true rfl, Nat.le_of_ble_eq_true rfl, Nat.le_of_ble_eq_true rfl⟩ dX5_go_38 ?_
        refine v_iinc F (k := 0) (nI (q + 1)) dX5_go_41 rfl (iinc_nI q) (by decide) (lv' := [(1, .int _), (0, .ref _)]) rfl ?_
        refine v_goto F (tgt := 2) dX5_go_44 (by decide) ?_
        refine ih (q + 1) _ (by omega) ?_
        show _ = gDn1 (gdL (M 2) b τ0 q) (M 2) q b
        rw [← hτ, gDn1]
        first | (rw [if_neg (fun z => c20 z.1)]; done) | (rw [if_neg (fun z => c33 z.2)]; done) | (rw [if_pos ⟨c20, c33⟩, hw, nI_clamp (show i < 2 ^ 31 by omega)]; done)
set_option maxHeartbeats 4000000 in
set_option maxRecDepth 100000 in
theorem L2_X5_go (F : Fx p l s m args meth c cX5_go 2 RX5 X) (G : Gx X l) {d : Nat} (hd : d = 3 ∨ d = 4) {σ : Sg} {jc tc b : Nat} {ln : Nat → Nat} {τ0 : Sg} (S : St σ (M 2) jc tc ln) (D : Dy σ τ0 jc tc b) (hb : b < 2 ^ 31) (K : V p l e rm_X5_go s m args below meth c Q X 2 ex (uC M d (gtL (M 2) b ln τ0 jc)) lf 0 0 71 [(1, .int (nI jc)), (0, .ref (X.2.1 d 0 0))] []) : ∀ (k q : Nat) (τ : Sg), k + q = jc → τ = gtL (M 2) b ln τ0 q → V p l e rm_X5_go s m args below meth c Q X 2 ex (uC M d τ) lf 0 0 49 [(1, .int (nI q)), (0, .ref (X.2.1 d 0 0))] [] := by
  have h12 := S.1.2.1
  have h4 := S.1.1
  have h2d : 2 ≠ d := by omega
  intro k
  induction k with
  | zero =>
    intro q τ hq hτ
    obtain rfl : q = jc := by omega
    refine v_iload_n F dX5_go_49 rfl 0 rfl ?_
    refine v_aload_n F dX5_go_50 rfl 1 rfl ?_
    refine v_get F (id_S hd (by decide)) (heS hd) rfl uw_X5 10 (by decide) rfl rfl wf_X5_3 dX5_go_51 ?_
    refine v_getN F (id_Q 0 (by decide)) (heO h2d) rfl uw_X6 1 (by decide) rfl rfl wf_X5_83 dX5_go_54 ?_
    refine v_topr (nI q) S.2.1 ?_
    refine v_icmp_ge F (tgt := 71) dX5_go_57 (by decide) (fun c57 => ?_) (fun h => absurd (nI_le (Nat.le_refl _) (by omega)) h)
    subst hτ
    exact K
  | succ k ih =>
    intro q τ hq hτ
    have hD : Dy (thL b ln σ q) τ jc tc b := by rw [hτ]; exact (Dy_th S D q (by omega)).1
    have hl := S.1.2.2.2.2 q (by omega)
    refine v_iload_n F dX5_go_49 rfl 0 rfl ?_
    refine v_aload_n F dX5_go_50 rfl 1 rfl ?_
    refine v_get F (id_S hd (by decide)) (heS hd) rfl uw_X5 10 (by decide) rfl rfl wf_X5_3 dX5_go_51 ?_
    refine v_getN F (id_Q 0 (by decide)) (heO h2d) rfl uw_X6 1 (by decide) rfl rfl wf_X5_83 dX5_go_54 ?_
    refine v_topr (nI jc) S.2.1 ?_
    refine v_icmp_ge F (tgt := 71) dX5_go_57 (by decide) (fun h => absurd h (nI_ge (by omega) (by omega))) (fun c57 => ?_)
    refine v_aload_n F dX5_go_60 rfl 1 rfl ?_
    refine v_iload_n F dX5_go_61 rfl 0 rfl ?_
    refine v_callVv F (As := [_]) (rest := []) rfl (c_X5_throwFrom G hd (show q < 4 by omega) hb hD.2.1 hl.1 hl.2.1 (S.2.2.2.1 q (by omega)).2.1 (Dy_hold hD h12 (show q < jc by omega) (Nat.mod_lt b (by decide)))) (Rv_S hd) wm_X5_86 rfl ⟨rfl, rfl, Nat.le_of_ble_eq_true rfl, Nat.le_of_ble_eq_true rfl, Nat.le_of_ble_eq_true rfl, Nat.le_of_ble_eq_true rfl, Nat.le_of_ble_eq_true rfl⟩ dX5_go_62 ?_
    refine v_iinc F (k := 0) (nI (q + 1)) dX5_go_65 rfl (iinc_nI q) (by decide) (lv' := [(1, .int _), (0, .ref _)]) rfl ?_
    refine v_goto F (tgt := 49) dX5_go_68 (by decide) ?_
    refine ih (q + 1) _ (by omega) ?_
    show _ = gThrow (gtL (M 2) b ln τ0 q) (M 2) q b (ln q)
    rw [hτ]
set_option maxHeartbeats 4000000 in
set_option maxRecDepth 100000 in
theorem c_X5_go {X : Cx} {l : Launch} (G : Gx X l) {M : Mem} {lf : Lf} {d : Nat} (hd : d = 3 ∨ d = 4) {σ τ : Sg} {jc tc b : Nat} {ln : Nat → Nat} (C : Cp σ (M 2) τ jc tc b ln) (hb : b < 2 ^ 31) : CV X l yX5_go (wsc yX5_go cX5_go 2 none) rm_X5_go [.ref (X.2.1 d 0 0)] (uC M d τ) lf (uC M d (gBeat τ (M 2) b jc tc ln)) lf 0 0 := by
  refine CV_of (lv := [(0, .ref _)]) G (by decide) (Nat.le_of_ble_eq_true rfl) rfl (fun p e s m args below meth c F hr => ?_)
  have F : Fx p l s m args meth c cX5_go 2 RX5 X := F
  refine v_iconst F (v := nI 0) dX5_go_0 (by decide) ?_
  refine v_istore_n F dX5_go_1 rfl (by decide) (lv' := [(1, .int _), (0, .ref _)]) rfl ?_
  refine L1_X5_go F G hd C.1 C.2 hb ?_ tc 0 _ (Nat.add_zero tc) rfl
  · skip
    refine v_iconst F (v := nI 0) dX5_go_47 (by decide) ?_
    refine v_istore_n F dX5_go_48 rfl (by decide) (lv' := [(1, .int _), (0, .ref _)]) rfl ?_
    refine L2_X5_go F G hd (St_dn (hd := b % 2) (n := tc) C.1) (Dy_dn C.1 C.2 tc (Nat.le_refl tc)).1 hb ?_ jc 0 _ (Nat.add_zero jc) rfl
    · skip
      have D2 := (Dy_th (St_dn (hd := b % 2) (n := tc) C.1) (Dy_dn C.1 C.2 tc (Nat.le_refl tc)).1 jc (Nat.le_refl jc)).1
      refine v_aload_n F dX5_go_71 rfl 1 rfl ?_
      refine v_dup F dX5_go_72 rfl ?_
      refine v_get F (id_S hd (by decide)) (heS hd) rfl uw_X5 0 (by decide) rfl rfl wf_X5_49 dX5_go_73 ?_
      refine v_topr (nI b) D2.2.1 ?_
      refine v_iconst F (v := 1) dX5_go_76 (by decide) ?_
      refine v_iadd F dX5_go_77 ?_
      refine v_topr (nI (b + 1)) (nI_succ b).symm ?_
      refine v_putC F tyX5 tyX5_ok nmX5 (id_S hd (by decide)) (celD_S hd) rfl uw_X5 0 (by decide) rfl rfl (by decide +kernel) (celD_S hd) (Nat.le_of_ble_eq_true rfl) wf_X5_49 dX5_go_78 ?_
      exact v_vret F hr dX5_go_81 rfl rfl
abbrev rm_X5_are : Room := { frames := 0, cells := 0, slots := 0, locals := 0 }
set_option maxHeartbeats 4000000 in
set_option maxRecDepth 100000 in
theorem L_X5_are (F : Fx p l s m args meth c cX5_are 4 RX5 X) {d : Nat} (hd : d = 3 ∨ d = 4) {tc : Nat} (h12 : tc ≤ 12) (hT : M 2 0 0 2 = nI tc) {x : Int32} (K : V p l e R s m args below meth c Q X 4 ex (M) lf cells slots 39 [(3, .int (nI tc)), (2, .int (cI (fun k => decide (M d 4 0 k = x)) tc)), (0, .ref (X.2.1 d 0 0)), (1, .int x)] []) : ∀ (k q : Nat), k + q = tc → V p l e R s m args below meth c Q X 4 ex (M) lf cells slots 4 [(3, .int (nI q)), (2, .int (cI (fun k => decide (M d 4 0 k = x)) q)), (0, .ref (X.2.1 d 0 0)), (1, .int x)] [] := by
  intro k
  induction k with
  | zero =>
    intro q hq
    obtain rfl : q = tc := by omega
    refine v_iload_n F dX5_are_4 rfl 0 rfl ?_
    refine v_aload_n F dX5_are_5 rfl 2 rfl ?_
    refine v_get F (id_S hd (by decide)) (celD_S hd) rfl uw_X5 10 (by decide) rfl rfl wf_X5_3 dX5_are_6 ?_
    refine v_getN F (id_Q 0 (by decide)) rfl rfl uw_X6 2 (by decide) rfl rfl wf_X5_76 dX5_are_9 ?_
    refine v_topr (nI q) hT ?_
    refine v_icmp_ge F (tgt := 39) dX5_are_12 (by decide) (fun c12 => ?_) (fun h => absurd (nI_le (Nat.le_refl _) (by omega)) h)
    exact K
  | succ k ih =>
    intro q hq
    refine v_iload_n F dX5_are_4 rfl 0 rfl ?_
    refine v_aload_n F dX5_are_5 rfl 2 rfl ?_
    refine v_get F (id_S hd (by decide)) (celD_S hd) rfl uw_X5 10 (by decide) rfl rfl wf_X5_3 dX5_are_6 ?_
    refine v_getN F (id_Q 0 (by decide)) rfl rfl uw_X6 2 (by decide) rfl rfl wf_X5_76 dX5_are_9 ?_
    refine v_topr (nI tc) hT ?_
    refine v_icmp_ge F (tgt := 39) dX5_are_12 (by decide) (fun h => absurd h (nI_ge (by omega) (by omega))) (fun c12 => ?_)
    refine v_iload_n F dX5_are_15 rfl 1 rfl ?_
    refine v_aload_n F dX5_are_16 rfl 2 rfl ?_
    refine v_get F (id_S hd (by decide)) (celD_S hd) rfl uw_X5 4 (by decide) rfl rfl wf_X5_25 dX5_are_17 ?_
    refine v_iload_n F dX5_are_20 rfl 0 rfl ?_
    refine v_iald F (id_S hd (by decide)) (celD_S hd) rfl (q) (Ix_nI (by omega)) dX5_are_21 ?_
    refine v_iload_n F dX5_are_22 rfl 3 rfl ?_
    refine v_icmp_ne F (tgt := 30) dX5_are_23 (by decide) (fun c23 => ?_) (fun c23 => ?_)
    · have := c23
      refine v_iconst F (v := 0) dX5_are_30 (by decide) ?_
      refine v_iadd F dX5_are_31 ?_
      refine v_istore_n F dX5_are_32 rfl (by decide) (lv' := [(2, .int _), (3, .int _), (0, .ref _), (1, .int _)]) rfl ?_
      refine v_iinc F (k := 1) (nI (q + 1)) dX5_are_33 rfl (iinc_nI q) (by decide) (lv' := [(3, .int _), (2, .int _), (0, .ref _), (1, .int _)]) rfl ?_
      refine v_goto F (tgt := 4) dX5_are_36 (by decide) ?_
      refine v_eq rfl ?_ rfl (ih (q + 1) (by omega))
      simp_all [cI]
    · have := c23
      refine v_iconst F (v := 1) dX5_are_26 (by decide) ?_
      refine v_goto F (tgt := 31) dX5_are_27 (by decide) ?_
      refine v_iadd F dX5_are_31 ?_
      refine v_istore_n F dX5_are_32 rfl (by decide) (lv' := [(2, .int _), (3, .int _), (0, .ref _), (1, .int _)]) rfl ?_
      refine v_iinc F (k := 1) (nI (q + 1)) dX5_are_33 rfl (iinc_nI q) (by decide) (lv' := [(3, .int _), (2, .int _), (0, .ref _), (1, .int _)]) rfl ?_
      refine v_goto F (tgt := 4) dX5_are_36 (by decide) ?_
      refine v_eq rfl ?_ rfl (ih (q + 1) (by omega))
      simp_all [cI]
set_option maxHeartbeats 4000000 in
set_option maxRecDepth 100000 in
theorem c_X5_are {X : Cx} {l : Launch} (G : Gx X l) {M : Mem} {lf : Lf} {d : Nat} (hd : d = 3 ∨ d = 4) {tc : Nat} (h12 : tc ≤ 12) (hT : M 2 0 0 2 = nI tc) (x : Int32) : CI X l yX5_are (wsc yX5_are cX5_are 4 (some .int)) rm_X5_are [.ref (X.2.1 d 0 0), .int x] (M) lf (cI (fun k => decide (M d 4 0 k = x)) tc) (M) lf 0 0 := by
  refine CI_of (lv := [(0, .ref _), (1, .int _)]) G (by decide) (Nat.le_of_ble_eq_true rfl) rfl (fun p e s m args below meth c F hr => ?_)
  have F : Fx p l s m args meth c cX5_are 4 RX5 X := F
  refine v_iconst F (v := 0) dX5_are_0 (by decide) ?_
  refine v_istore_n F dX5_are_1 rfl (by decide) (lv' := [(2, .int _), (0, .ref _), (1, .int _)]) rfl ?_
  refine v_iconst F (v := nI 0) dX5_are_2 (by decide) ?_
  refine v_istore_n F dX5_are_3 rfl (by decide) (lv' := [(3, .int _), (2, .int _), (0, .ref _), (1, .int _)]) rfl ?_
  refine L_X5_are F hd h12 hT ?_ tc 0 (Nat.add_zero tc)
  · skip
    refine v_iload_n F dX5_are_39 rfl 1 rfl ?_
    exact v_iret F hr dX5_are_40 rfl rfl rfl
abbrev rm_X5_sum : Room := { frames := 0, cells := 0, slots := 0, locals := 0 }
set_option maxHeartbeats 4000000 in
set_option maxRecDepth 100000 in
theorem L_X5_sum_1 (F : Fx p l s m args meth c cX5_sum 7 RX5 X) {d : Nat} (hd : d = 3 ∨ d = 4) (K : V p l e R s m args below meth c Q X 7 ex (M) lf cells slots 35 [(5, .int (nI 4)), (4, .int (nI 4)), (3, .ref (X.2.1 d 1 0)), (2, .int (sI (M d 1 0) 4)), (0, .ref (X.2.1 d 0 0)), (1, .ref (X.2.1 d 1 0))] []) : ∀ (k q : Nat), k + q = 4 → V p l e R s m args below meth c Q X 7 ex (M) lf cells slots 11 [(5, .int (nI q)), (4, .int (nI 4)), (3, .ref (X.2.1 d 1 0)), (2, .int (sI (M d 1 0) q)), (0, .ref (X.2.1 d 0 0)), (1, .ref (X.2.1 d 1 0))] [] := by
  intro k
  induction k with
  | zero =>
    intro q hq
    obtain rfl : q = 4 := by omega
    refine v_iload F dX5_sum_11 0 rfl ?_
    refine v_iload F dX5_sum_13 1 rfl ?_
    refine v_icmp_ge F (tgt := 35) dX5_sum_15 (by decide) (fun c15 => ?_) (fun h => absurd (nI_le (Nat.le_refl _) (by omega)) h)
    exact K
  | succ k ih =>
    intro q hq
    refine v_iload F dX5_sum_11 0 rfl ?_
    refine v_iload F dX5_sum_13 1 rfl ?_
    refine v_icmp_ge F (tgt := 35) dX5_sum_15 (by decide) (fun h => absurd h (nI_ge (by omega) (by omega))) (fun c15 => ?_)
    refine v_aload_n F dX5_sum_18 rfl 2 rfl ?_
    refine v_iload F dX5_sum_19 0 rfl ?_
    refine v_iald F (id_S hd (by decide)) (celD_S hd) rfl (q) (Ix_nI (by omega)) dX5_sum_21 ?_
    refine v_istore F dX5_sum_22 (by decide) (lv' := [(6, .int _), (5, .int _), (4, .int _), (3, .ref _), (2, .int _), (0, .ref _), (1, .ref _)]) rfl ?_
    refine v_iload_n F dX5_sum_24 rfl 4 rfl ?_
    refine v_iload F dX5_sum_25 0 rfl ?_
    refine v_iadd F dX5_sum_27 ?_
    refine v_istore_n F dX5_sum_28 rfl (by decide) (lv' := [(2, .int _), (6, .int _), (5, .int _), (4, .int _), (3, .ref _), (0, .ref _), (1, .ref _)]) rfl ?_
    refine v_iinc F (k := 2) (nI (q + 1)) dX5_sum_29 rfl (iinc_nI q) (by decide) (lv' := [(5, .int _), (2, .int _), (6, .int _), (4, .int _), (3, .ref _), (0, .ref _), (1, .ref _)]) rfl ?_
    refine v_goto F (tgt := 11) dX5_sum_32 (by decide) ?_
    exact v_locs [0, 3, 4, 1, 5, 6] rfl (ih (q + 1) (by omega))
set_option maxHeartbeats 4000000 in
set_option maxRecDepth 100000 in
theorem c_X5_sum_1 {X : Cx} {l : Launch} (G : Gx X l) {M : Mem} {lf : Lf} {d : Nat} (hd : d = 3 ∨ d = 4)  : CI X l yX5_sum (wsc yX5_sum cX5_sum 7 (some .int)) rm_X5_sum [.ref (X.2.1 d 0 0), .ref (X.2.1 d 1 0)] (M) lf (sI (M d 1 0) 4) (M) lf 0 0 := by
  refine CI_of (lv := [(0, .ref _), (1, .ref _)]) G (by decide) (Nat.le_of_ble_eq_true rfl) rfl (fun p e s m args below meth c F hr => ?_)
  have F : Fx p l s m args meth c cX5_sum 7 RX5 X := F
  refine v_iconst F (v := 0) dX5_sum_0 (by decide) ?_
  refine v_istore_n F dX5_sum_1 rfl (by decide) (lv' := [(2, .int _), (0, .ref _), (1, .ref _)]) rfl ?_
  refine v_aload_n F dX5_sum_2 rfl 2 rfl ?_
  refine v_astore_n F dX5_sum_3 rfl (by decide) (lv' := [(3, .ref _), (2, .int _), (0, .ref _), (1, .ref _)]) rfl ?_
  refine v_aload_n F dX5_sum_4 rfl 0 rfl ?_
  refine v_alen F (t0 := 0) (id_S hd (by decide)) (celD_S hd) rfl (v := nI 4) (by decide) dX5_sum_5 ?_
  refine v_istore F dX5_sum_6 (by decide) (lv' := [(4, .int _), (3, .ref _), (2, .int _), (0, .ref _), (1, .ref _)]) rfl ?_
  refine v_iconst F (v := nI 0) dX5_sum_8 (by decide) ?_
  refine v_istore F dX5_sum_9 (by decide) (lv' := [(5, .int _), (4, .int _), (3, .ref _), (2, .int _), (0, .ref _), (1, .ref _)]) rfl ?_
  refine L_X5_sum_1 F hd ?_ 4 0 rfl
  · skip
    refine v_iload_n F dX5_sum_35 rfl 3 rfl ?_
    exact v_iret F hr dX5_sum_36 rfl rfl rfl
set_option maxHeartbeats 4000000 in
set_option maxRecDepth 100000 in
theorem L_X5_sum_8 (F : Fx p l s m args meth c cX5_sum 7 RX5 X) {d : Nat} (hd : d = 3 ∨ d = 4) (K : V p l e R s m args below meth c Q X 7 ex (M) lf cells slots 35 [(5, .int (nI 12)), (4, .int (nI 12)), (3, .ref (X.2.1 d 8 0)), (2, .int (sI (M d 8 0) 12)), (0, .ref (X.2.1 d 0 0)), (1, .ref (X.2.1 d 8 0))] []) : ∀ (k q : Nat), k + q = 12 → V p l e R s m args below meth c Q X 7 ex (M) lf cells slots 11 [(5, .int (nI q)), (4, .int (nI 12)), (3, .ref (X.2.1 d 8 0)), (2, .int (sI (M d 8 0) q)), (0, .ref (X.2.1 d 0 0)), (1, .ref (X.2.1 d 8 0))] [] := by
  intro k
  induction k with
  | zero =>
    intro q hq
    obtain rfl : q = 12 := by omega
    refine v_iload F dX5_sum_11 0 rfl ?_
    refine v_iload F dX5_sum_13 1 rfl ?_
    refine v_icmp_ge F (tgt := 35) dX5_sum_15 (by decide) (fun c15 => ?_) (fun h => absurd (nI_le (Nat.le_refl _) (by omega)) h)
    exact K
  | succ k ih =>
    intro q hq
    refine v_iload F dX5_sum_11 0 rfl ?_
    refine v_iload F dX5_sum_13 1 rfl ?_
    refine v_icmp_ge F (tgt := 35) dX5_sum_15 (by decide) (fun h => absurd h (nI_ge (by omega) (by omega))) (fun c15 => ?_)
    refine v_aload_n F dX5_sum_18 rfl 2 rfl ?_
    refine v_iload F dX5_sum_19 0 rfl ?_
    refine v_iald F (id_S hd (by decide)) (celD_S hd) rfl (q) (Ix_nI (by omega)) dX5_sum_21 ?_
    refine v_istore F dX5_sum_22 (by decide) (lv' := [(6, .int _), (5, .int _), (4, .int _), (3, .ref _), (2, .int _), (0, .ref _), (1, .ref _)]) rfl ?_
    refine v_iload_n F dX5_sum_24 rfl 4 rfl ?_
    refine v_iload F dX5_sum_25 0 rfl ?_
    refine v_iadd F dX5_sum_27 ?_
    refine v_istore_n F dX5_sum_28 rfl (by decide) (lv' := [(2, .int _), (6, .int _), (5, .int _), (4, .int _), (3, .ref _), (0, .ref _), (1, .ref _)]) rfl ?_
    refine v_iinc F (k := 2) (nI (q + 1)) dX5_sum_29 rfl (iinc_nI q) (by decide) (lv' := [(5, .int _), (2, .int _), (6, .int _), (4, .int _), (3, .ref _), (0, .ref _), (1, .ref _)]) rfl ?_
    refine v_goto F (tgt := 11) dX5_sum_32 (by decide) ?_
    exact v_locs [0, 3, 4, 1, 5, 6] rfl (ih (q + 1) (by omega))
set_option maxHeartbeats 4000000 in
set_option maxRecDepth 100000 in
theorem c_X5_sum_8 {X : Cx} {l : Launch} (G : Gx X l) {M : Mem} {lf : Lf} {d : Nat} (hd : d = 3 ∨ d = 4)  : CI X l yX5_sum (wsc yX5_sum cX5_sum 7 (some .int)) rm_X5_sum [.ref (X.2.1 d 0 0), .ref (X.2.1 d 8 0)] (M) lf (sI (M d 8 0) 12) (M) lf 0 0 := by
  refine CI_of (lv := [(0, .ref _), (1, .ref _)]) G (by decide) (Nat.le_of_ble_eq_true rfl) rfl (fun p e s m args below meth c F hr => ?_)
  have F : Fx p l s m args meth c cX5_sum 7 RX5 X := F
  refine v_iconst F (v := 0) dX5_sum_0 (by decide) ?_
  refine v_istore_n F dX5_sum_1 rfl (by decide) (lv' := [(2, .int _), (0, .ref _), (1, .ref _)]) rfl ?_
  refine v_aload_n F dX5_sum_2 rfl 2 rfl ?_
  refine v_astore_n F dX5_sum_3 rfl (by decide) (lv' := [(3, .ref _), (2, .int _), (0, .ref _), (1, .ref _)]) rfl ?_
  refine v_aload_n F dX5_sum_4 rfl 0 rfl ?_
  refine v_alen F (t0 := 0) (id_S hd (by decide)) (celD_S hd) rfl (v := nI 12) (by decide) dX5_sum_5 ?_
  refine v_istore F dX5_sum_6 (by decide) (lv' := [(4, .int _), (3, .ref _), (2, .int _), (0, .ref _), (1, .ref _)]) rfl ?_
  refine v_iconst F (v := nI 0) dX5_sum_8 (by decide) ?_
  refine v_istore F dX5_sum_9 (by decide) (lv' := [(5, .int _), (4, .int _), (3, .ref _), (2, .int _), (0, .ref _), (1, .ref _)]) rfl ?_
  refine L_X5_sum_8 F hd ?_ 12 0 rfl
  · skip
    refine v_iload_n F dX5_sum_35 rfl 3 rfl ?_
    exact v_iret F hr dX5_sum_36 rfl rfl rfl
set_option maxHeartbeats 4000000 in
set_option maxRecDepth 100000 in
theorem L_X5_sum_9 (F : Fx p l s m args meth c cX5_sum 7 RX5 X) {d : Nat} (hd : d = 3 ∨ d = 4) (K : V p l e R s m args below meth c Q X 7 ex (M) lf cells slots 35 [(5, .int (nI 12)), (4, .int (nI 12)), (3, .ref (X.2.1 d 9 0)), (2, .int (sI (M d 9 0) 12)), (0, .ref (X.2.1 d 0 0)), (1, .ref (X.2.1 d 9 0))] []) : ∀ (k q : Nat), k + q = 12 → V p l e R s m args below meth c Q X 7 ex (M) lf cells slots 11 [(5, .int (nI q)), (4, .int (nI 12)), (3, .ref (X.2.1 d 9 0)), (2, .int (sI (M d 9 0) q)), (0, .ref (X.2.1 d 0 0)), (1, .ref (X.2.1 d 9 0))] [] := by
  intro k
  induction k with
  | zero =>
    intro q hq
    obtain rfl : q = 12 := by omega
    refine v_iload F dX5_sum_11 0 rfl ?_
    refine v_iload F dX5_sum_13 1 rfl ?_
    refine v_icmp_ge F (tgt := 35) dX5_sum_15 (by decide) (fun c15 => ?_) (fun h => absurd (nI_le (Nat.le_refl _) (by omega)) h)
    exact K
  | succ k ih =>
    intro q hq
    refine v_iload F dX5_sum_11 0 rfl ?_
    refine v_iload F dX5_sum_13 1 rfl ?_
    refine v_icmp_ge F (tgt := 35) dX5_sum_15 (by decide) (fun h => absurd h (nI_ge (by omega) (by omega))) (fun c15 => ?_)
    refine v_aload_n F dX5_sum_18 rfl 2 rfl ?_
    refine v_iload F dX5_sum_19 0 rfl ?_
    refine v_iald F (id_S hd (by decide)) (celD_S hd) rfl (q) (Ix_nI (by omega)) dX5_sum_21 ?_
    refine v_istore F dX5_sum_22 (by decide) (lv' := [(6, .int _), (5, .int _), (4, .int _), (3, .ref _), (2, .int _), (0, .ref _), (1, .ref _)]) rfl ?_
    refine v_iload_n F dX5_sum_24 rfl 4 rfl ?_
    refine v_iload F dX5_sum_25 0 rfl ?_
    refine v_iadd F dX5_sum_27 ?_
    refine v_istore_n F dX5_sum_28 rfl (by decide) (lv' := [(2, .int _), (6, .int _), (5, .int _), (4, .int _), (3, .ref _), (0, .ref _), (1, .ref _)]) rfl ?_
    refine v_iinc F (k := 2) (nI (q + 1)) dX5_sum_29 rfl (iinc_nI q) (by decide) (lv' := [(5, .int _), (2, .int _), (6, .int _), (4, .int _), (3, .ref _), (0, .ref _), (1, .ref _)]) rfl ?_
    refine v_goto F (tgt := 11) dX5_sum_32 (by decide) ?_
    exact v_locs [0, 3, 4, 1, 5, 6] rfl (ih (q + 1) (by omega))
set_option maxHeartbeats 4000000 in
set_option maxRecDepth 100000 in
theorem c_X5_sum_9 {X : Cx} {l : Launch} (G : Gx X l) {M : Mem} {lf : Lf} {d : Nat} (hd : d = 3 ∨ d = 4)  : CI X l yX5_sum (wsc yX5_sum cX5_sum 7 (some .int)) rm_X5_sum [.ref (X.2.1 d 0 0), .ref (X.2.1 d 9 0)] (M) lf (sI (M d 9 0) 12) (M) lf 0 0 := by
  refine CI_of (lv := [(0, .ref _), (1, .ref _)]) G (by decide) (Nat.le_of_ble_eq_true rfl) rfl (fun p e s m args below meth c F hr => ?_)
  have F : Fx p l s m args meth c cX5_sum 7 RX5 X := F
  refine v_iconst F (v := 0) dX5_sum_0 (by decide) ?_
  refine v_istore_n F dX5_sum_1 rfl (by decide) (lv' := [(2, .int _), (0, .ref _), (1, .ref _)]) rfl ?_
  refine v_aload_n F dX5_sum_2 rfl 2 rfl ?_
  refine v_astore_n F dX5_sum_3 rfl (by decide) (lv' := [(3, .ref _), (2, .int _), (0, .ref _), (1, .ref _)]) rfl ?_
  refine v_aload_n F dX5_sum_4 rfl 0 rfl ?_
  refine v_alen F (t0 := 0) (id_S hd (by decide)) (celD_S hd) rfl (v := nI 12) (by decide) dX5_sum_5 ?_
  refine v_istore F dX5_sum_6 (by decide) (lv' := [(4, .int _), (3, .ref _), (2, .int _), (0, .ref _), (1, .ref _)]) rfl ?_
  refine v_iconst F (v := nI 0) dX5_sum_8 (by decide) ?_
  refine v_istore F dX5_sum_9 (by decide) (lv' := [(5, .int _), (4, .int _), (3, .ref _), (2, .int _), (0, .ref _), (1, .ref _)]) rfl ?_
  refine L_X5_sum_9 F hd ?_ 12 0 rfl
  · skip
    refine v_iload_n F dX5_sum_35 rfl 3 rfl ?_
    exact v_iret F hr dX5_sum_36 rfl rfl rfl
abbrev rm_X5_handOf : Room := { frames := 0, cells := 0, slots := 0, locals := 0 }
set_option maxHeartbeats 4000000 in
set_option maxRecDepth 100000 in
theorem L_X5_handOf (F : Fx p l s m args meth c cX5_handOf 3 RX5 X) {d : Nat} (hd : d = 3 ∨ d = 4) {k n : Nat} (h8 : n ≤ 8) (hno : ∀ h, h < n → ¬ M d 3 0 h = nI k + 1) (K : V p l e R s m args below meth c Q X 3 ex (M) lf cells slots 2 [(2, .int (nI n)), (0, .ref (X.2.1 d 0 0)), (1, .int (nI k))] []) : ∀ (a q : Nat), a + q = n → V p l e R s m args below meth c Q X 3 ex (M) lf cells slots 2 [(2, .int (nI q)), (0, .ref (X.2.1 d 0 0)), (1, .int (nI k))] [] := by
  intro a
  induction a with
  | zero =>
    intro q hq
    obtain rfl : q = n := by omega
    exact K
  | succ a ih =>
    intro q hq
    refine v_iload_n F dX5_handOf_2 rfl 0 rfl ?_
    refine v_aload_n F dX5_handOf_3 rfl 1 rfl ?_
    refine v_get F (id_S hd (by decide)) (celD_S hd) rfl uw_X5 3 (by decide) rfl rfl wf_X5_22 dX5_handOf_4 ?_
    refine v_alen F (t0 := 0) (id_S hd (by decide)) (celD_S hd) rfl (v := nI 8) (by decide) dX5_handOf_7 ?_
    refine v_icmp_ge F (tgt := 31) dX5_handOf_8 (by decide) (fun h => absurd h (nI_ge (by omega) (by omega))) (fun c8 => ?_)
    refine v_aload_n F dX5_handOf_11 rfl 1 rfl ?_
    refine v_get F (id_S hd (by decide)) (celD_S hd) rfl uw_X5 3 (by decide) rfl rfl wf_X5_22 dX5_handOf_12 ?_
    refine v_iload_n F dX5_handOf_15 rfl 0 rfl ?_
    refine v_iald F (id_S hd (by decide)) (celD_S hd) rfl (q) (Ix_nI (by omega)) dX5_handOf_16 ?_
    refine v_iload_n F dX5_handOf_17 rfl 2 rfl ?_
    refine v_iconst F (v := 1) dX5_handOf_18 (by decide) ?_
    refine v_iadd F dX5_handOf_19 ?_
    refine v_icmp_ne F (tgt := 25) dX5_handOf_20 (by decide) (fun c20 => ?_) (fun h => absurd h (hno q (by omega)))
    refine v_iinc F (k := 0) (nI (q + 1)) dX5_handOf_25 rfl (iinc_nI q) (by decide) (lv' := [(2, .int _), (0, .ref _), (1, .int _)]) rfl ?_
    refine v_goto F (tgt := 2) dX5_handOf_28 (by decide) ?_
    exact ih (q + 1) (by omega)
set_option maxHeartbeats 4000000 in
set_option maxRecDepth 100000 in
theorem c_X5_handOf_no {X : Cx} {l : Launch} (G : Gx X l) {M : Mem} {lf : Lf} {d : Nat} (hd : d = 3 ∨ d = 4) {k : Nat} (hno : ∀ h, h < 8 → ¬ M d 3 0 h = nI k + 1) : CI X l yX5_handOf (wsc yX5_handOf cX5_handOf 3 (some .int)) rm_X5_handOf [.ref (X.2.1 d 0 0), .int (nI k)] (M) lf (-1) (M) lf 0 0 := by
  refine CI_of (lv := [(0, .ref _), (1, .int _)]) G (by decide) (Nat.le_of_ble_eq_true rfl) rfl (fun p e s m args below meth c F hr => ?_)
  have F : Fx p l s m args meth c cX5_handOf 3 RX5 X := F
  refine v_iconst F (v := nI 0) dX5_handOf_0 (by decide) ?_
  refine v_istore_n F dX5_handOf_1 rfl (by decide) (lv' := [(2, .int _), (0, .ref _), (1, .int _)]) rfl ?_
  refine L_X5_handOf F hd (Nat.le_refl 8) hno ?_ 8 0 rfl
  · skip
    refine v_iload_n F dX5_handOf_2 rfl 0 rfl ?_
    refine v_aload_n F dX5_handOf_3 rfl 1 rfl ?_
    refine v_get F (id_S hd (by decide)) (celD_S hd) rfl uw_X5 3 (by decide) rfl rfl wf_X5_22 dX5_handOf_4 ?_
    refine v_alen F (t0 := 0) (id_S hd (by decide)) (celD_S hd) rfl (v := nI 8) (by decide) dX5_handOf_7 ?_
    refine v_icmp_ge F (tgt := 31) dX5_handOf_8 (by decide) (fun c8 => ?_) (fun h => absurd (nI_le (Nat.le_refl 8) (by decide)) h)
    refine v_iconst F (v := (-1)) dX5_handOf_31 (by decide) ?_
    exact v_iret F hr dX5_handOf_32 rfl rfl rfl
set_option maxHeartbeats 4000000 in
set_option maxRecDepth 100000 in
theorem c_X5_handOf_at {X : Cx} {l : Launch} (G : Gx X l) {M : Mem} {lf : Lf} {d : Nat} (hd : d = 3 ∨ d = 4) {k n : Nat} (h8 : n < 8) (hat : M d 3 0 n = nI k + 1) (hno : ∀ h, h < n → ¬ M d 3 0 h = nI k + 1) : CI X l yX5_handOf (wsc yX5_handOf cX5_handOf 3 (some .int)) rm_X5_handOf [.ref (X.2.1 d 0 0), .int (nI k)] (M) lf (nI n) (M) lf 0 0 := by
  refine CI_of (lv := [(0, .ref _), (1, .int _)]) G (by decide) (Nat.le_of_ble_eq_true rfl) rfl (fun p e s m args below meth c F hr => ?_)
  have F : Fx p l s m args meth c cX5_handOf 3 RX5 X := F
  refine v_iconst F (v := nI 0) dX5_handOf_0 (by decide) ?_
  refine v_istore_n F dX5_handOf_1 rfl (by decide) (lv' := [(2, .int _), (0, .ref _), (1, .int _)]) rfl ?_
  refine L_X5_handOf F hd (Nat.le_of_lt h8) hno ?_ n 0 (Nat.add_zero n)
  · skip
    refine v_iload_n F dX5_handOf_2 rfl 0 rfl ?_
    refine v_aload_n F dX5_handOf_3 rfl 1 rfl ?_
    refine v_get F (id_S hd (by decide)) (celD_S hd) rfl uw_X5 3 (by decide) rfl rfl wf_X5_22 dX5_handOf_4 ?_
    refine v_alen F (t0 := 0) (id_S hd (by decide)) (celD_S hd) rfl (v := nI 8) (by decide) dX5_handOf_7 ?_
    refine v_icmp_ge F (tgt := 31) dX5_handOf_8 (by decide) (fun h => absurd h (nI_ge h8 (by decide))) (fun c8 => ?_)
    refine v_aload_n F dX5_handOf_11 rfl 1 rfl ?_
    refine v_get F (id_S hd (by decide)) (celD_S hd) rfl uw_X5 3 (by decide) rfl rfl wf_X5_22 dX5_handOf_12 ?_
    refine v_iload_n F dX5_handOf_15 rfl 0 rfl ?_
    refine v_iald F (id_S hd (by decide)) (celD_S hd) rfl (n) (Ix_nI h8) dX5_handOf_16 ?_
    refine v_iload_n F dX5_handOf_17 rfl 2 rfl ?_
    refine v_iconst F (v := 1) dX5_handOf_18 (by decide) ?_
    refine v_iadd F dX5_handOf_19 ?_
    refine v_icmp_ne F (tgt := 25) dX5_handOf_20 (by decide) (fun h => absurd (hat) h) (fun c20 => ?_)
    refine v_iload_n F dX5_handOf_23 rfl 0 rfl ?_
    exact v_iret F hr dX5_handOf_24 rfl rfl rfl
end SG
