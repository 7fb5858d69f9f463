/-! ===== the reference: counts, beats, trials, digest ===== -/
section SZ
variable {p : Program} {l : Launch} {e : Env} {R : Room} {s : State} {m : MethodId} {args : Array Value} {below : List Frame} {meth : Method} {c : Code} {Q : State → Prop} {X : Cx} {nL : Nat} {ex : va_W} {M : Mem} {lf : Lf} {cells slots : Nat}
abbrev rm_X6_counted : Room := { frames := 1, cells := 1, slots := 9, locals := 26 }
set_option maxHeartbeats 4000000 in
set_option maxRecDepth 100000 in
theorem c_X6_counted {X : Cx} {l : Launch} (G : Gx X l) {M : Mem} {lf : Lf} {σ : Sg} {jc tc b : Nat} {ln : Nat → Nat} (C : Cp σ (M 2) (M 3) jc tc b ln) {w : Nat} (hw : w < 9) : CI X l yX6_counted (wsc yX6_counted cX6_counted 3 (some .int)) rm_X6_counted [.ref (X.2.1 2 0 0), .int (nI w)] (M) lf (fTellC σ tc w) (M) lf 1 9 := by
  refine CI_of (lv := [(0, .ref _), (1, .int _)]) G (by decide) (Nat.le_of_ble_eq_true rfl) rfl (fun p e s m args below meth c F hr => ?_)
  have F : Fx p l s m args meth c cX6_counted 3 RX6 X := F
  have h4 := C.1.1.1
  have h12 := C.1.1.2.1
  have hJ := C.1.2.1
  have hT := C.1.2.2.1
  refine v_bipush F (v := 9) dX6_counted_0 (by decide) ?_
  refine v_newt F 9 war_int (by decide) (by decide) (by decide) (Nat.le_of_ble_eq_true rfl) (Nat.le_of_ble_eq_true rfl) dX6_counted_2 (fun tmp => ?_)
  refine v_dup F dX6_counted_4 rfl ?_
  refine v_iconst F (v := 0) dX6_counted_5 (by decide) ?_
  refine v_aload_n F dX6_counted_6 rfl 0 rfl ?_
  refine v_get F (id_Q 0 (by decide)) rfl rfl uw_X6 8 (by decide) rfl rfl wf_X6_30 dX6_counted_7 ?_
  refine v_getN F (id_S (Or.inl rfl) (by decide)) (celD_S (Or.inl rfl)) rfl uw_X5 0 (by decide) rfl rfl wf_X6_84 dX6_counted_10 ?_
  refine v_topr (σ 0 0 4) (C.2.2.1.trans C.2.1.symm) ?_
  refine v_east F (0) ⟨by decide, by decide, by decide⟩ dX6_counted_13 ?_
  refine v_dup F dX6_counted_14 rfl ?_
  refine v_iconst F (v := 1) dX6_counted_15 (by decide) ?_
  refine v_aload_n F dX6_counted_16 rfl 0 rfl ?_
  refine v_get F (id_Q 0 (by decide)) rfl rfl uw_X6 1 (by decide) rfl rfl wf_X6_41 dX6_counted_17 ?_
  refine v_topr (σ 0 0 2) (hJ.trans C.1.1.2.2.1.symm) ?_
  refine v_east F (1) ⟨by decide, by decide, by decide⟩ dX6_counted_20 ?_
  refine v_dup F dX6_counted_21 rfl ?_
  refine v_iconst F (v := 2) dX6_counted_22 (by decide) ?_
  refine v_aload_n F dX6_counted_23 rfl 0 rfl ?_
  refine v_get F (id_Q 0 (by decide)) rfl rfl uw_X6 2 (by decide) rfl rfl wf_X6_48 dX6_counted_24 ?_
  refine v_topr (σ 0 0 3) (hT.trans C.1.1.2.2.2.1.symm) ?_
  refine v_east F (2) ⟨by decide, by decide, by decide⟩ dX6_counted_27 ?_
  refine v_dup F dX6_counted_28 rfl ?_
  refine v_iconst F (v := 3) dX6_counted_29 (by decide) ?_
  refine v_aload_n F dX6_counted_30 rfl 0 rfl ?_
  refine v_get F (id_Q 0 (by decide)) rfl rfl uw_X6 8 (by decide) rfl rfl wf_X6_30 dX6_counted_31 ?_
  refine v_iconst F (v := 1) dX6_counted_34 (by decide) ?_
  refine v_callVi F (As := [_]) (rest := [.int _, .ref _, .ref _]) rfl (c_X5_are G (Or.inl rfl) h12 hT 1) (Rv_S (Or.inl rfl)) wm_X6_116 rfl ⟨rfl, rfl, Nat.le_of_ble_eq_true rfl, Nat.le_of_ble_eq_true rfl, Nat.le_of_ble_eq_true rfl, Nat.le_of_ble_eq_true rfl, Nat.le_of_ble_eq_true rfl⟩ dX6_counted_35 ?_
  refine v_topr (fIn σ tc 1) (are_e C 1) ?_
  refine v_east F (3) ⟨by decide, by decide, by decide⟩ dX6_counted_38 ?_
  refine v_dup F dX6_counted_39 rfl ?_
  refine v_iconst F (v := 4) dX6_counted_40 (by decide) ?_
  refine v_aload_n F dX6_counted_41 rfl 0 rfl ?_
  refine v_get F (id_Q 0 (by decide)) rfl rfl uw_X6 8 (by decide) rfl rfl wf_X6_30 dX6_counted_42 ?_
  refine v_iconst F (v := 2) dX6_counted_45 (by decide) ?_
  refine v_callVi F (As := [_]) (rest := [.int _, .ref _, .ref _]) rfl (c_X5_are G (Or.inl rfl) h12 hT 2) (Rv_S (Or.inl rfl)) wm_X6_116 rfl ⟨rfl, rfl, Nat.le_of_ble_eq_true rfl, Nat.le_of_ble_eq_true rfl, Nat.le_of_ble_eq_true rfl, Nat.le_of_ble_eq_true rfl, Nat.le_of_ble_eq_true rfl⟩ dX6_counted_46 ?_
  refine v_topr (fIn σ tc 2) (are_e C 2) ?_
  refine v_east F (4) ⟨by decide, by decide, by decide⟩ dX6_counted_49 ?_
  refine v_dup F dX6_counted_50 rfl ?_
  refine v_iconst F (v := 5) dX6_counted_51 (by decide) ?_
  refine v_aload_n F dX6_counted_52 rfl 0 rfl ?_
  refine v_get F (id_Q 0 (by decide)) rfl rfl uw_X6 8 (by decide) rfl rfl wf_X6_30 dX6_counted_53 ?_
  refine v_iconst F (v := 0) dX6_counted_56 (by decide) ?_
  refine v_callVi F (As := [_]) (rest := [.int _, .ref _, .ref _]) rfl (c_X5_are G (Or.inl rfl) h12 hT 0) (Rv_S (Or.inl rfl)) wm_X6_116 rfl ⟨rfl, rfl, Nat.le_of_ble_eq_true rfl, Nat.le_of_ble_eq_true rfl, Nat.le_of_ble_eq_true rfl, Nat.le_of_ble_eq_true rfl, Nat.le_of_ble_eq_true rfl⟩ dX6_counted_57 ?_
  refine v_topr (fIn σ tc 0) (are_e C 0) ?_
  refine v_east F (5) ⟨by decide, by decide, by decide⟩ dX6_counted_60 ?_
  refine v_dup F dX6_counted_61 rfl ?_
  refine v_bipush F (v := 6) dX6_counted_62 (by decide) ?_
  refine v_aload_n F dX6_counted_64 rfl 0 rfl ?_
  refine v_get F (id_Q 0 (by decide)) rfl rfl uw_X6 8 (by decide) rfl rfl wf_X6_30 dX6_counted_65 ?_
  refine v_iconst F (v := 3) dX6_counted_68 (by decide) ?_
  refine v_callVi F (As := [_]) (rest := [.int _, .ref _, .ref _]) rfl (c_X5_are G (Or.inl rfl) h12 hT 3) (Rv_S (Or.inl rfl)) wm_X6_116 rfl ⟨rfl, rfl, Nat.le_of_ble_eq_true rfl, Nat.le_of_ble_eq_true rfl, Nat.le_of_ble_eq_true rfl, Nat.le_of_ble_eq_true rfl, Nat.le_of_ble_eq_true rfl⟩ dX6_counted_69 ?_
  refine v_topr (fIn σ tc 3) (are_e C 3) ?_
  refine v_east F (6) ⟨by decide, by decide, by decide⟩ dX6_counted_72 ?_
  refine v_dup F dX6_counted_73 rfl ?_
  refine v_bipush F (v := 7) dX6_counted_74 (by decide) ?_
  refine v_aload_n F dX6_counted_76 rfl 0 rfl ?_
  refine v_get F (id_Q 0 (by decide)) rfl rfl uw_X6 8 (by decide) rfl rfl wf_X6_30 dX6_counted_77 ?_
  refine v_aload_n F dX6_counted_80 rfl 0 rfl ?_
  refine v_get F (id_Q 0 (by decide)) rfl rfl uw_X6 8 (by decide) rfl rfl wf_X6_30 dX6_counted_81 ?_
  refine v_getN F (id_S (Or.inl rfl) (by decide)) (celD_S (Or.inl rfl)) rfl uw_X5 9 (by decide) rfl rfl wf_X6_90 dX6_counted_84 ?_
  refine v_callVi F (As := [_]) (rest := [.int _, .ref _, .ref _]) rfl (c_X5_sum_9 G (Or.inl rfl)) (Rv_S (Or.inl rfl)) wm_X6_109 rfl ⟨rfl, rfl, Nat.le_of_ble_eq_true rfl, Nat.le_of_ble_eq_true rfl, Nat.le_of_ble_eq_true rfl, Nat.le_of_ble_eq_true rfl, Nat.le_of_ble_eq_true rfl⟩ dX6_counted_87 ?_
  refine v_topr (sI (fun k => σ 8 k 7) tc) (sum_f C) ?_
  refine v_east F (7) ⟨by decide, by decide, by decide⟩ dX6_counted_90 ?_
  refine v_dup F dX6_counted_91 rfl ?_
  refine v_bipush F (v := 8) dX6_counted_92 (by decide) ?_
  refine v_aload_n F dX6_counted_94 rfl 0 rfl ?_
  refine v_get F (id_Q 0 (by decide)) rfl rfl uw_X6 8 (by decide) rfl rfl wf_X6_30 dX6_counted_95 ?_
  refine v_aload_n F dX6_counted_98 rfl 0 rfl ?_
  refine v_get F (id_Q 0 (by decide)) rfl rfl uw_X6 8 (by decide) rfl rfl wf_X6_30 dX6_counted_99 ?_
  refine v_getN F (id_S (Or.inl rfl) (by decide)) (celD_S (Or.inl rfl)) rfl uw_X5 8 (by decide) rfl rfl wf_X6_87 dX6_counted_102 ?_
  refine v_callVi F (As := [_]) (rest := [.int _, .ref _, .ref _]) rfl (c_X5_sum_8 G (Or.inl rfl)) (Rv_S (Or.inl rfl)) wm_X6_109 rfl ⟨rfl, rfl, Nat.le_of_ble_eq_true rfl, Nat.le_of_ble_eq_true rfl, Nat.le_of_ble_eq_true rfl, Nat.le_of_ble_eq_true rfl, Nat.le_of_ble_eq_true rfl⟩ dX6_counted_105 ?_
  refine v_topr (sI (fun k => σ 8 k 6) tc) (sum_t C) ?_
  refine v_east F (8) ⟨by decide, by decide, by decide⟩ dX6_counted_108 ?_
  refine v_astore_n F dX6_counted_109 rfl (by decide) (lv' := [(2, .ref _), (0, .ref _), (1, .int _)]) rfl ?_
  refine v_aload_n F dX6_counted_110 rfl 0 rfl ?_
  refine v_iload_n F dX6_counted_111 rfl 2 rfl ?_
  refine v_eald F (w) (Ix_nI hw) dX6_counted_112 ?_
  refine v_iret F hr dX6_counted_113 ?_ rfl rfl
  have hw9 : w = 0 ∨ w = 1 ∨ w = 2 ∨ w = 3 ∨ w = 4 ∨ w = 5 ∨ w = 6 ∨ w = 7 ∨ w = 8 := by omega
  rcases hw9 with rfl | rfl | rfl | rfl | rfl | rfl | rfl | rfl | rfl <;> simp [upd, fTellC]
abbrev rm_X6_count : Room := { frames := 2, cells := 1, slots := 9, locals := 48 }
set_option maxHeartbeats 4000000 in
set_option maxRecDepth 100000 in
theorem c_X6_count {X : Cx} {l : Launch} (G : Gx X l) {M : Mem} {lf : Lf} {σ : Sg} {jc tc b : Nat} {ln : Nat → Nat} (C : Cp σ (M 2) (M 3) jc tc b ln) {w : Nat} (hw : w < 9) : CI X l yX6_count (wsc yX6_count cX6_count 2 (some .int)) rm_X6_count [.ref (X.2.1 2 0 0), .int (nI w)] (M) lf (fTellC σ tc w) (uC M 2 (u3 (M 2) 0 0 0 0)) lf 1 9 := by
  refine CI_of (lv := [(0, .ref _), (1, .int _)]) G (by decide) (Nat.le_of_ble_eq_true rfl) rfl (fun p e s m args below meth c F hr => ?_)
  have F : Fx p l s m args meth c cX6_count 2 RX6 X := F
  have h4 := C.1.1.1
  have h12 := C.1.1.2.1
  have hJ := C.1.2.1
  have hT := C.1.2.2.1
  have hJQ : (uC M 2 (u3 (M 2) 0 0 0 0)) 2 0 0 1 = nI jc := by rw [uC_at, u3_ne (by decide)]; exact hJ
  have hTQ : (uC M 2 (u3 (M 2) 0 0 0 0)) 2 0 0 2 = nI tc := by rw [uC_at, u3_ne (by decide)]; exact hT
  have CQ : Cp σ ((uC M 2 (u3 (M 2) 0 0 0 0)) 2) ((uC M 2 (u3 (M 2) 0 0 0 0)) 3) jc tc b ln := Cp_q C 0
  refine v_mem (uC_self _ 2) ?_
  refine v_aload_n F dX6_count_0 rfl 0 rfl ?_
  refine v_iconst F (v := 0) dX6_count_1 (by decide) ?_
  refine v_putC F tyX6 tyX6_ok nmX6 (id_Q 0 (by decide)) rfl rfl uw_X6 0 (by decide) rfl rfl (by decide +kernel) rfl (Nat.le_of_ble_eq_true rfl) wf_X6_37 dX6_count_2 ?_
  refine v_iload_n F dX6_count_5 rfl 1 rfl ?_
  refine v_iconst F (v := 0) dX6_count_6 (by decide) ?_
  refine v_bipush F (v := nI 8) dX6_count_7 (by decide) ?_
  refine v_callSi F (As := [_, _, _]) (rest := []) rfl (c_X6_isIn_y G (nI_pos (by omega)) (nI_nlt (by omega) (by decide))) wm_X6_44 rfl ⟨rfl, rfl, Nat.le_of_ble_eq_true rfl, Nat.le_of_ble_eq_true rfl, Nat.le_of_ble_eq_true rfl, Nat.le_of_ble_eq_true rfl, Nat.le_of_ble_eq_true rfl⟩ dX6_count_9 ?_
  refine v_if_eq F (tgt := 23) dX6_count_12 (by decide) (fun h => absurd h ((by decide))) (fun c12 => ?_)
  refine v_aload_n F dX6_count_15 rfl 0 rfl ?_
  refine v_iload_n F dX6_count_16 rfl 1 rfl ?_
  refine v_callVi F (As := [_]) (rest := []) rfl (c_X6_counted G CQ hw) Rv_Q wm_X6_119 rfl ⟨rfl, rfl, Nat.le_of_ble_eq_true rfl, Nat.le_of_ble_eq_true rfl, Nat.le_of_ble_eq_true rfl, Nat.le_of_ble_eq_true rfl, Nat.le_of_ble_eq_true rfl⟩ dX6_count_17 ?_
  refine v_goto F (tgt := 28) dX6_count_20 (by decide) ?_
  exact v_iret F hr dX6_count_28 rfl rfl rfl
set_option maxHeartbeats 4000000 in
set_option maxRecDepth 100000 in
theorem c_X6_count_w {X : Cx} {l : Launch} (G : Gx X l) {M : Mem} {lf : Lf} {x : Int32} (hx : x < 0 ∨ nI 9 ≤ x) : CI X l yX6_count (wsc yX6_count cX6_count 2 (some .int)) rm_X6_count [.ref (X.2.1 2 0 0), .int x] (M) lf (0) (uC M 2 (u3 (u3 (M 2) 0 0 0 0) 0 0 0 1)) lf 0 0 := by
  refine CI_of (lv := [(0, .ref _), (1, .int _)]) G (by decide) (Nat.le_of_ble_eq_true rfl) rfl (fun p e s m args below meth c F hr => ?_)
  have F : Fx p l s m args meth c cX6_count 2 RX6 X := F
  refine v_mem (uC_self _ 2) ?_
  refine v_aload_n F dX6_count_0 rfl 0 rfl ?_
  refine v_iconst F (v := 0) dX6_count_1 (by decide) ?_
  refine v_putC F tyX6 tyX6_ok nmX6 (id_Q 0 (by decide)) rfl rfl uw_X6 0 (by decide) rfl rfl (by decide +kernel) rfl (Nat.le_of_ble_eq_true rfl) wf_X6_37 dX6_count_2 ?_
  refine v_iload_n F dX6_count_5 rfl 1 rfl ?_
  refine v_iconst F (v := 0) dX6_count_6 (by decide) ?_
  refine v_bipush F (v := (nI 9 - 1)) dX6_count_7 (by decide) ?_
  refine v_callSi F (As := [_, _, _]) (rest := []) rfl (c_X6_isIn_n G (m1_n (by decide) hx)) wm_X6_44 rfl ⟨rfl, rfl, Nat.le_of_ble_eq_true rfl, Nat.le_of_ble_eq_true rfl, Nat.le_of_ble_eq_true rfl, Nat.le_of_ble_eq_true rfl, Nat.le_of_ble_eq_true rfl⟩ dX6_count_9 ?_
  refine v_if_eq F (tgt := 23) dX6_count_12 (by decide) (fun c12 => ?_) (fun h => absurd (rfl) h)
  refine v_aload_n F dX6_count_23 rfl 0 rfl ?_
  refine v_iconst F (v := 1) dX6_count_24 (by decide) ?_
  refine v_callVi F (As := [_]) (rest := []) rfl (c_X6_no G 1) Rv_Q wm_X6_55 rfl ⟨rfl, rfl, Nat.le_of_ble_eq_true rfl, Nat.le_of_ble_eq_true rfl, Nat.le_of_ble_eq_true rfl, Nat.le_of_ble_eq_true rfl, Nat.le_of_ble_eq_true rfl⟩ dX6_count_25 ?_
  exact v_iret F hr dX6_count_28 rfl rfl rfl
abbrev rm_X6_go : Room := { frames := 3, cells := 0, slots := 0, locals := 66 }
set_option maxHeartbeats 4000000 in
set_option maxRecDepth 100000 in
theorem L_X6_go (F : Fx p l s m args meth c cX6_go 4 RX6 X) (G : Gx X l) {σ τ : Sg} {jc tc b n : Nat} {ln : Nat → Nat} (C : Cp σ (M 2) τ jc tc b ln) (hb : b + n < 2 ^ 31) {u : Int32} (K : V p l e rm_X6_go s m args below meth c Q X 4 ex (uC M 3 (ggL (M 2) b jc tc ln τ n)) lf 0 0 57 [(3, .int (nI n)), (2, .int u), (0, .ref (X.2.1 2 0 0)), (1, .int (nI n))] []) : ∀ (k q : Nat), k + q = n → V p l e rm_X6_go s m args below meth c Q X 4 ex (uC M 3 (ggL (M 2) b jc tc ln τ q)) lf 0 0 39 [(3, .int (nI q)), (2, .int u), (0, .ref (X.2.1 2 0 0)), (1, .int (nI n))] [] := by
  intro k
  induction k with
  | zero =>
    intro q hq
    obtain rfl : q = n := by omega
    refine v_iload_n F dX6_go_39 rfl 0 rfl ?_
    refine v_iload_n F dX6_go_40 rfl 3 rfl ?_
    refine v_icmp_ge F (tgt := 57) dX6_go_41 (by decide) (fun c41 => ?_) (fun h => absurd (nI_le (Nat.le_refl _) (by omega)) h)
    exact K
  | succ k ih =>
    intro q hq
    refine v_iload_n F dX6_go_39 rfl 0 rfl ?_
    refine v_iload_n F dX6_go_40 rfl 3 rfl ?_
    refine v_icmp_ge F (tgt := 57) dX6_go_41 (by decide) (fun h => absurd h (nI_ge (by omega) (by omega))) (fun c41 => ?_)
    refine v_aload_n F dX6_go_44 rfl 2 rfl ?_
    refine v_get F (id_Q 0 (by decide)) (heO (by decide)) rfl uw_X6 8 (by decide) rfl rfl wf_X6_30 dX6_go_45 ?_
    refine v_callVv F (As := []) (rest := []) rfl (c_X5_go G (Or.inl rfl) (Cp_play C q).1 (show b + q < 2 ^ 31 by omega)) (Rv_S (Or.inl rfl)) wm_X6_113 rfl ⟨rfl, rfl, Nat.le_of_ble_eq_true rfl, Nat.le_of_ble_eq_true rfl, Nat.le_of_ble_eq_true rfl, Nat.le_of_ble_eq_true rfl, Nat.le_of_ble_eq_true rfl⟩ dX6_go_48 ?_
    refine v_iinc F (k := 0) (nI (q + 1)) dX6_go_51 rfl (iinc_nI q) (by decide) (lv' := [(3, .int _), (2, .int _), (0, .ref _), (1, .int _)]) rfl ?_
    refine v_goto F (tgt := 39) dX6_go_54 (by decide) ?_
    exact ih (q + 1) (by omega)
set_option maxHeartbeats 4000000 in
set_option maxRecDepth 100000 in
theorem c_X6_go {X : Cx} {l : Launch} (G : Gx X l) {M : Mem} {lf : Lf} {σ : Sg} {jc tc b : Nat} {ln : Nat → Nat} (C : Cp σ (M 2) (M 3) jc tc b ln) {n : Nat} (h1 : 1 ≤ n) (hn : n ≤ 200) (hb : b + n < 2 ^ 31) : CI X l yX6_go (wsc yX6_go cX6_go 4 (some .int)) rm_X6_go [.ref (X.2.1 2 0 0), .int (nI n)] (M) lf (plR b jc tc ln σ n) (uC (uC M 2 (u3 (M 2) 0 0 0 0)) 3 (ggL (u3 (M 2) 0 0 0 0) b jc tc ln (M 3) n)) lf 0 0 := by
  refine CI_of (lv := [(0, .ref _), (1, .int _)]) G (by decide) (Nat.le_of_ble_eq_true rfl) rfl (fun p e s m args below meth c F hr => ?_)
  have F : Fx p l s m args meth c cX6_go 4 RX6 X := F
  have h4 := C.1.1.1
  have h12 := C.1.1.2.1
  have hJ := C.1.2.1
  have hT := C.1.2.2.1
  have hJQ : (uC M 2 (u3 (M 2) 0 0 0 0)) 2 0 0 1 = nI jc := by rw [uC_at, u3_ne (by decide)]; exact hJ
  have hTQ : (uC M 2 (u3 (M 2) 0 0 0 0)) 2 0 0 2 = nI tc := by rw [uC_at, u3_ne (by decide)]; exact hT
  refine v_mem (uC_self _ 2) ?_
  refine v_aload_n F dX6_go_0 rfl 0 rfl ?_
  refine v_iconst F (v := 0) dX6_go_1 (by decide) ?_
  refine v_putC F tyX6 tyX6_ok nmX6 (id_Q 0 (by decide)) rfl rfl uw_X6 0 (by decide) rfl rfl (by decide +kernel) rfl (Nat.le_of_ble_eq_true rfl) wf_X6_37 dX6_go_2 ?_
  refine v_iload_n F dX6_go_5 rfl 1 rfl ?_
  refine v_iconst F (v := nI 1) dX6_go_6 (by decide) ?_
  refine v_sipush F (v := nI 200) dX6_go_7 (by decide) ?_
  refine v_callSi F (As := [_, _, _]) (rest := []) rfl (c_X6_isIn_y G (nI_nlt h1 (by omega)) (nI_nlt hn (by decide))) wm_X6_44 rfl ⟨rfl, rfl, Nat.le_of_ble_eq_true rfl, Nat.le_of_ble_eq_true rfl, Nat.le_of_ble_eq_true rfl, Nat.le_of_ble_eq_true rfl, Nat.le_of_ble_eq_true rfl⟩ dX6_go_10 ?_
  refine v_if_ne F (tgt := 22) dX6_go_13 (by decide) (fun c13 => ?_) (fun h => absurd h ((by decide)))
  refine v_aload_n F dX6_go_22 rfl 0 rfl ?_
  refine v_get F (id_Q 0 (by decide)) heQ rfl uw_X6 8 (by decide) rfl rfl wf_X6_30 dX6_go_23 ?_
  refine v_aload_n F dX6_go_26 rfl 0 rfl ?_
  refine v_get F (id_Q 0 (by decide)) heQ rfl uw_X6 8 (by decide) rfl rfl wf_X6_30 dX6_go_27 ?_
  refine v_getN F (id_S (Or.inl rfl) (by decide)) ((heO (by decide)).trans ((celD_S (Or.inl rfl)))) rfl uw_X5 9 (by decide) rfl rfl wf_X6_90 dX6_go_30 ?_
  refine v_callVi F (As := [_]) (rest := []) rfl (c_X5_sum_9 G (Or.inl rfl)) (Rv_S (Or.inl rfl)) wm_X6_109 rfl ⟨rfl, rfl, Nat.le_of_ble_eq_true rfl, Nat.le_of_ble_eq_true rfl, Nat.le_of_ble_eq_true rfl, Nat.le_of_ble_eq_true rfl, Nat.le_of_ble_eq_true rfl⟩ dX6_go_33 ?_
  refine v_istore_n F dX6_go_36 rfl (by decide) (lv' := [(2, .int _), (0, .ref _), (1, .int _)]) rfl ?_
  refine v_open 3 (M 3) rfl ?_
  refine v_iconst F (v := nI 0) dX6_go_37 (by decide) ?_
  refine v_istore_n F dX6_go_38 rfl (by decide) (lv' := [(3, .int _), (2, .int _), (0, .ref _), (1, .int _)]) rfl ?_
  refine L_X6_go F G (M := uC M 2 (u3 (M 2) 0 0 0 0)) (σ := σ) (τ := M 3) (Cp_q C 0) hb ?_ n 0 (Nat.add_zero n)
  · skip
    refine v_aload_n F dX6_go_57 rfl 2 rfl ?_
    refine v_get F (id_Q 0 (by decide)) ((heO (by decide)).trans (heQ)) rfl uw_X6 8 (by decide) rfl rfl wf_X6_30 dX6_go_58 ?_
    refine v_aload_n F dX6_go_61 rfl 2 rfl ?_
    refine v_get F (id_Q 0 (by decide)) ((heO (by decide)).trans (heQ)) rfl uw_X6 8 (by decide) rfl rfl wf_X6_30 dX6_go_62 ?_
    refine v_getN F (id_S (Or.inl rfl) (by decide)) (heS (Or.inl rfl)) rfl uw_X5 9 (by decide) rfl rfl wf_X6_90 dX6_go_65 ?_
    refine v_callVi F (As := [_]) (rest := []) rfl (c_X5_sum_9 G (Or.inl rfl)) (Rv_S (Or.inl rfl)) wm_X6_109 rfl ⟨rfl, rfl, Nat.le_of_ble_eq_true rfl, Nat.le_of_ble_eq_true rfl, Nat.le_of_ble_eq_true rfl, Nat.le_of_ble_eq_true rfl, Nat.le_of_ble_eq_true rfl⟩ dX6_go_68 ?_
    refine v_iload_n F dX6_go_71 rfl 1 rfl ?_
    refine v_isub F dX6_go_72 ?_
    refine v_topr (plR b jc tc ln σ n) (fall_e (Cp_q C 0) n) ?_
    exact v_iret F hr dX6_go_73 rfl rfl rfl
set_option maxHeartbeats 4000000 in
set_option maxRecDepth 100000 in
theorem c_X6_go_b {X : Cx} {l : Launch} (G : Gx X l) {M : Mem} {lf : Lf} {x : Int32} (hx : x < 1 ∨ nI 200 < x) : CI X l yX6_go (wsc yX6_go cX6_go 4 (some .int)) rm_X6_go [.ref (X.2.1 2 0 0), .int x] (M) lf (0) (uC M 2 (u3 (u3 (M 2) 0 0 0 0) 0 0 0 1)) lf 0 0 := by
  refine CI_of (lv := [(0, .ref _), (1, .int _)]) G (by decide) (Nat.le_of_ble_eq_true rfl) rfl (fun p e s m args below meth c F hr => ?_)
  have F : Fx p l s m args meth c cX6_go 4 RX6 X := F
  refine v_mem (uC_self _ 2) ?_
  refine v_aload_n F dX6_go_0 rfl 0 rfl ?_
  refine v_iconst F (v := 0) dX6_go_1 (by decide) ?_
  refine v_putC F tyX6 tyX6_ok nmX6 (id_Q 0 (by decide)) rfl rfl uw_X6 0 (by decide) rfl rfl (by decide +kernel) rfl (Nat.le_of_ble_eq_true rfl) wf_X6_37 dX6_go_2 ?_
  refine v_iload_n F dX6_go_5 rfl 1 rfl ?_
  refine v_iconst F (v := 1) dX6_go_6 (by decide) ?_
  refine v_sipush F (v := nI 200) dX6_go_7 (by decide) ?_
  refine v_callSi F (As := [_, _, _]) (rest := []) rfl (c_X6_isIn_n G hx) wm_X6_44 rfl ⟨rfl, rfl, Nat.le_of_ble_eq_true rfl, Nat.le_of_ble_eq_true rfl, Nat.le_of_ble_eq_true rfl, Nat.le_of_ble_eq_true rfl, Nat.le_of_ble_eq_true rfl⟩ dX6_go_10 ?_
  refine v_if_ne F (tgt := 22) dX6_go_13 (by decide) (fun h => absurd (rfl) h) (fun c13 => ?_)
  refine v_aload_n F dX6_go_16 rfl 0 rfl ?_
  refine v_iconst F (v := 1) dX6_go_17 (by decide) ?_
  refine v_callVi F (As := [_]) (rest := []) rfl (c_X6_no G 1) Rv_Q wm_X6_55 rfl ⟨rfl, rfl, Nat.le_of_ble_eq_true rfl, Nat.le_of_ble_eq_true rfl, Nat.le_of_ble_eq_true rfl, Nat.le_of_ble_eq_true rfl, Nat.le_of_ble_eq_true rfl⟩ dX6_go_18 ?_
  exact v_iret F hr dX6_go_21 rfl rfl rfl
theorem fallsIn_e {σ q τ ρ : Sg} {jc tc b : Nat} {ln : Nat → Nat} (C : Cp σ q τ jc tc b ln) (n : Nat) : sI (ggL q b jc tc ln (gBec ρ τ) n 9 0) 12 - sI (τ 9 0) 12 = plR b jc tc ln σ n := by
  rw [← bec_sum (ρ := ρ)]
  exact fall_e (Cp_bec C) n
abbrev rm_X6_fallsIn : Room := { frames := 3, cells := 0, slots := 0, locals := 66 }
set_option maxHeartbeats 4000000 in
set_option maxRecDepth 100000 in
theorem L_X6_fallsIn (F : Fx p l s m args meth c cX6_fallsIn 3 RX6 X) (G : Gx X l) {σ τ : Sg} {jc tc b n : Nat} {ln : Nat → Nat} (C : Cp σ (M 2) τ jc tc b ln) (hb : b + n < 2 ^ 31) (K : V p l e rm_X6_fallsIn s m args below meth c Q X 3 ex (uC M 4 (ggL (M 2) b jc tc ln τ n)) lf 0 0 31 [(2, .int (nI n)), (0, .ref (X.2.1 2 0 0)), (1, .int (nI n))] []) : ∀ (k q : Nat), k + q = n → V p l e rm_X6_fallsIn s m args below meth c Q X 3 ex (uC M 4 (ggL (M 2) b jc tc ln τ q)) lf 0 0 13 [(2, .int (nI q)), (0, .ref (X.2.1 2 0 0)), (1, .int (nI n))] [] := by
  intro k
  induction k with
  | zero =>
    intro q hq
    obtain rfl : q = n := by omega
    refine v_iload_n F dX6_fallsIn_13 rfl 0 rfl ?_
    refine v_iload_n F dX6_fallsIn_14 rfl 2 rfl ?_
    refine v_icmp_ge F (tgt := 31) dX6_fallsIn_15 (by decide) (fun c15 => ?_) (fun h => absurd (nI_le (Nat.le_refl _) (by omega)) h)
    exact K
  | succ k ih =>
    intro q hq
    refine v_iload_n F dX6_fallsIn_13 rfl 0 rfl ?_
    refine v_iload_n F dX6_fallsIn_14 rfl 2 rfl ?_
    refine v_icmp_ge F (tgt := 31) dX6_fallsIn_15 (by decide) (fun h => absurd h (nI_ge (by omega) (by omega))) (fun c15 => ?_)
    refine v_aload_n F dX6_fallsIn_18 rfl 1 rfl ?_
    refine v_get F (id_Q 0 (by decide)) (heO (by decide)) rfl uw_X6 9 (by decide) rfl rfl wf_X6_34 dX6_fallsIn_19 ?_
    refine v_callVv F (As := []) (rest := []) rfl (c_X5_go G (Or.inr rfl) (Cp_play C q).1 (show b + q < 2 ^ 31 by omega)) (Rv_S (Or.inr rfl)) wm_X6_113 rfl ⟨rfl, rfl, Nat.le_of_ble_eq_true rfl, Nat.le_of_ble_eq_true rfl, Nat.le_of_ble_eq_true rfl, Nat.le_of_ble_eq_true rfl, Nat.le_of_ble_eq_true rfl⟩ dX6_fallsIn_22 ?_
    refine v_iinc F (k := 0) (nI (q + 1)) dX6_fallsIn_25 rfl (iinc_nI q) (by decide) (lv' := [(2, .int _), (0, .ref _), (1, .int _)]) rfl ?_
    refine v_goto F (tgt := 13) dX6_fallsIn_28 (by decide) ?_
    exact ih (q + 1) (by omega)
set_option maxHeartbeats 4000000 in
set_option maxRecDepth 100000 in
theorem c_X6_fallsIn {X : Cx} {l : Launch} (G : Gx X l) {M : Mem} {lf : Lf} {σ : Sg} {jc tc b : Nat} {ln : Nat → Nat} (C : Cp σ (M 2) (M 3) jc tc b ln) {ρ : Sg} {n : Nat} (hb : b + n < 2 ^ 31) : CI X l yX6_fallsIn (wsc yX6_fallsIn cX6_fallsIn 3 (some .int)) rm_X6_fallsIn [.ref (X.2.1 2 0 0), .int (nI n)] (uC M 4 ρ) lf (plR b jc tc ln σ n) (uC M 4 (ggL (M 2) b jc tc ln (gBec ρ (M 3)) n)) lf 0 0 := by
  refine CI_of (lv := [(0, .ref _), (1, .int _)]) G (by decide) (Nat.le_of_ble_eq_true rfl) rfl (fun p e s m args below meth c F hr => ?_)
  have F : Fx p l s m args meth c cX6_fallsIn 3 RX6 X := F
  have h4 := C.1.1.1
  have h12 := C.1.1.2.1
  have hJ := C.1.2.1
  have hT := C.1.2.2.1
  refine v_aload_n F dX6_fallsIn_0 rfl 0 rfl ?_
  refine v_get F (id_Q 0 (by decide)) (heO (by decide)) rfl uw_X6 9 (by decide) rfl rfl wf_X6_34 dX6_fallsIn_1 ?_
  refine v_aload_n F dX6_fallsIn_4 rfl 0 rfl ?_
  refine v_get F (id_Q 0 (by decide)) (heO (by decide)) rfl uw_X6 8 (by decide) rfl rfl wf_X6_30 dX6_fallsIn_5 ?_
  refine v_callVv F (As := [_]) (rest := []) rfl (c_X5_become G) (Rv_S (Or.inr rfl)) wm_X6_122 rfl ⟨rfl, rfl, Nat.le_of_ble_eq_true rfl, Nat.le_of_ble_eq_true rfl, Nat.le_of_ble_eq_true rfl, Nat.le_of_ble_eq_true rfl, Nat.le_of_ble_eq_true rfl⟩ dX6_fallsIn_8 ?_
  refine v_iconst F (v := nI 0) dX6_fallsIn_11 (by decide) ?_
  refine v_istore_n F dX6_fallsIn_12 rfl (by decide) (lv' := [(2, .int _), (0, .ref _), (1, .int _)]) rfl ?_
  refine L_X6_fallsIn F G (σ := σ) (Cp_bec C) hb ?_ n 0 (Nat.add_zero n)
  · skip
    refine v_aload_n F dX6_fallsIn_31 rfl 1 rfl ?_
    refine v_get F (id_Q 0 (by decide)) (heO (by decide)) rfl uw_X6 9 (by decide) rfl rfl wf_X6_34 dX6_fallsIn_32 ?_
    refine v_aload_n F dX6_fallsIn_35 rfl 1 rfl ?_
    refine v_get F (id_Q 0 (by decide)) (heO (by decide)) rfl uw_X6 9 (by decide) rfl rfl wf_X6_34 dX6_fallsIn_36 ?_
    refine v_getN F (id_S (Or.inr rfl) (by decide)) (heS (Or.inr rfl)) rfl uw_X5 9 (by decide) rfl rfl wf_X6_90 dX6_fallsIn_39 ?_
    refine v_callVi F (As := [_]) (rest := []) rfl (c_X5_sum_9 G (Or.inr rfl)) (Rv_S (Or.inr rfl)) wm_X6_109 rfl ⟨rfl, rfl, Nat.le_of_ble_eq_true rfl, Nat.le_of_ble_eq_true rfl, Nat.le_of_ble_eq_true rfl, Nat.le_of_ble_eq_true rfl, Nat.le_of_ble_eq_true rfl⟩ dX6_fallsIn_42 ?_
    refine v_aload_n F dX6_fallsIn_45 rfl 1 rfl ?_
    refine v_get F (id_Q 0 (by decide)) (heO (by decide)) rfl uw_X6 8 (by decide) rfl rfl wf_X6_30 dX6_fallsIn_46 ?_
    refine v_aload_n F dX6_fallsIn_49 rfl 1 rfl ?_
    refine v_get F (id_Q 0 (by decide)) (heO (by decide)) rfl uw_X6 8 (by decide) rfl rfl wf_X6_30 dX6_fallsIn_50 ?_
    refine v_getN F (id_S (Or.inl rfl) (by decide)) ((heO (by decide)).trans ((celD_S (Or.inl rfl)))) rfl uw_X5 9 (by decide) rfl rfl wf_X6_90 dX6_fallsIn_53 ?_
    refine v_callVi F (As := [_]) (rest := [.int _]) rfl (c_X5_sum_9 G (Or.inl rfl)) (Rv_S (Or.inl rfl)) wm_X6_109 rfl ⟨rfl, rfl, Nat.le_of_ble_eq_true rfl, Nat.le_of_ble_eq_true rfl, Nat.le_of_ble_eq_true rfl, Nat.le_of_ble_eq_true rfl, Nat.le_of_ble_eq_true rfl⟩ dX6_fallsIn_56 ?_
    refine v_isub F dX6_fallsIn_59 ?_
    refine v_topr (plR b jc tc ln σ n) (fallsIn_e C n) ?_
    exact v_iret F hr dX6_fallsIn_60 rfl rfl rfl
abbrev rm_X6_falls : Room := { frames := 3, cells := 0, slots := 0, locals := 66 }
set_option maxHeartbeats 4000000 in
set_option maxRecDepth 100000 in
theorem L_X6_falls (F : Fx p l s m args meth c cX6_falls 3 RX6 X) (G : Gx X l) {σ τ : Sg} {jc tc b : Nat} {ln : Nat → Nat} (C : Cp σ (M 2) τ jc tc b ln) (hb : b + 201 < 2 ^ 31) {f : Nat} (hf : sI (τ 9 0) 12 = nI f) (hf2 : f + 12 < 2 ^ 31) (K : ∀ (r : Int32) (τ1 : Sg) (pc : Nat), decode cX6_falls pc = .ok (.ireturn, 1) → ∀ lv0, r = flF (fFall1 σ b jc tc ln) 200 1 → τ1 = ggL (M 2) b jc tc ln τ (flN (fFall1 σ b jc tc ln) 200 1) → V p l e rm_X6_falls s m args below meth c Q X 3 ex (uC M 4 τ1) lf 0 0 pc lv0 [.int r]) : ∀ (k a : Nat), k + a = 201 → 1 ≤ a → plR b jc tc ln σ (a - 1) = 0 → flF (fFall1 σ b jc tc ln) 200 1 = flF (fFall1 σ b jc tc ln) k a → flN (fFall1 σ b jc tc ln) 200 1 = flN (fFall1 σ b jc tc ln) k a → V p l e rm_X6_falls s m args below meth c Q X 3 ex (uC M 4 (ggL (M 2) b jc tc ln τ (a - 1))) lf 0 0 33 [(2, .int (nI a)), (1, .int (nI f)), (0, .ref (X.2.1 2 0 0))] [] := by
  intro k
  induction k with
  | zero =>
    intro a ha h1 hz e1 e2
    obtain rfl : a = 201 := by omega
    refine v_iload_n F dX6_falls_33 rfl 0 rfl ?_
    refine v_sipush F (v := nI 200) dX6_falls_34 (by decide) ?_
    refine v_icmp_gt F (tgt := 73) dX6_falls_37 (by decide) (fun c37 => ?_) (fun h => absurd (nI_lt (by decide) (by decide)) h)
    refine v_iconst F (v := (-1)) dX6_falls_73 (by decide) ?_
    refine K _ _ 74 dX6_falls_74 _ (by rw [e1]; rfl) (by rw [e2]; rfl)
  | succ k ih =>
    intro a ha h1 hz e1 e2
    obtain ⟨g, rfl⟩ : ∃ g, a = g + 1 := ⟨a - 1, by omega⟩
    rw [Nat.add_sub_cancel] at hz
    rw [Nat.add_sub_cancel]
    have hg : b + g < 2 ^ 31 := by omega
    obtain ⟨d, d1, d2⟩ := dnR_n (hd := (b + g) % 2) (σ := plL b jc tc ln σ g) tc
    have hff : fFall1 σ b jc tc ln (g + 1) = nI d := d2
    have h12 := C.1.1.2.1
    have hs : sI (ggL (M 2) b jc tc ln τ (g + 1) 9 0) 12 = nI (f + d) := by
      rw [(Cp_play C (g + 1)).2, hf]
      show nI f + (plR b jc tc ln σ g + fFall1 σ b jc tc ln (g + 1)) = nI (f + d)
      rw [hz, hff, Int32.zero_add, nI_add]
    refine v_iload_n F dX6_falls_33 rfl 0 rfl ?_
    refine v_sipush F (v := nI 200) dX6_falls_34 (by decide) ?_
    refine v_icmp_gt F (tgt := 73) dX6_falls_37 (by decide) (fun h => absurd h (nI_nlt (by omega) (by omega))) (fun c37 => ?_)
    refine v_aload_n F dX6_falls_40 rfl 2 rfl ?_
    refine v_get F (id_Q 0 (by decide)) (heO (by decide)) rfl uw_X6 9 (by decide) rfl rfl wf_X6_34 dX6_falls_41 ?_
    refine v_callVv F (As := []) (rest := []) rfl (c_X5_go G (Or.inr rfl) (Cp_play C g).1 hg) (Rv_S (Or.inr rfl)) wm_X6_113 rfl ⟨rfl, rfl, Nat.le_of_ble_eq_true rfl, Nat.le_of_ble_eq_true rfl, Nat.le_of_ble_eq_true rfl, Nat.le_of_ble_eq_true rfl, Nat.le_of_ble_eq_true rfl⟩ dX6_falls_44 ?_
    refine v_aload_n F dX6_falls_47 rfl 2 rfl ?_
    refine v_get F (id_Q 0 (by decide)) (heO (by decide)) rfl uw_X6 9 (by decide) rfl rfl wf_X6_34 dX6_falls_48 ?_
    refine v_aload_n F dX6_falls_51 rfl 2 rfl ?_
    refine v_get F (id_Q 0 (by decide)) (heO (by decide)) rfl uw_X6 9 (by decide) rfl rfl wf_X6_34 dX6_falls_52 ?_
    refine v_getN F (id_S (Or.inr rfl) (by decide)) (heS (Or.inr rfl)) rfl uw_X5 9 (by decide) rfl rfl wf_X6_90 dX6_falls_55 ?_
    refine v_callVi F (As := [_]) (rest := []) rfl (c_X5_sum_9 G (Or.inr rfl)) (Rv_S (Or.inr rfl)) wm_X6_109 rfl ⟨rfl, rfl, Nat.le_of_ble_eq_true rfl, Nat.le_of_ble_eq_true rfl, Nat.le_of_ble_eq_true rfl, Nat.le_of_ble_eq_true rfl, Nat.le_of_ble_eq_true rfl⟩ dX6_falls_58 ?_
    refine v_topr (nI (f + d)) hs ?_
    refine v_iload_n F dX6_falls_61 rfl 1 rfl ?_
    refine v_icmp_le F (tgt := 67) dX6_falls_62 (by decide) (fun c62 => ?_) (fun c62 => ?_)
    · have := c62
      have hd0 : d = 0 := by
        have := (nI_leI (show f + d < 2 ^ 31 by omega) (show f < 2 ^ 31 by omega)).mp c62
        omega
      subst hd0
      refine v_iinc F (k := 0) (nI (g + 1 + 1)) dX6_falls_67 rfl (iinc_nI (g + 1)) (by decide) (lv' := [(2, .int _), (1, .int _), (0, .ref _)]) rfl ?_
      refine v_goto F (tgt := 33) dX6_falls_70 (by decide) ?_
      refine ih (g + 1 + 1) (by omega) (by omega) ?_ ?_ ?_
      · show plR b jc tc ln σ g + fFall1 σ b jc tc ln (g + 1) = 0
        rw [hz, hff]; rfl
      · rw [e1, flF, hff, if_pos (by decide)]
      · rw [e2, flN, hff, if_pos (by decide)]
    · have := c62
      have hd0 : ¬ fFall1 σ b jc tc ln (g + 1) ≤ 0 := by
        rw [hff]
        refine nI_nle (Nat.pos_of_ne_zero (fun z => c62 ?_)) (by omega)
        rw [z]; exact Int32.le_refl _
      refine v_iload_n F dX6_falls_65 rfl 0 rfl ?_
      refine K _ _ 66 dX6_falls_66 _ ?_ ?_
      · rw [e1, flF, if_neg hd0]
      · rw [e2, flN, if_neg hd0]; rfl
set_option maxHeartbeats 4000000 in
set_option maxRecDepth 100000 in
theorem c_X6_falls {X : Cx} {l : Launch} (G : Gx X l) {M : Mem} {lf : Lf} {σ : Sg} {jc tc b : Nat} {ln : Nat → Nat} (C : Cp σ (M 2) (M 3) jc tc b ln) (hb : b + 201 < 2 ^ 31) {f : Nat} (hf : sI (M 3 9 0) 12 = nI f) (hf2 : f + 12 < 2 ^ 31) : CI X l yX6_falls (wsc yX6_falls cX6_falls 3 (some .int)) rm_X6_falls [.ref (X.2.1 2 0 0)] (M) lf (flF (fFall1 σ b jc tc ln) 200 1) (uC (uC M 2 (u3 (M 2) 0 0 0 0)) 4 (ggL (u3 (M 2) 0 0 0 0) b jc tc ln (gBec (M 4) (M 3)) (flN (fFall1 σ b jc tc ln) 200 1))) lf 0 0 := by
  refine CI_of (lv := [(0, .ref _)]) G (by decide) (Nat.le_of_ble_eq_true rfl) rfl (fun p e s m args below meth c F hr => ?_)
  have F : Fx p l s m args meth c cX6_falls 3 RX6 X := F
  have h4 := C.1.1.1
  have h12 := C.1.1.2.1
  have hJ := C.1.2.1
  have hT := C.1.2.2.1
  refine v_mem (uC_self _ 2) ?_
  refine v_aload_n F dX6_falls_0 rfl 0 rfl ?_
  refine v_iconst F (v := 0) dX6_falls_1 (by decide) ?_
  refine v_putC F tyX6 tyX6_ok nmX6 (id_Q 0 (by decide)) rfl rfl uw_X6 0 (by decide) rfl rfl (by decide +kernel) rfl (Nat.le_of_ble_eq_true rfl) wf_X6_37 dX6_falls_2 ?_
  refine v_aload_n F dX6_falls_5 rfl 0 rfl ?_
  refine v_get F (id_Q 0 (by decide)) heQ rfl uw_X6 8 (by decide) rfl rfl wf_X6_30 dX6_falls_6 ?_
  refine v_aload_n F dX6_falls_9 rfl 0 rfl ?_
  refine v_get F (id_Q 0 (by decide)) heQ rfl uw_X6 8 (by decide) rfl rfl wf_X6_30 dX6_falls_10 ?_
  refine v_getN F (id_S (Or.inl rfl) (by decide)) ((heO (by decide)).trans ((celD_S (Or.inl rfl)))) rfl uw_X5 9 (by decide) rfl rfl wf_X6_90 dX6_falls_13 ?_
  refine v_callVi F (As := [_]) (rest := []) rfl (c_X5_sum_9 G (Or.inl rfl)) (Rv_S (Or.inl rfl)) wm_X6_109 rfl ⟨rfl, rfl, Nat.le_of_ble_eq_true rfl, Nat.le_of_ble_eq_true rfl, Nat.le_of_ble_eq_true rfl, Nat.le_of_ble_eq_true rfl, Nat.le_of_ble_eq_true rfl⟩ dX6_falls_16 ?_
  refine v_topr (nI f) hf ?_
  refine v_istore_n F dX6_falls_19 rfl (by decide) (lv' := [(1, .int _), (0, .ref _)]) rfl ?_
  refine v_open 4 (M 4) rfl ?_
  refine v_aload_n F dX6_falls_20 rfl 1 rfl ?_
  refine v_get F (id_Q 0 (by decide)) ((heO (by decide)).trans (heQ)) rfl uw_X6 9 (by decide) rfl rfl wf_X6_34 dX6_falls_21 ?_
  refine v_aload_n F dX6_falls_24 rfl 1 rfl ?_
  refine v_get F (id_Q 0 (by decide)) ((heO (by decide)).trans (heQ)) rfl uw_X6 8 (by decide) rfl rfl wf_X6_30 dX6_falls_25 ?_
  refine v_callVv F (As := [_]) (rest := []) rfl (c_X5_become G) (Rv_S (Or.inr rfl)) wm_X6_122 rfl ⟨rfl, rfl, Nat.le_of_ble_eq_true rfl, Nat.le_of_ble_eq_true rfl, Nat.le_of_ble_eq_true rfl, Nat.le_of_ble_eq_true rfl, Nat.le_of_ble_eq_true rfl⟩ dX6_falls_28 ?_
  refine v_iconst F (v := nI 1) dX6_falls_31 (by decide) ?_
  refine v_istore_n F dX6_falls_32 rfl (by decide) (lv' := [(2, .int _), (1, .int _), (0, .ref _)]) rfl ?_
  refine L_X6_falls F G (M := uC M 2 (u3 (M 2) 0 0 0 0)) (σ := σ) (τ := gBec (M 4) (M 3)) (Cp_bec (Cp_q C 0)) hb (bec_sum.trans hf) hf2 (fun r τ1 pc hd lv0 h1 h2 => ?_) 200 1 rfl (by decide) rfl rfl rfl
  exact v_iret F hr hd h1 (by rw [h2]; rfl) rfl
abbrev rm_X6_foresee : Room := { frames := 4, cells := 0, slots := 0, locals := 88 }
set_option maxHeartbeats 4000000 in
set_option maxRecDepth 100000 in
theorem c_X6_foresee_0 {X : Cx} {l : Launch} (G : Gx X l) {M : Mem} {lf : Lf} {σ : Sg} {jc tc b : Nat} {ln : Nat → Nat} (C : Cp σ (M 2) (M 3) jc tc b ln) {n : Nat} (h1 : 1 ≤ n) (hn : n ≤ 200) (hb : b + n < 2 ^ 31) : CI X l yX6_foresee (wsc yX6_foresee cX6_foresee 4 (some .int)) rm_X6_foresee [.ref (X.2.1 2 0 0), .int (nI n), .int (nI 0)] (M) lf (fIn (plL b jc tc ln σ n) tc 2) (uC (uC M 2 (u3 (M 2) 0 0 0 0)) 4 (ggL (u3 (M 2) 0 0 0 0) b jc tc ln (gBec (M 4) (M 3)) n)) lf 0 0 := by
  refine CI_of (lv := [(0, .ref _), (1, .int _), (2, .int _)]) G (by decide) (Nat.le_of_ble_eq_true rfl) rfl (fun p e s m args below meth c F hr => ?_)
  have F : Fx p l s m args meth c cX6_foresee 4 RX6 X := F
  have h4 := C.1.1.1
  have h12 := C.1.1.2.1
  have hJ := C.1.2.1
  have hT := C.1.2.2.1
  have hJQ : (uC M 2 (u3 (M 2) 0 0 0 0)) 2 0 0 1 = nI jc := by rw [uC_at, u3_ne (by decide)]; exact hJ
  have hTQ : (uC M 2 (u3 (M 2) 0 0 0 0)) 2 0 0 2 = nI tc := by rw [uC_at, u3_ne (by decide)]; exact hT
  have CQ : Cp σ ((uC M 2 (u3 (M 2) 0 0 0 0)) 2) ((uC M 2 (u3 (M 2) 0 0 0 0)) 3) jc tc b ln := Cp_q C 0
  have C2 := (Cp_play (Cp_bec (ρ := M 4) (Cp_q C 0)) n).1
  refine v_mem (uC_self _ 2) ?_
  refine v_aload_n F dX6_foresee_0 rfl 0 rfl ?_
  refine v_iconst F (v := 0) dX6_foresee_1 (by decide) ?_
  refine v_putC F tyX6 tyX6_ok nmX6 (id_Q 0 (by decide)) rfl rfl uw_X6 0 (by decide) rfl rfl (by decide +kernel) rfl (Nat.le_of_ble_eq_true rfl) wf_X6_37 dX6_foresee_2 ?_
  refine v_iload_n F dX6_foresee_5 rfl 1 rfl ?_
  refine v_iconst F (v := nI 1) dX6_foresee_6 (by decide) ?_
  refine v_sipush F (v := nI 200) dX6_foresee_7 (by decide) ?_
  refine v_callSi F (As := [_, _, _]) (rest := []) rfl (c_X6_isIn_y G (nI_nlt h1 (by omega)) (nI_nlt hn (by decide))) wm_X6_44 rfl ⟨rfl, rfl, Nat.le_of_ble_eq_true rfl, Nat.le_of_ble_eq_true rfl, Nat.le_of_ble_eq_true rfl, Nat.le_of_ble_eq_true rfl, Nat.le_of_ble_eq_true rfl⟩ dX6_foresee_10 ?_
  refine v_if_ne F (tgt := 22) dX6_foresee_13 (by decide) (fun c13 => ?_) (fun h => absurd h ((by decide)))
  refine v_iload_n F dX6_foresee_22 rfl 2 rfl ?_
  refine v_iconst F (v := 0) dX6_foresee_23 (by decide) ?_
  refine v_iconst F (v := 2) dX6_foresee_24 (by decide) ?_
  refine v_callSi F (As := [_, _, _]) (rest := []) rfl (c_X6_isIn_y G (by decide) (by decide)) wm_X6_44 rfl ⟨rfl, rfl, Nat.le_of_ble_eq_true rfl, Nat.le_of_ble_eq_true rfl, Nat.le_of_ble_eq_true rfl, Nat.le_of_ble_eq_true rfl, Nat.le_of_ble_eq_true rfl⟩ dX6_foresee_25 ?_
  refine v_if_ne F (tgt := 37) dX6_foresee_28 (by decide) (fun c28 => ?_) (fun h => absurd h ((by decide)))
  refine v_open 4 (M 4) rfl ?_
  refine v_aload_n F dX6_foresee_37 rfl 0 rfl ?_
  refine v_iload_n F dX6_foresee_38 rfl 1 rfl ?_
  refine v_callVi F (As := [_]) (rest := []) rfl (c_X6_fallsIn G CQ hb) Rv_Q wm_X6_126 rfl ⟨rfl, rfl, Nat.le_of_ble_eq_true rfl, Nat.le_of_ble_eq_true rfl, Nat.le_of_ble_eq_true rfl, Nat.le_of_ble_eq_true rfl, Nat.le_of_ble_eq_true rfl⟩ dX6_foresee_39 ?_
  refine v_istore_n F dX6_foresee_42 rfl (by decide) (lv' := [(3, .int _), (0, .ref _), (1, .int _), (2, .int _)]) rfl ?_
  refine v_iload_n F dX6_foresee_43 rfl 3 rfl ?_
  refine v_if_ne F (tgt := 58) dX6_foresee_44 (by decide) (fun h => absurd ((by decide)) h) (fun c44 => ?_)
  refine v_aload_n F dX6_foresee_47 rfl 1 rfl ?_
  refine v_get F (id_Q 0 (by decide)) ((heO (by decide)).trans (heQ)) rfl uw_X6 9 (by decide) rfl rfl wf_X6_34 dX6_foresee_48 ?_
  refine v_iconst F (v := 2) dX6_foresee_51 (by decide) ?_
  refine v_callVi F (As := [_]) (rest := []) rfl (c_X5_are G (Or.inr rfl) h12 (by rw [uC_ne (by decide)]; exact hTQ) 2) (Rv_S (Or.inr rfl)) wm_X6_116 rfl ⟨rfl, rfl, Nat.le_of_ble_eq_true rfl, Nat.le_of_ble_eq_true rfl, Nat.le_of_ble_eq_true rfl, Nat.le_of_ble_eq_true rfl, Nat.le_of_ble_eq_true rfl⟩ dX6_foresee_52 ?_
  refine v_topr (fIn (plL b jc tc ln σ n) tc 2) (are_e C2 2) ?_
  refine v_goto F (tgt := 81) dX6_foresee_55 (by decide) ?_
  exact v_iret F hr dX6_foresee_81 rfl rfl rfl
set_option maxHeartbeats 4000000 in
set_option maxRecDepth 100000 in
theorem c_X6_foresee_1 {X : Cx} {l : Launch} (G : Gx X l) {M : Mem} {lf : Lf} {σ : Sg} {jc tc b : Nat} {ln : Nat → Nat} (C : Cp σ (M 2) (M 3) jc tc b ln) {n : Nat} (h1 : 1 ≤ n) (hn : n ≤ 200) (hb : b + n < 2 ^ 31) : CI X l yX6_foresee (wsc yX6_foresee cX6_foresee 4 (some .int)) rm_X6_foresee [.ref (X.2.1 2 0 0), .int (nI n), .int (nI 1)] (M) lf (plR b jc tc ln σ n) (uC (uC M 2 (u3 (M 2) 0 0 0 0)) 4 (ggL (u3 (M 2) 0 0 0 0) b jc tc ln (gBec (M 4) (M 3)) n)) lf 0 0 := by
  refine CI_of (lv := [(0, .ref _), (1, .int _), (2, .int _)]) G (by decide) (Nat.le_of_ble_eq_true rfl) rfl (fun p e s m args below meth c F hr => ?_)
  have F : Fx p l s m args meth c cX6_foresee 4 RX6 X := F
  have h4 := C.1.1.1
  have h12 := C.1.1.2.1
  have hJ := C.1.2.1
  have hT := C.1.2.2.1
  have hJQ : (uC M 2 (u3 (M 2) 0 0 0 0)) 2 0 0 1 = nI jc := by rw [uC_at, u3_ne (by decide)]; exact hJ
  have hTQ : (uC M 2 (u3 (M 2) 0 0 0 0)) 2 0 0 2 = nI tc := by rw [uC_at, u3_ne (by decide)]; exact hT
  have CQ : Cp σ ((uC M 2 (u3 (M 2) 0 0 0 0)) 2) ((uC M 2 (u3 (M 2) 0 0 0 0)) 3) jc tc b ln := Cp_q C 0
  have C2 := (Cp_play (Cp_bec (ρ := M 4) (Cp_q C 0)) n).1
  refine v_mem (uC_self _ 2) ?_
  refine v_aload_n F dX6_foresee_0 rfl 0 rfl ?_
  refine v_iconst F (v := 0) dX6_foresee_1 (by decide) ?_
  refine v_putC F tyX6 tyX6_ok nmX6 (id_Q 0 (by decide)) rfl rfl uw_X6 0 (by decide) rfl rfl (by decide +kernel) rfl (Nat.le_of_ble_eq_true rfl) wf_X6_37 dX6_foresee_2 ?_
  refine v_iload_n F dX6_foresee_5 rfl 1 rfl ?_
  refine v_iconst F (v := nI 1) dX6_foresee_6 (by decide) ?_
  refine v_sipush F (v := nI 200) dX6_foresee_7 (by decide) ?_
  refine v_callSi F (As := [_, _, _]) (rest := []) rfl (c_X6_isIn_y G (nI_nlt h1 (by omega)) (nI_nlt hn (by decide))) wm_X6_44 rfl ⟨rfl, rfl, Nat.le_of_ble_eq_true rfl, Nat.le_of_ble_eq_true rfl, Nat.le_of_ble_eq_true rfl, Nat.le_of_ble_eq_true rfl, Nat.le_of_ble_eq_true rfl⟩ dX6_foresee_10 ?_
  refine v_if_ne F (tgt := 22) dX6_foresee_13 (by decide) (fun c13 => ?_) (fun h => absurd h ((by decide)))
  refine v_iload_n F dX6_foresee_22 rfl 2 rfl ?_
  refine v_iconst F (v := 0) dX6_foresee_23 (by decide) ?_
  refine v_iconst F (v := 2) dX6_foresee_24 (by decide) ?_
  refine v_callSi F (As := [_, _, _]) (rest := []) rfl (c_X6_isIn_y G (by decide) (by decide)) wm_X6_44 rfl ⟨rfl, rfl, Nat.le_of_ble_eq_true rfl, Nat.le_of_ble_eq_true rfl, Nat.le_of_ble_eq_true rfl, Nat.le_of_ble_eq_true rfl, Nat.le_of_ble_eq_true rfl⟩ dX6_foresee_25 ?_
  refine v_if_ne F (tgt := 37) dX6_foresee_28 (by decide) (fun c28 => ?_) (fun h => absurd h ((by decide)))
  refine v_open 4 (M 4) rfl ?_
  refine v_aload_n F dX6_foresee_37 rfl 0 rfl ?_
  refine v_iload_n F dX6_foresee_38 rfl 1 rfl ?_
  refine v_callVi F (As := [_]) (rest := []) rfl (c_X6_fallsIn G CQ hb) Rv_Q wm_X6_126 rfl ⟨rfl, rfl, Nat.le_of_ble_eq_true rfl, Nat.le_of_ble_eq_true rfl, Nat.le_of_ble_eq_true rfl, Nat.le_of_ble_eq_true rfl, Nat.le_of_ble_eq_true rfl⟩ dX6_foresee_39 ?_
  refine v_istore_n F dX6_foresee_42 rfl (by decide) (lv' := [(3, .int _), (0, .ref _), (1, .int _), (2, .int _)]) rfl ?_
  refine v_iload_n F dX6_foresee_43 rfl 3 rfl ?_
  refine v_if_ne F (tgt := 58) dX6_foresee_44 (by decide) (fun c44 => ?_) (fun h => absurd h ((by decide)))
  refine v_iload_n F dX6_foresee_58 rfl 3 rfl ?_
  refine v_iconst F (v := 1) dX6_foresee_59 (by decide) ?_
  refine v_icmp_ne F (tgt := 67) dX6_foresee_60 (by decide) (fun h => absurd ((by decide)) h) (fun c60 => ?_)
  refine v_iload_n F dX6_foresee_63 rfl 0 rfl ?_
  refine v_goto F (tgt := 81) dX6_foresee_64 (by decide) ?_
  exact v_iret F hr dX6_foresee_81 rfl rfl rfl
set_option maxHeartbeats 4000000 in
set_option maxRecDepth 100000 in
theorem c_X6_foresee_2 {X : Cx} {l : Launch} (G : Gx X l) {M : Mem} {lf : Lf} {σ : Sg} {jc tc b : Nat} {ln : Nat → Nat} (C : Cp σ (M 2) (M 3) jc tc b ln) {n : Nat} (h1 : 1 ≤ n) (hn : n ≤ 200) (hb : b + n < 2 ^ 31) : CI X l yX6_foresee (wsc yX6_foresee cX6_foresee 4 (some .int)) rm_X6_foresee [.ref (X.2.1 2 0 0), .int (nI n), .int (nI 2)] (M) lf (sI (fun k => plL b jc tc ln σ n 2 k 3) jc) (uC (uC M 2 (u3 (M 2) 0 0 0 0)) 4 (ggL (u3 (M 2) 0 0 0 0) b jc tc ln (gBec (M 4) (M 3)) n)) lf 0 0 := by
  refine CI_of (lv := [(0, .ref _), (1, .int _), (2, .int _)]) G (by decide) (Nat.le_of_ble_eq_true rfl) rfl (fun p e s m args below meth c F hr => ?_)
  have F : Fx p l s m args meth c cX6_foresee 4 RX6 X := F
  have h4 := C.1.1.1
  have h12 := C.1.1.2.1
  have hJ := C.1.2.1
  have hT := C.1.2.2.1
  have hJQ : (uC M 2 (u3 (M 2) 0 0 0 0)) 2 0 0 1 = nI jc := by rw [uC_at, u3_ne (by decide)]; exact hJ
  have hTQ : (uC M 2 (u3 (M 2) 0 0 0 0)) 2 0 0 2 = nI tc := by rw [uC_at, u3_ne (by decide)]; exact hT
  have CQ : Cp σ ((uC M 2 (u3 (M 2) 0 0 0 0)) 2) ((uC M 2 (u3 (M 2) 0 0 0 0)) 3) jc tc b ln := Cp_q C 0
  have C2 := (Cp_play (Cp_bec (ρ := M 4) (Cp_q C 0)) n).1
  refine v_mem (uC_self _ 2) ?_
  refine v_aload_n F dX6_foresee_0 rfl 0 rfl ?_
  refine v_iconst F (v := 0) dX6_foresee_1 (by decide) ?_
  refine v_putC F tyX6 tyX6_ok nmX6 (id_Q 0 (by decide)) rfl rfl uw_X6 0 (by decide) rfl rfl (by decide +kernel) rfl (Nat.le_of_ble_eq_true rfl) wf_X6_37 dX6_foresee_2 ?_
  refine v_iload_n F dX6_foresee_5 rfl 1 rfl ?_
  refine v_iconst F (v := nI 1) dX6_foresee_6 (by decide) ?_
  refine v_sipush F (v := nI 200) dX6_foresee_7 (by decide) ?_
  refine v_callSi F (As := [_, _, _]) (rest := []) rfl (c_X6_isIn_y G (nI_nlt h1 (by omega)) (nI_nlt hn (by decide))) wm_X6_44 rfl ⟨rfl, rfl, Nat.le_of_ble_eq_true rfl, Nat.le_of_ble_eq_true rfl, Nat.le_of_ble_eq_true rfl, Nat.le_of_ble_eq_true rfl, Nat.le_of_ble_eq_true rfl⟩ dX6_foresee_10 ?_
  refine v_if_ne F (tgt := 22) dX6_foresee_13 (by decide) (fun c13 => ?_) (fun h => absurd h ((by decide)))
  refine v_iload_n F dX6_foresee_22 rfl 2 rfl ?_
  refine v_iconst F (v := 0) dX6_foresee_23 (by decide) ?_
  refine v_iconst F (v := 2) dX6_foresee_24 (by decide) ?_
  refine v_callSi F (As := [_, _, _]) (rest := []) rfl (c_X6_isIn_y G (by decide) (by decide)) wm_X6_44 rfl ⟨rfl, rfl, Nat.le_of_ble_eq_true rfl, Nat.le_of_ble_eq_true rfl, Nat.le_of_ble_eq_true rfl, Nat.le_of_ble_eq_true rfl, Nat.le_of_ble_eq_true rfl⟩ dX6_foresee_25 ?_
  refine v_if_ne F (tgt := 37) dX6_foresee_28 (by decide) (fun c28 => ?_) (fun h => absurd h ((by decide)))
  refine v_open 4 (M 4) rfl ?_
  refine v_aload_n F dX6_foresee_37 rfl 0 rfl ?_
  refine v_iload_n F dX6_foresee_38 rfl 1 rfl ?_
  refine v_callVi F (As := [_]) (rest := []) rfl (c_X6_fallsIn G CQ hb) Rv_Q wm_X6_126 rfl ⟨rfl, rfl, Nat.le_of_ble_eq_true rfl, Nat.le_of_ble_eq_true rfl, Nat.le_of_ble_eq_true rfl, Nat.le_of_ble_eq_true rfl, Nat.le_of_ble_eq_true rfl⟩ dX6_foresee_39 ?_
  refine v_istore_n F dX6_foresee_42 rfl (by decide) (lv' := [(3, .int _), (0, .ref _), (1, .int _), (2, .int _)]) rfl ?_
  refine v_iload_n F dX6_foresee_43 rfl 3 rfl ?_
  refine v_if_ne F (tgt := 58) dX6_foresee_44 (by decide) (fun c44 => ?_) (fun h => absurd h ((by decide)))
  refine v_iload_n F dX6_foresee_58 rfl 3 rfl ?_
  refine v_iconst F (v := 1) dX6_foresee_59 (by decide) ?_
  refine v_icmp_ne F (tgt := 67) dX6_foresee_60 (by decide) (fun c60 => ?_) (fun h => absurd h ((by decide)))
  refine v_aload_n F dX6_foresee_67 rfl 1 rfl ?_
  refine v_get F (id_Q 0 (by decide)) ((heO (by decide)).trans (heQ)) rfl uw_X6 9 (by decide) rfl rfl wf_X6_34 dX6_foresee_68 ?_
  refine v_aload_n F dX6_foresee_71 rfl 1 rfl ?_
  refine v_get F (id_Q 0 (by decide)) ((heO (by decide)).trans (heQ)) rfl uw_X6 9 (by decide) rfl rfl wf_X6_34 dX6_foresee_72 ?_
  refine v_getN F (id_S (Or.inr rfl) (by decide)) (heS (Or.inr rfl)) rfl uw_X5 1 (by decide) rfl rfl wf_X6_97 dX6_foresee_75 ?_
  refine v_callVi F (As := [_]) (rest := []) rfl (c_X5_sum_1 G (Or.inr rfl)) (Rv_S (Or.inr rfl)) wm_X6_109 rfl ⟨rfl, rfl, Nat.le_of_ble_eq_true rfl, Nat.le_of_ble_eq_true rfl, Nat.le_of_ble_eq_true rfl, Nat.le_of_ble_eq_true rfl, Nat.le_of_ble_eq_true rfl⟩ dX6_foresee_78 ?_
  refine v_topr (sI (fun k => plL b jc tc ln σ n 2 k 3) jc) (sum_b C2) ?_
  exact v_iret F hr dX6_foresee_81 rfl rfl rfl
set_option maxHeartbeats 4000000 in
set_option maxRecDepth 100000 in
theorem c_X6_foresee_b {X : Cx} {l : Launch} (G : Gx X l) {M : Mem} {lf : Lf} {x y : Int32} (hx : x < 1 ∨ nI 200 < x) : CI X l yX6_foresee (wsc yX6_foresee cX6_foresee 4 (some .int)) rm_X6_foresee [.ref (X.2.1 2 0 0), .int x, .int y] (M) lf (0) (uC M 2 (u3 (u3 (M 2) 0 0 0 0) 0 0 0 1)) lf 0 0 := by
  refine CI_of (lv := [(0, .ref _), (1, .int _), (2, .int _)]) G (by decide) (Nat.le_of_ble_eq_true rfl) rfl (fun p e s m args below meth c F hr => ?_)
  have F : Fx p l s m args meth c cX6_foresee 4 RX6 X := F
  refine v_mem (uC_self _ 2) ?_
  refine v_aload_n F dX6_foresee_0 rfl 0 rfl ?_
  refine v_iconst F (v := 0) dX6_foresee_1 (by decide) ?_
  refine v_putC F tyX6 tyX6_ok nmX6 (id_Q 0 (by decide)) rfl rfl uw_X6 0 (by decide) rfl rfl (by decide +kernel) rfl (Nat.le_of_ble_eq_true rfl) wf_X6_37 dX6_foresee_2 ?_
  refine v_iload_n F dX6_foresee_5 rfl 1 rfl ?_
  refine v_iconst F (v := 1) dX6_foresee_6 (by decide) ?_
  refine v_sipush F (v := nI 200) dX6_foresee_7 (by decide) ?_
  refine v_callSi F (As := [_, _, _]) (rest := []) rfl (c_X6_isIn_n G hx) wm_X6_44 rfl ⟨rfl, rfl, Nat.le_of_ble_eq_true rfl, Nat.le_of_ble_eq_true rfl, Nat.le_of_ble_eq_true rfl, Nat.le_of_ble_eq_true rfl, Nat.le_of_ble_eq_true rfl⟩ dX6_foresee_10 ?_
  refine v_if_ne F (tgt := 22) dX6_foresee_13 (by decide) (fun h => absurd (rfl) h) (fun c13 => ?_)
  refine v_aload_n F dX6_foresee_16 rfl 0 rfl ?_
  refine v_iconst F (v := 1) dX6_foresee_17 (by decide) ?_
  refine v_callVi F (As := [_]) (rest := []) rfl (c_X6_no G 1) Rv_Q wm_X6_55 rfl ⟨rfl, rfl, Nat.le_of_ble_eq_true rfl, Nat.le_of_ble_eq_true rfl, Nat.le_of_ble_eq_true rfl, Nat.le_of_ble_eq_true rfl, Nat.le_of_ble_eq_true rfl⟩ dX6_foresee_18 ?_
  exact v_iret F hr dX6_foresee_21 rfl rfl rfl
set_option maxHeartbeats 4000000 in
set_option maxRecDepth 100000 in
theorem c_X6_foresee_w {X : Cx} {l : Launch} (G : Gx X l) {M : Mem} {lf : Lf} {n : Nat} (h1 : 1 ≤ n) (hn : n ≤ 200) {y : Int32} (hx : y < 0 ∨ nI 3 ≤ y) : CI X l yX6_foresee (wsc yX6_foresee cX6_foresee 4 (some .int)) rm_X6_foresee [.ref (X.2.1 2 0 0), .int (nI n), .int y] (M) lf (0) (uC M 2 (u3 (u3 (M 2) 0 0 0 0) 0 0 0 2)) lf 0 0 := by
  refine CI_of (lv := [(0, .ref _), (1, .int _), (2, .int _)]) G (by decide) (Nat.le_of_ble_eq_true rfl) rfl (fun p e s m args below meth c F hr => ?_)
  have F : Fx p l s m args meth c cX6_foresee 4 RX6 X := F
  refine v_mem (uC_self _ 2) ?_
  refine v_aload_n F dX6_foresee_0 rfl 0 rfl ?_
  refine v_iconst F (v := 0) dX6_foresee_1 (by decide) ?_
  refine v_putC F tyX6 tyX6_ok nmX6 (id_Q 0 (by decide)) rfl rfl uw_X6 0 (by decide) rfl rfl (by decide +kernel) rfl (Nat.le_of_ble_eq_true rfl) wf_X6_37 dX6_foresee_2 ?_
  refine v_iload_n F dX6_foresee_5 rfl 1 rfl ?_
  refine v_iconst F (v := nI 1) dX6_foresee_6 (by decide) ?_
  refine v_sipush F (v := nI 200) dX6_foresee_7 (by decide) ?_
  refine v_callSi F (As := [_, _, _]) (rest := []) rfl (c_X6_isIn_y G (nI_nlt h1 (by omega)) (nI_nlt hn (by decide))) wm_X6_44 rfl ⟨rfl, rfl, Nat.le_of_ble_eq_true rfl, Nat.le_of_ble_eq_true rfl, Nat.le_of_ble_eq_true rfl, Nat.le_of_ble_eq_true rfl, Nat.le_of_ble_eq_true rfl⟩ dX6_foresee_10 ?_
  refine v_if_ne F (tgt := 22) dX6_foresee_13 (by decide) (fun c13 => ?_) (fun h => absurd h ((by decide)))
  refine v_iload_n F dX6_foresee_22 rfl 2 rfl ?_
  refine v_iconst F (v := 0) dX6_foresee_23 (by decide) ?_
  refine v_iconst F (v := (nI 3 - 1)) dX6_foresee_24 (by decide) ?_
  refine v_callSi F (As := [_, _, _]) (rest := []) rfl (c_X6_isIn_n G (m1_n (by decide) hx)) wm_X6_44 rfl ⟨rfl, rfl, Nat.le_of_ble_eq_true rfl, Nat.le_of_ble_eq_true rfl, Nat.le_of_ble_eq_true rfl, Nat.le_of_ble_eq_true rfl, Nat.le_of_ble_eq_true rfl⟩ dX6_foresee_25 ?_
  refine v_if_ne F (tgt := 37) dX6_foresee_28 (by decide) (fun h => absurd (rfl) h) (fun c28 => ?_)
  refine v_aload_n F dX6_foresee_31 rfl 0 rfl ?_
  refine v_iconst F (v := 2) dX6_foresee_32 (by decide) ?_
  refine v_callVi F (As := [_]) (rest := []) rfl (c_X6_no G 2) Rv_Q wm_X6_55 rfl ⟨rfl, rfl, Nat.le_of_ble_eq_true rfl, Nat.le_of_ble_eq_true rfl, Nat.le_of_ble_eq_true rfl, Nat.le_of_ble_eq_true rfl, Nat.le_of_ble_eq_true rfl⟩ dX6_foresee_33 ?_
  exact v_iret F hr dX6_foresee_36 rfl rfl rfl
abbrev rm_X6_advise : Room := { frames := 4, cells := 0, slots := 0, locals := 88 }
def riL (q τ : Sg) (b jc tc : Nat) (ln : Nat → Nat) (n a : Nat) : Nat → Nat → Sg → Sg
  | 0, _, ρ => ρ
  | k + 1, h, ρ => riL q τ b jc tc ln n a k (h + 1) (ggL (u3 q 3 0 a (nI h)) b jc tc ln (gBec ρ τ) n)
def roL (q τ : Sg) (b jc tc : Nat) (ln : Nat → Nat) (n j : Nat) : Nat → Nat → Sg → Sg
  | 0, _, ρ => ρ
  | k + 1, z, ρ => roL q τ b jc tc ln n j k (z + 1) (riL q τ b jc tc ln n (8 * j + z) 10 0 ρ)
set_option maxHeartbeats 4000000 in
set_option maxRecDepth 100000 in
theorem L1_X6_advise (F : Fx p l s m args meth c cX6_advise 10 RX6 X) (G : Gx X l) {σ q : Sg} {jc tc b n j : Nat} {ln : Nat → Nat} (C : Cp σ q (M 3) jc tc b ln) (hb : b + n < 2 ^ 31) (hj : j < jc) {z : Nat} (hz : z < ln j) {u : Int32} {W0 : Int32 × Int32} {R0 : Sg} (K : ∀ (h v fw ad : Int32) (ρ : Sg), (fw, ad) = W0 → ρ = R0 → V p l e rm_X6_advise s m args below meth c Q X 10 ex (uC (uC M 2 (u3 q 3 0 (8 * j + z) v)) 4 ρ) lf 0 0 130 [(8, .int h), (7, .int u), (6, .int (nI (8 * j + z))), (5, .int (nI z)), (4, .int ad), (3, .int fw), (0, .ref (X.2.1 2 0 0)), (1, .int (nI j)), (2, .int (nI n))] []) : ∀ (k h : Nat) (v fw ad : Int32) (ρ : Sg), k + h = 10 → W0 = bI (fun z h => plR b jc tc ln (u3 σ 4 j z (nI h)) n) z k h fw ad → R0 = riL q (M 3) b jc tc ln n (8 * j + z) k h ρ → V p l e rm_X6_advise s m args below meth c Q X 10 ex (uC (uC M 2 (u3 q 3 0 (8 * j + z) v)) 4 ρ) lf 0 0 79 [(8, .int (nI h)), (7, .int u), (6, .int (nI (8 * j + z))), (5, .int (nI z)), (4, .int ad), (3, .int fw), (0, .ref (X.2.1 2 0 0)), (1, .int (nI j)), (2, .int (nI n))] [] := by
  have h4 := C.1.1.1
  have hl8 := (C.1.1.2.2.2.2 j hj).2.1
  intro k
  induction k with
  | zero =>
    intro h v fw ad ρ hk e1 e2
    obtain rfl : h = 10 := by omega
    refine v_iload F dX6_advise_79 0 rfl ?_
    refine v_bipush F (v := nI 9) dX6_advise_81 (by decide) ?_
    refine v_icmp_gt F (tgt := 130) dX6_advise_83 (by decide) (fun c83 => ?_) (fun h => absurd (nI_lt (by decide) (by decide)) h)
    exact K _ _ _ _ _ e1.symm e2.symm
  | succ k ih =>
    intro h v fw ad ρ hk e1 e2
    have Ch := Cp_with C hj hz (show h ≤ 9 by omega)
    have C3 : Cp (u3 σ 4 j z (nI h)) ((uC M 2 (u3 q 3 0 (8 * j + z) (nI h))) 2) ((uC M 2 (u3 q 3 0 (8 * j + z) (nI h))) 3) jc tc b ln := Ch
    refine v_iload F dX6_advise_79 0 rfl ?_
    refine v_bipush F (v := nI 9) dX6_advise_81 (by decide) ?_
    refine v_icmp_gt F (tgt := 130) dX6_advise_83 (by decide) (fun h => absurd h (nI_nlt (by omega) (by omega))) (fun c83 => ?_)
    refine v_mem (uC_comm M (by decide) _ _) ?_
    refine v_aload_n F dX6_advise_86 rfl 6 rfl ?_
    refine v_get F (id_Q 0 (by decide)) heQ rfl uw_X6 5 (by decide) rfl rfl wf_X6_16 dX6_advise_87 ?_
    refine v_iload F dX6_advise_90 2 rfl ?_
    refine v_iload F dX6_advise_92 0 rfl ?_
    refine v_iastC F (id_Q 3 (by decide)) rfl rfl (8 * j + z) (Ix_nI (by omega)) rfl dX6_advise_94 ?_
    refine v_mem (M' := uC (uC M 2 (u3 q 3 0 (8 * j + z) (nI h))) 4 ρ) (by rw [u3_u3]; exact uC_comm M (by decide) _ _) ?_
    refine v_aload_n F dX6_advise_95 rfl 6 rfl ?_
    refine v_iload_n F dX6_advise_96 rfl 8 rfl ?_
    refine v_callVi F (As := [_]) (rest := []) rfl (c_X6_fallsIn G C3 hb) Rv_Q wm_X6_126 rfl ⟨rfl, rfl, Nat.le_of_ble_eq_true rfl, Nat.le_of_ble_eq_true rfl, Nat.le_of_ble_eq_true rfl, Nat.le_of_ble_eq_true rfl, Nat.le_of_ble_eq_true rfl⟩ dX6_advise_97 ?_
    refine v_istore F dX6_advise_100 (by decide) (lv' := [(9, .int _), (8, .int _), (7, .int _), (6, .int _), (5, .int _), (4, .int _), (3, .int _), (0, .ref _), (1, .int _), (2, .int _)]) rfl ?_
    refine v_iload F dX6_advise_102 0 rfl ?_
    refine v_iload_n F dX6_advise_104 rfl 6 rfl ?_
    refine v_icmp_lt F (tgt := 111) dX6_advise_105 (by decide) (fun c105 => ?_) (fun c105 => ?_)
    · have := c105
      rw [bI, if_pos c105] at e1
      refine v_iload F dX6_advise_111 0 rfl ?_
      refine v_istore_n F dX6_advise_113 rfl (by decide) (lv' := [(3, .int _), (9, .int _), (8, .int _), (7, .int _), (6, .int _), (5, .int _), (4, .int _), (0, .ref _), (1, .int _), (2, .int _)]) rfl ?_
      refine v_bipush F (v := 10) dX6_advise_114 (by decide) ?_
      refine v_iload F dX6_advise_116 5 rfl ?_
      refine v_imul F dX6_advise_118 ?_
      refine v_iload F dX6_advise_119 2 rfl ?_
      refine v_iadd F dX6_advise_121 ?_
      refine v_istore F dX6_advise_122 (by decide) (lv' := [(4, .int _), (3, .int _), (9, .int _), (8, .int _), (7, .int _), (6, .int _), (5, .int _), (0, .ref _), (1, .int _), (2, .int _)]) rfl ?_
      refine v_iinc F (k := 3) (nI (h + 1)) dX6_advise_124 rfl (iinc_nI h) (by decide) (lv' := [(8, .int _), (4, .int _), (3, .int _), (9, .int _), (7, .int _), (6, .int _), (5, .int _), (0, .ref _), (1, .int _), (2, .int _)]) rfl ?_
      refine v_goto F (tgt := 79) dX6_advise_127 (by decide) ?_
      refine v_locs [0, 4, 5, 6, 1, 2, 7, 8, 9] rfl ?_
      exact ih (h + 1) _ _ _ _ (by omega) e1 e2
    · have := c105
      rw [bI, if_neg c105] at e1
      refine v_goto F (tgt := 124) dX6_advise_108 (by decide) ?_
      refine v_iinc F (k := 1) (nI (h + 1)) dX6_advise_124 rfl (iinc_nI h) (by decide) (lv' := [(8, .int _), (9, .int _), (7, .int _), (6, .int _), (5, .int _), (4, .int _), (3, .int _), (0, .ref _), (1, .int _), (2, .int _)]) rfl ?_
      refine v_goto F (tgt := 79) dX6_advise_127 (by decide) ?_
      refine v_locs [0, 2, 3, 4, 5, 6, 7, 8, 9] rfl ?_
      exact ih (h + 1) _ _ _ _ (by omega) e1 e2
set_option maxHeartbeats 4000000 in
set_option maxRecDepth 100000 in
theorem L2_X6_advise (F : Fx p l s m args meth c cX6_advise 10 RX6 X) (G : Gx X l) {σ q : Sg} {jc tc b n j : Nat} {ln : Nat → Nat} (C : Cp σ q (M 3) jc tc b ln) (hb : b + n < 2 ^ 31) (hj : j < jc) {V0 : Int32} {R0 : Sg} (K : ∀ (z fw ad : Int32) (ρ : Sg), ad = V0 → ρ = R0 → V p l e rm_X6_advise s m args below meth c Q X 10 ex (uC (uC M 2 q) 4 ρ) lf 0 0 145 [(5, .int z), (4, .int ad), (3, .int fw), (0, .ref (X.2.1 2 0 0)), (1, .int (nI j)), (2, .int (nI n))] []) : ∀ (k z : Nat) (fw ad : Int32) (ρ : Sg), k + z = ln j → V0 = bO (fun z h => plR b jc tc ln (u3 σ 4 j z (nI h)) n) k z fw ad → R0 = roL q (M 3) b jc tc ln n j k z ρ → V p l e rm_X6_advise s m args below meth c Q X 10 ex (uC (uC M 2 q) 4 ρ) lf 0 0 47 [(5, .int (nI z)), (4, .int ad), (3, .int fw), (0, .ref (X.2.1 2 0 0)), (1, .int (nI j)), (2, .int (nI n))] [] := by
  have h4 := C.1.1.1
  have hl8 := (C.1.1.2.2.2.2 j hj).2.1
  have hl := (C.1.2.2.2.1 j hj).2.1
  intro k
  induction k with
  | zero =>
    intro z fw ad ρ hk e1 e2
    obtain rfl : z = ln j := by omega
    refine v_iload F dX6_advise_47 0 rfl ?_
    refine v_aload_n F dX6_advise_49 rfl 3 rfl ?_
    refine v_get F (id_Q 0 (by decide)) ((heO (by decide)).trans (heQ)) rfl uw_X6 4 (by decide) rfl rfl wf_X6_13 dX6_advise_50 ?_
    refine v_iload_n F dX6_advise_53 rfl 4 rfl ?_
    refine v_iald F (id_Q 2 (by decide)) ((heO (by decide)).trans (heQ)) rfl (j) (Ix_nI (by omega)) dX6_advise_54 ?_
    refine v_topr (nI (ln j)) hl ?_
    refine v_icmp_ge F (tgt := 145) dX6_advise_55 (by decide) (fun c55 => ?_) (fun h => absurd (nI_le (Nat.le_refl _) (by omega)) h)
    exact K _ _ _ _ e1.symm e2.symm
  | succ k ih =>
    intro z fw ad ρ hk e1 e2
    refine v_iload F dX6_advise_47 0 rfl ?_
    refine v_aload_n F dX6_advise_49 rfl 3 rfl ?_
    refine v_get F (id_Q 0 (by decide)) ((heO (by decide)).trans (heQ)) rfl uw_X6 4 (by decide) rfl rfl wf_X6_13 dX6_advise_50 ?_
    refine v_iload_n F dX6_advise_53 rfl 4 rfl ?_
    refine v_iald F (id_Q 2 (by decide)) ((heO (by decide)).trans (heQ)) rfl (j) (Ix_nI (by omega)) dX6_advise_54 ?_
    refine v_topr (nI (ln j)) hl ?_
    refine v_icmp_ge F (tgt := 145) dX6_advise_55 (by decide) (fun h => absurd h (nI_ge (by omega) (by omega))) (fun c55 => ?_)
    refine v_bipush F (v := nI 8) dX6_advise_58 (by decide) ?_
    refine v_iload_n F dX6_advise_60 rfl 4 rfl ?_
    refine v_imul F dX6_advise_61 ?_
    refine v_iload F dX6_advise_62 0 rfl ?_
    refine v_iadd F dX6_advise_64 ?_
    refine v_topr (nI (8 * j + z)) (by rw [pk_mul, nI_add]) ?_
    refine v_istore F dX6_advise_65 (by decide) (lv' := [(6, .int _), (5, .int _), (4, .int _), (3, .int _), (0, .ref _), (1, .int _), (2, .int _)]) rfl ?_
    refine v_aload_n F dX6_advise_67 rfl 4 rfl ?_
    refine v_get F (id_Q 0 (by decide)) ((heO (by decide)).trans (heQ)) rfl uw_X6 5 (by decide) rfl rfl wf_X6_16 dX6_advise_68 ?_
    refine v_iload F dX6_advise_71 0 rfl ?_
    refine v_iald F (id_Q 3 (by decide)) ((heO (by decide)).trans (heQ)) rfl (8 * j + z) (Ix_nI (by omega)) dX6_advise_73 ?_
    refine v_istore F dX6_advise_74 (by decide) (lv' := [(7, .int _), (6, .int _), (5, .int _), (4, .int _), (3, .int _), (0, .ref _), (1, .int _), (2, .int _)]) rfl ?_
    refine v_iconst F (v := nI 0) dX6_advise_76 (by decide) ?_
    refine v_istore F dX6_advise_77 (by decide) (lv' := [(8, .int _), (7, .int _), (6, .int _), (5, .int _), (4, .int _), (3, .int _), (0, .ref _), (1, .int _), (2, .int _)]) rfl ?_
    refine v_locs [0, 1, 2, 3, 4, 5, 6, 7, 8] rfl ?_
    refine v_mem (M' := uC (uC M 2 (u3 q 3 0 (8 * j + z) (q 3 0 (8 * j + z)))) 4 ρ) (by rw [u3_self]) ?_
    refine L1_X6_advise F G C hb hj (show z < ln j by omega) (fun h2 v2 fw2 ad2 ρ2 e3 e4 => ?_) 10 0 _ fw ad ρ rfl rfl rfl
    · skip
      refine v_mem (uC_comm M (by decide) _ _) ?_
      refine v_aload_n F dX6_advise_130 rfl 6 rfl ?_
      refine v_get F (id_Q 0 (by decide)) heQ rfl uw_X6 5 (by decide) rfl rfl wf_X6_16 dX6_advise_131 ?_
      refine v_iload F dX6_advise_134 2 rfl ?_
      refine v_iload F dX6_advise_136 1 rfl ?_
      refine v_iastC F (id_Q 3 (by decide)) rfl rfl (8 * j + z) (Ix_nI (by omega)) rfl dX6_advise_138 ?_
      refine v_mem (M' := uC (uC M 2 q) 4 ρ2) (by rw [u3_u3]; show _ = uC (uC M 4 ρ2) 2 (u3 q 3 0 (8 * j + z) (q 3 0 (8 * j + z))); rw [u3_self]; exact uC_comm M (by decide) _ _) ?_
      refine v_iinc F (k := 3) (nI (z + 1)) dX6_advise_139 rfl (iinc_nI z) (by decide) (lv' := [(5, .int _), (8, .int _), (7, .int _), (6, .int _), (4, .int _), (3, .int _), (0, .ref _), (1, .int _), (2, .int _)]) rfl ?_
      refine v_goto F (tgt := 47) dX6_advise_142 (by decide) ?_
      refine v_locs [0, 4, 5, 6, 7, 8] rfl ?_
      refine ih (z + 1) _ _ _ (by omega) ?_ ?_
      · rw [e1, bO, ← e3]
      · rw [e2, roL, ← e4]
set_option maxHeartbeats 4000000 in
set_option maxRecDepth 100000 in
theorem c_X6_advise {X : Cx} {l : Launch} (G : Gx X l) {M : Mem} {lf : Lf} {σ : Sg} {jc tc b : Nat} {ln : Nat → Nat} (C : Cp σ (M 2) (M 3) jc tc b ln) {j n : Nat} (hj : j < jc) (h1 : 1 ≤ n) (hn : n ≤ 60) (hb : b + n < 2 ^ 31) : CI X l yX6_advise (wsc yX6_advise cX6_advise 10 (some .int)) rm_X6_advise [.ref (X.2.1 2 0 0), .int (nI j), .int (nI n)] (M) lf (bO (fun z h => plR b jc tc ln (u3 σ 4 j z (nI h)) n) (ln j) 0 (plR b jc tc ln σ n) (-1)) (uC (uC M 2 (u3 (M 2) 0 0 0 0)) 4 (roL (u3 (M 2) 0 0 0 0) (M 3) b jc tc ln n j (ln j) 0 (ggL (u3 (M 2) 0 0 0 0) b jc tc ln (gBec (M 4) (M 3)) n))) lf 0 0 := by
  refine CI_of (lv := [(0, .ref _), (1, .int _), (2, .int _)]) G (by decide) (Nat.le_of_ble_eq_true rfl) rfl (fun p e s m args below meth c F hr => ?_)
  have F : Fx p l s m args meth c cX6_advise 10 RX6 X := F
  have h4 := C.1.1.1
  have h12 := C.1.1.2.1
  have hJ := C.1.2.1
  have hT := C.1.2.2.1
  have hJQ : (uC M 2 (u3 (M 2) 0 0 0 0)) 2 0 0 1 = nI jc := by rw [uC_at, u3_ne (by decide)]; exact hJ
  have hTQ : (uC M 2 (u3 (M 2) 0 0 0 0)) 2 0 0 2 = nI tc := by rw [uC_at, u3_ne (by decide)]; exact hT
  have CQ : Cp σ ((uC M 2 (u3 (M 2) 0 0 0 0)) 2) ((uC M 2 (u3 (M 2) 0 0 0 0)) 3) jc tc b ln := Cp_q C 0
  refine v_mem (uC_self _ 2) ?_
  refine v_aload_n F dX6_advise_0 rfl 0 rfl ?_
  refine v_iconst F (v := 0) dX6_advise_1 (by decide) ?_
  refine v_putC F tyX6 tyX6_ok nmX6 (id_Q 0 (by decide)) rfl rfl uw_X6 0 (by decide) rfl rfl (by decide +kernel) rfl (Nat.le_of_ble_eq_true rfl) wf_X6_37 dX6_advise_2 ?_
  refine v_aload_n F dX6_advise_5 rfl 0 rfl ?_
  refine v_iload_n F dX6_advise_6 rfl 1 rfl ?_
  refine v_callVi F (As := [_]) (rest := []) rfl (c_X6_isJuggler_y G (hJQ) (by omega) hj) Rv_Q wm_X6_51 rfl ⟨rfl, rfl, Nat.le_of_ble_eq_true rfl, Nat.le_of_ble_eq_true rfl, Nat.le_of_ble_eq_true rfl, Nat.le_of_ble_eq_true rfl, Nat.le_of_ble_eq_true rfl⟩ dX6_advise_7 ?_
  refine v_if_ne F (tgt := 19) dX6_advise_10 (by decide) (fun c10 => ?_) (fun h => absurd h ((by decide)))
  refine v_iload_n F dX6_advise_19 rfl 2 rfl ?_
  refine v_iconst F (v := nI 1) dX6_advise_20 (by decide) ?_
  refine v_bipush F (v := nI 60) dX6_advise_21 (by decide) ?_
  refine v_callSi F (As := [_, _, _]) (rest := []) rfl (c_X6_isIn_y G (nI_nlt h1 (by omega)) (nI_nlt hn (by decide))) wm_X6_44 rfl ⟨rfl, rfl, Nat.le_of_ble_eq_true rfl, Nat.le_of_ble_eq_true rfl, Nat.le_of_ble_eq_true rfl, Nat.le_of_ble_eq_true rfl, Nat.le_of_ble_eq_true rfl⟩ dX6_advise_23 ?_
  refine v_if_ne F (tgt := 35) dX6_advise_26 (by decide) (fun c26 => ?_) (fun h => absurd h ((by decide)))
  refine v_open 4 (M 4) rfl ?_
  refine v_aload_n F dX6_advise_35 rfl 0 rfl ?_
  refine v_iload_n F dX6_advise_36 rfl 2 rfl ?_
  refine v_callVi F (As := [_]) (rest := []) rfl (c_X6_fallsIn G CQ hb) Rv_Q wm_X6_126 rfl ⟨rfl, rfl, Nat.le_of_ble_eq_true rfl, Nat.le_of_ble_eq_true rfl, Nat.le_of_ble_eq_true rfl, Nat.le_of_ble_eq_true rfl, Nat.le_of_ble_eq_true rfl⟩ dX6_advise_37 ?_
  refine v_istore_n F dX6_advise_40 rfl (by decide) (lv' := [(3, .int _), (0, .ref _), (1, .int _), (2, .int _)]) rfl ?_
  refine v_iconst F (v := (-1)) dX6_advise_41 (by decide) ?_
  refine v_istore F dX6_advise_42 (by decide) (lv' := [(4, .int _), (3, .int _), (0, .ref _), (1, .int _), (2, .int _)]) rfl ?_
  refine v_iconst F (v := nI 0) dX6_advise_44 (by decide) ?_
  refine v_istore F dX6_advise_45 (by decide) (lv' := [(5, .int _), (4, .int _), (3, .int _), (0, .ref _), (1, .int _), (2, .int _)]) rfl ?_
  refine v_locs [0, 1, 2, 3, 4, 5] rfl ?_
  refine L2_X6_advise F G (Cp_q C 0) hb hj (fun z fw ad ρ e1 e2 => ?_) (ln j) 0 _ _ _ (Nat.add_zero _) rfl rfl
  refine v_iload F dX6_advise_145 1 rfl ?_
  exact v_iret F hr dX6_advise_147 e1 (by rw [e2]; rfl) rfl
set_option maxHeartbeats 4000000 in
set_option maxRecDepth 100000 in
theorem c_X6_advise_j {X : Cx} {l : Launch} (G : Gx X l) {M : Mem} {lf : Lf} {σ : Sg} {jc tc b : Nat} {ln : Nat → Nat} (C : Cp σ (M 2) (M 3) jc tc b ln) {x y : Int32} (hx : x < 0 ∨ nI jc ≤ x) : CI X l yX6_advise (wsc yX6_advise cX6_advise 10 (some .int)) rm_X6_advise [.ref (X.2.1 2 0 0), .int x, .int y] (M) lf (0) (uC M 2 (u3 (u3 (M 2) 0 0 0 0) 0 0 0 1)) lf 0 0 := by
  refine CI_of (lv := [(0, .ref _), (1, .int _), (2, .int _)]) G (by decide) (Nat.le_of_ble_eq_true rfl) rfl (fun p e s m args below meth c F hr => ?_)
  have F : Fx p l s m args meth c cX6_advise 10 RX6 X := F
  have h4 := C.1.1.1
  have h12 := C.1.1.2.1
  have hJ := C.1.2.1
  have hT := C.1.2.2.1
  have hJQ : (uC M 2 (u3 (M 2) 0 0 0 0)) 2 0 0 1 = nI jc := by rw [uC_at, u3_ne (by decide)]; exact hJ
  have hTQ : (uC M 2 (u3 (M 2) 0 0 0 0)) 2 0 0 2 = nI tc := by rw [uC_at, u3_ne (by decide)]; exact hT
  refine v_mem (uC_self _ 2) ?_
  refine v_aload_n F dX6_advise_0 rfl 0 rfl ?_
  refine v_iconst F (v := 0) dX6_advise_1 (by decide) ?_
  refine v_putC F tyX6 tyX6_ok nmX6 (id_Q 0 (by decide)) rfl rfl uw_X6 0 (by decide) rfl rfl (by decide +kernel) rfl (Nat.le_of_ble_eq_true rfl) wf_X6_37 dX6_advise_2 ?_
  refine v_aload_n F dX6_advise_5 rfl 0 rfl ?_
  refine v_iload_n F dX6_advise_6 rfl 1 rfl ?_
  refine v_callVi F (As := [_]) (rest := []) rfl (c_X6_isJuggler_n G (hJQ) (by omega) hx) Rv_Q wm_X6_51 rfl ⟨rfl, rfl, Nat.le_of_ble_eq_true rfl, Nat.le_of_ble_eq_true rfl, Nat.le_of_ble_eq_true rfl, Nat.le_of_ble_eq_true rfl, Nat.le_of_ble_eq_true rfl⟩ dX6_advise_7 ?_
  refine v_if_ne F (tgt := 19) dX6_advise_10 (by decide) (fun h => absurd (rfl) h) (fun c10 => ?_)
  refine v_aload_n F dX6_advise_13 rfl 0 rfl ?_
  refine v_iconst F (v := 1) dX6_advise_14 (by decide) ?_
  refine v_callVi F (As := [_]) (rest := []) rfl (c_X6_no G 1) Rv_Q wm_X6_55 rfl ⟨rfl, rfl, Nat.le_of_ble_eq_true rfl, Nat.le_of_ble_eq_true rfl, Nat.le_of_ble_eq_true rfl, Nat.le_of_ble_eq_true rfl, Nat.le_of_ble_eq_true rfl⟩ dX6_advise_15 ?_
  exact v_iret F hr dX6_advise_18 rfl rfl rfl
set_option maxHeartbeats 4000000 in
set_option maxRecDepth 100000 in
theorem c_X6_advise_b {X : Cx} {l : Launch} (G : Gx X l) {M : Mem} {lf : Lf} {σ : Sg} {jc tc b : Nat} {ln : Nat → Nat} (C : Cp σ (M 2) (M 3) jc tc b ln) {j : Nat} (hj : j < jc) {y : Int32} (hx : y < 1 ∨ nI 60 < y) : CI X l yX6_advise (wsc yX6_advise cX6_advise 10 (some .int)) rm_X6_advise [.ref (X.2.1 2 0 0), .int (nI j), .int y] (M) lf (0) (uC M 2 (u3 (u3 (M 2) 0 0 0 0) 0 0 0 2)) lf 0 0 := by
  refine CI_of (lv := [(0, .ref _), (1, .int _), (2, .int _)]) G (by decide) (Nat.le_of_ble_eq_true rfl) rfl (fun p e s m args below meth c F hr => ?_)
  have F : Fx p l s m args meth c cX6_advise 10 RX6 X := F
  have h4 := C.1.1.1
  have h12 := C.1.1.2.1
  have hJ := C.1.2.1
  have hT := C.1.2.2.1
  have hJQ : (uC M 2 (u3 (M 2) 0 0 0 0)) 2 0 0 1 = nI jc := by rw [uC_at, u3_ne (by decide)]; exact hJ
  have hTQ : (uC M 2 (u3 (M 2) 0 0 0 0)) 2 0 0 2 = nI tc := by rw [uC_at, u3_ne (by decide)]; exact hT
  refine v_mem (uC_self _ 2) ?_
  refine v_aload_n F dX6_advise_0 rfl 0 rfl ?_
  refine v_iconst F (v := 0) dX6_advise_1 (by decide) ?_
  refine v_putC F tyX6 tyX6_ok nmX6 (id_Q 0 (by decide)) rfl rfl uw_X6 0 (by decide) rfl rfl (by decide +kernel) rfl (Nat.le_of_ble_eq_true rfl) wf_X6_37 dX6_advise_2 ?_
  refine v_aload_n F dX6_advise_5 rfl 0 rfl ?_
  refine v_iload_n F dX6_advise_6 rfl 1 rfl ?_
  refine v_callVi F (As := [_]) (rest := []) rfl (c_X6_isJuggler_y G (hJQ) (by omega) hj) Rv_Q wm_X6_51 rfl ⟨rfl, rfl, Nat.le_of_ble_eq_true rfl, Nat.le_of_ble_eq_true rfl, Nat.le_of_ble_eq_true rfl, Nat.le_of_ble_eq_true rfl, Nat.le_of_ble_eq_true rfl⟩ dX6_advise_7 ?_
  refine v_if_ne F (tgt := 19) dX6_advise_10 (by decide) (fun c10 => ?_) (fun h => absurd h ((by decide)))
  refine v_iload_n F dX6_advise_19 rfl 2 rfl ?_
  refine v_iconst F (v := 1) dX6_advise_20 (by decide) ?_
  refine v_bipush F (v := nI 60) dX6_advise_21 (by decide) ?_
  refine v_callSi F (As := [_, _, _]) (rest := []) rfl (c_X6_isIn_n G hx) wm_X6_44 rfl ⟨rfl, rfl, Nat.le_of_ble_eq_true rfl, Nat.le_of_ble_eq_true rfl, Nat.le_of_ble_eq_true rfl, Nat.le_of_ble_eq_true rfl, Nat.le_of_ble_eq_true rfl⟩ dX6_advise_23 ?_
  refine v_if_ne F (tgt := 35) dX6_advise_26 (by decide) (fun h => absurd (rfl) h) (fun c26 => ?_)
  refine v_aload_n F dX6_advise_29 rfl 0 rfl ?_
  refine v_iconst F (v := 2) dX6_advise_30 (by decide) ?_
  refine v_callVi F (As := [_]) (rest := []) rfl (c_X6_no G 2) Rv_Q wm_X6_55 rfl ⟨rfl, rfl, Nat.le_of_ble_eq_true rfl, Nat.le_of_ble_eq_true rfl, Nat.le_of_ble_eq_true rfl, Nat.le_of_ble_eq_true rfl, Nat.le_of_ble_eq_true rfl⟩ dX6_advise_31 ?_
  exact v_iret F hr dX6_advise_34 rfl rfl rfl
abbrev rm_X6_mean : Room := { frames := 1, cells := 0, slots := 0, locals := 26 }
set_option maxHeartbeats 4000000 in
set_option maxRecDepth 100000 in
theorem c_X6_mean {X : Cx} {l : Launch} (G : Gx X l) {M : Mem} {lf : Lf} {σ : Sg} {jc tc b : Nat} {ln : Nat → Nat} (C : Cp σ (M 2) (M 3) jc tc b ln)  : CD X l yX6_mean (wsc yX6_mean cX6_mean 1 (some .double)) rm_X6_mean [.ref (X.2.1 2 0 0)] (M) lf (fMean σ tc) (uC M 2 (u3 (M 2) 0 0 0 0)) lf 0 0 := by
  refine CD_of (lv := [(0, .ref _)]) G (by decide) (Nat.le_of_ble_eq_true rfl) rfl (fun p e s m args below meth c F hr => ?_)
  have F : Fx p l s m args meth c cX6_mean 1 RX6 X := F
  have h4 := C.1.1.1
  have h12 := C.1.1.2.1
  have hJ := C.1.2.1
  have hT := C.1.2.2.1
  refine v_mem (uC_self _ 2) ?_
  refine v_aload_n F dX6_mean_0 rfl 0 rfl ?_
  refine v_iconst F (v := 0) dX6_mean_1 (by decide) ?_
  refine v_putC F tyX6 tyX6_ok nmX6 (id_Q 0 (by decide)) rfl rfl uw_X6 0 (by decide) rfl rfl (by decide +kernel) rfl (Nat.le_of_ble_eq_true rfl) wf_X6_37 dX6_mean_2 ?_
  refine v_aload_n F dX6_mean_5 rfl 0 rfl ?_
  refine v_get F (id_Q 0 (by decide)) heQ rfl uw_X6 8 (by decide) rfl rfl wf_X6_30 dX6_mean_6 ?_
  refine v_getN F (id_S (Or.inl rfl) (by decide)) ((heO (by decide)).trans ((celD_S (Or.inl rfl)))) rfl uw_X5 0 (by decide) rfl rfl wf_X6_84 dX6_mean_9 ?_
  refine v_topr (σ 0 0 4) (C.2.2.1.trans C.2.1.symm) ?_
  refine v_if_ne F (tgt := 19) dX6_mean_12 (by decide) (fun c12 => ?_) (fun c12 => ?_)
  · have := c12
    refine v_aload_n F dX6_mean_19 rfl 0 rfl ?_
    refine v_get F (id_Q 0 (by decide)) heQ rfl uw_X6 8 (by decide) rfl rfl wf_X6_30 dX6_mean_20 ?_
    refine v_aload_n F dX6_mean_23 rfl 0 rfl ?_
    refine v_get F (id_Q 0 (by decide)) heQ rfl uw_X6 8 (by decide) rfl rfl wf_X6_30 dX6_mean_24 ?_
    refine v_getN F (id_S (Or.inl rfl) (by decide)) ((heO (by decide)).trans ((celD_S (Or.inl rfl)))) rfl uw_X5 8 (by decide) rfl rfl wf_X6_87 dX6_mean_27 ?_
    refine v_callVi F (As := [_]) (rest := []) rfl (c_X5_sum_8 G (Or.inl rfl)) (Rv_S (Or.inl rfl)) wm_X6_109 rfl ⟨rfl, rfl, Nat.le_of_ble_eq_true rfl, Nat.le_of_ble_eq_true rfl, Nat.le_of_ble_eq_true rfl, Nat.le_of_ble_eq_true rfl, Nat.le_of_ble_eq_true rfl⟩ dX6_mean_30 ?_
    refine v_topr (sI (fun k => σ 8 k 6) tc) (sum_t C) ?_
    refine v_i2d F dX6_mean_33 ?_
    refine v_aload_n F dX6_mean_34 rfl 0 rfl ?_
    refine v_get F (id_Q 0 (by decide)) heQ rfl uw_X6 8 (by decide) rfl rfl wf_X6_30 dX6_mean_35 ?_
    refine v_getN F (id_S (Or.inl rfl) (by decide)) ((heO (by decide)).trans ((celD_S (Or.inl rfl)))) rfl uw_X5 0 (by decide) rfl rfl wf_X6_84 dX6_mean_38 ?_
    refine v_topr (σ 0 0 4) (C.2.2.1.trans C.2.1.symm) ?_
    refine v_i2d F dX6_mean_41 ?_
    refine v_ddiv F dX6_mean_42 (mean_num _ c12) ?_
    refine v_dret F hr dX6_mean_43 ?_ rfl rfl
    first | (rw [fMean, if_pos c12]; done) | (rw [fMean, if_neg c12]; done)
  · have := c12
    refine v_dconst0 F dX6_mean_15 ?_
    refine v_goto F (tgt := 43) dX6_mean_16 (by decide) ?_
    refine v_dret F hr dX6_mean_43 ?_ rfl rfl
    first | (rw [fMean, if_pos c12]; done) | (rw [fMean, if_neg c12]; done)
abbrev rm_X6_digest : Room := { frames := 2, cells := 121, slots := 865, locals := 48 }
set_option maxHeartbeats 4000000 in
set_option maxRecDepth 100000 in
theorem L1_X6_digest (F : Fx p l s m args meth c cX6_digest 5 RX6 X) (G : Gx X l) {σ : Sg} {jc tc b : Nat} {ln : Nat → Nat} (C : Cp σ (M 2) (M 3) jc tc b ln) (K : V p l e rm_X6_digest s m args below meth c Q X 5 ex (M) lf 9 81 36 [(3, .int (nI 9)), (1, .long (dgL (fTellC σ tc) 953 9)), (0, .ref (X.2.1 2 0 0))] []) : ∀ (k q : Nat), k + q = 9 → V p l e rm_X6_digest s m args below meth c Q X 5 ex (M) lf q (9 * q) 11 [(3, .int (nI q)), (1, .long (dgL (fTellC σ tc) 953 q)), (0, .ref (X.2.1 2 0 0))] [] := by
  intro k
  induction k with
  | zero =>
    intro q hq
    obtain rfl : q = 9 := by omega
    refine v_iload_n F dX6_digest_11 rfl 0 rfl ?_
    refine v_bipush F (v := nI 8) dX6_digest_12 (by decide) ?_
    refine v_icmp_gt F (tgt := 36) dX6_digest_14 (by decide) (fun c14 => ?_) (fun h => absurd (nI_lt (by decide) (by decide)) h)
    exact K
  | succ k ih =>
    intro q hq
    refine v_iload_n F dX6_digest_11 rfl 0 rfl ?_
    refine v_bipush F (v := nI 8) dX6_digest_12 (by decide) ?_
    refine v_icmp_gt F (tgt := 36) dX6_digest_14 (by decide) (fun h => absurd h (nI_nlt (by omega) (by omega))) (fun c14 => ?_)
    refine v_lload_n F dX6_digest_17 rfl 1 rfl ?_
    refine v_ldc2 F wk_X6_131 dX6_digest_18 ?_
    refine v_lmul F dX6_digest_21 ?_
    refine v_aload_n F dX6_digest_22 rfl 2 rfl ?_
    refine v_iload_n F dX6_digest_23 rfl 0 rfl ?_
    refine v_callVi F (As := [_]) (rest := [.long _]) rfl (c_X6_counted G C (show q < 9 by omega)) Rv_Q wm_X6_119 rfl ⟨rfl, rfl, Nat.le_of_ble_eq_true rfl, Nat.le_of_ble_eq_true rfl, (show q + 1 ≤ 121 by omega), (show 9 * q + 9 ≤ 865 by omega), Nat.le_of_ble_eq_true rfl⟩ dX6_digest_24 ?_
    refine v_i2l F dX6_digest_27 ?_
    refine v_ladd F dX6_digest_28 ?_
    refine v_lstore_n F dX6_digest_29 rfl (by decide) (lv' := [(1, .long _), (3, .int _), (0, .ref _)]) rfl ?_
    refine v_iinc F (k := 1) (nI (q + 1)) dX6_digest_30 rfl (iinc_nI q) (by decide) (lv' := [(3, .int _), (1, .long _), (0, .ref _)]) rfl ?_
    refine v_goto F (tgt := 11) dX6_digest_33 (by decide) ?_
    exact v_locs [0, 1, 2] rfl (v_widen (Nat.le_of_eq (by omega)) (Nat.le_of_eq (by omega)) (ih (q + 1) (by omega)))
set_option maxHeartbeats 4000000 in
set_option maxRecDepth 100000 in
theorem L2i_X6_digest (F : Fx p l s m args meth c cX6_digest 5 RX6 X) (G : Gx X l) {σ : Sg} {jc tc b : Nat} {ln : Nat → Nat} (C : Cp σ (M 2) (M 3) jc tc b ln) {q c0 s0 : Nat} {d : Int64} (hq0 : q < jc) (hc0 : c0 + 7 ≤ 121) (hs0 : s0 + 49 ≤ 865) (K : V p l e rm_X6_digest s m args below meth c Q X 5 ex (M) lf (c0 + 7) (s0 + 49) 77 [(4, .int (nI 7)), (3, .int (nI q)), (1, .long (dgL (fTellJ σ tc q) d 7)), (0, .ref (X.2.1 2 0 0))] []) : ∀ (k a : Nat), k + a = 7 → V p l e rm_X6_digest s m args below meth c Q X 5 ex (M) lf (c0 + a) (s0 + 7 * a) 49 [(4, .int (nI a)), (3, .int (nI q)), (1, .long (dgL (fTellJ σ tc q) d a)), (0, .ref (X.2.1 2 0 0))] [] := by
  intro k
  induction k with
  | zero =>
    intro a ha
    obtain rfl : a = 7 := by omega
    refine v_iload F dX6_digest_49 0 rfl ?_
    refine v_bipush F (v := nI 6) dX6_digest_51 (by decide) ?_
    refine v_icmp_gt F (tgt := 77) dX6_digest_53 (by decide) (fun c53 => ?_) (fun h => absurd (nI_lt (by decide) (by decide)) h)
    exact K
  | succ k ih =>
    intro a ha
    refine v_iload F dX6_digest_49 0 rfl ?_
    refine v_bipush F (v := nI 6) dX6_digest_51 (by decide) ?_
    refine v_icmp_gt F (tgt := 77) dX6_digest_53 (by decide) (fun h => absurd h (nI_nlt (by omega) (by omega))) (fun c53 => ?_)
    refine v_lload_n F dX6_digest_56 rfl 2 rfl ?_
    refine v_ldc2 F wk_X6_131 dX6_digest_57 ?_
    refine v_lmul F dX6_digest_60 ?_
    refine v_aload_n F dX6_digest_61 rfl 3 rfl ?_
    refine v_iload_n F dX6_digest_62 rfl 1 rfl ?_
    refine v_iload F dX6_digest_63 0 rfl ?_
    refine v_callVi F (As := [_, _]) (rest := [.long _]) rfl (c_X6_jugglerTold G C hq0 (show a < 7 by omega)) Rv_Q wm_X6_103 rfl ⟨rfl, rfl, Nat.le_of_ble_eq_true rfl, Nat.le_of_ble_eq_true rfl, (show c0 + a + 1 ≤ 121 by omega), (show s0 + 7 * a + 7 ≤ 865 by omega), Nat.le_of_ble_eq_true rfl⟩ dX6_digest_65 ?_
    refine v_i2l F dX6_digest_68 ?_
    refine v_ladd F dX6_digest_69 ?_
    refine v_lstore_n F dX6_digest_70 rfl (by decide) (lv' := [(1, .long _), (4, .int _), (3, .int _), (0, .ref _)]) rfl ?_
    refine v_iinc F (k := 1) (nI (a + 1)) dX6_digest_71 rfl (iinc_nI a) (by decide) (lv' := [(4, .int _), (1, .long _), (3, .int _), (0, .ref _)]) rfl ?_
    refine v_goto F (tgt := 49) dX6_digest_74 (by decide) ?_
    refine v_locs [0, 2, 1, 3] rfl ?_
    exact v_widen (Nat.le_of_eq (by omega)) (Nat.le_of_eq (by omega)) (ih (a + 1) (by omega))
set_option maxHeartbeats 4000000 in
set_option maxRecDepth 100000 in
theorem L3i_X6_digest (F : Fx p l s m args meth c cX6_digest 5 RX6 X) (G : Gx X l) {σ : Sg} {jc tc b : Nat} {ln : Nat → Nat} (C : Cp σ (M 2) (M 3) jc tc b ln) {q c0 s0 : Nat} {d : Int64} (hq0 : q < tc) (hc0 : c0 + 7 ≤ 121) (hs0 : s0 + 49 ≤ 865) (K : V p l e rm_X6_digest s m args below meth c Q X 5 ex (M) lf (c0 + 7) (s0 + 49) 182 [(4, .int (nI 7)), (3, .int (nI q)), (1, .long (dgL (fTellT σ q) d 7)), (0, .ref (X.2.1 2 0 0))] []) : ∀ (k a : Nat), k + a = 7 → V p l e rm_X6_digest s m args below meth c Q X 5 ex (M) lf (c0 + a) (s0 + 7 * a) 154 [(4, .int (nI a)), (3, .int (nI q)), (1, .long (dgL (fTellT σ q) d a)), (0, .ref (X.2.1 2 0 0))] [] := by
  intro k
  induction k with
  | zero =>
    intro a ha
    obtain rfl : a = 7 := by omega
    refine v_iload F dX6_digest_154 0 rfl ?_
    refine v_bipush F (v := nI 6) dX6_digest_156 (by decide) ?_
    refine v_icmp_gt F (tgt := 182) dX6_digest_158 (by decide) (fun c158 => ?_) (fun h => absurd (nI_lt (by decide) (by decide)) h)
    exact K
  | succ k ih =>
    intro a ha
    refine v_iload F dX6_digest_154 0 rfl ?_
    refine v_bipush F (v := nI 6) dX6_digest_156 (by decide) ?_
    refine v_icmp_gt F (tgt := 182) dX6_digest_158 (by decide) (fun h => absurd h (nI_nlt (by omega) (by omega))) (fun c158 => ?_)
    refine v_lload_n F dX6_digest_161 rfl 2 rfl ?_
    refine v_ldc2 F wk_X6_131 dX6_digest_162 ?_
    refine v_lmul F dX6_digest_165 ?_
    refine v_aload_n F dX6_digest_166 rfl 3 rfl ?_
    refine v_iload_n F dX6_digest_167 rfl 1 rfl ?_
    refine v_iload F dX6_digest_168 0 rfl ?_
    refine v_callVi F (As := [_, _]) (rest := [.long _]) rfl (c_X6_thingTold G C hq0 (show a < 7 by omega)) Rv_Q wm_X6_93 rfl ⟨rfl, rfl, Nat.le_of_ble_eq_true rfl, Nat.le_of_ble_eq_true rfl, (show c0 + a + 1 ≤ 121 by omega), (show s0 + 7 * a + 7 ≤ 865 by omega), Nat.le_of_ble_eq_true rfl⟩ dX6_digest_170 ?_
    refine v_i2l F dX6_digest_173 ?_
    refine v_ladd F dX6_digest_174 ?_
    refine v_lstore_n F dX6_digest_175 rfl (by decide) (lv' := [(1, .long _), (4, .int _), (3, .int _), (0, .ref _)]) rfl ?_
    refine v_iinc F (k := 1) (nI (a + 1)) dX6_digest_176 rfl (iinc_nI a) (by decide) (lv' := [(4, .int _), (1, .long _), (3, .int _), (0, .ref _)]) rfl ?_
    refine v_goto F (tgt := 154) dX6_digest_179 (by decide) ?_
    refine v_locs [0, 2, 1, 3] rfl ?_
    exact v_widen (Nat.le_of_eq (by omega)) (Nat.le_of_eq (by omega)) (ih (a + 1) (by omega))
set_option maxHeartbeats 4000000 in
set_option maxRecDepth 100000 in
theorem L2p_X6_digest (F : Fx p l s m args meth c cX6_digest 5 RX6 X) (G : Gx X l) {σ : Sg} {jc tc b : Nat} {ln : Nat → Nat} (C : Cp σ (M 2) (M 3) jc tc b ln) {q : Nat} {d : Int64} (hq0 : q < jc) (K : V p l e R s m args below meth c Q X 5 ex (M) lf cells slots 135 [(4, .int (nI (ln q))), (3, .int (nI q)), (1, .long (adL σ q d (ln q))), (0, .ref (X.2.1 2 0 0))] []) : ∀ (k a : Nat), k + a = ln q → V p l e R s m args below meth c Q X 5 ex (M) lf cells slots 80 [(4, .int (nI a)), (3, .int (nI q)), (1, .long (adL σ q d a)), (0, .ref (X.2.1 2 0 0))] [] := by
  have h4 := C.1.1.1
  have hl := (C.1.2.2.2.1 q hq0).2.1
  have hl8 := (C.1.1.2.2.2.2 q hq0).2.1
  intro k
  induction k with
  | zero =>
    intro a ha
    obtain rfl : a = ln q := by omega
    refine v_iload F dX6_digest_80 0 rfl ?_
    refine v_aload_n F dX6_digest_82 rfl 3 rfl ?_
    refine v_get F (id_Q 0 (by decide)) rfl rfl uw_X6 4 (by decide) rfl rfl wf_X6_13 dX6_digest_83 ?_
    refine v_iload_n F dX6_digest_86 rfl 1 rfl ?_
    refine v_iald F (id_Q 2 (by decide)) rfl rfl (q) (Ix_nI (by omega)) dX6_digest_87 ?_
    refine v_topr (nI (ln q)) hl ?_
    refine v_icmp_ge F (tgt := 135) dX6_digest_88 (by decide) (fun c88 => ?_) (fun h => absurd (nI_le (Nat.le_refl _) (by omega)) h)
    exact K
  | succ k ih =>
    intro a ha
    obtain ⟨vh, vt, v9, vtj, e1, e2, e3, e4⟩ := (C.1.2.2.2.1 q hq0).2.2 a (by omega)
    refine v_iload F dX6_digest_80 0 rfl ?_
    refine v_aload_n F dX6_digest_82 rfl 3 rfl ?_
    refine v_get F (id_Q 0 (by decide)) rfl rfl uw_X6 4 (by decide) rfl rfl wf_X6_13 dX6_digest_83 ?_
    refine v_iload_n F dX6_digest_86 rfl 1 rfl ?_
    refine v_iald F (id_Q 2 (by decide)) rfl rfl (q) (Ix_nI (by omega)) dX6_digest_87 ?_
    refine v_topr (nI (ln q)) hl ?_
    refine v_icmp_ge F (tgt := 135) dX6_digest_88 (by decide) (fun h => absurd h (nI_ge (by omega) (by omega))) (fun c88 => ?_)
    refine v_lload_n F dX6_digest_91 rfl 2 rfl ?_
    refine v_ldc2 F wk_X6_131 dX6_digest_92 ?_
    refine v_lmul F dX6_digest_95 ?_
    refine v_aload_n F dX6_digest_96 rfl 3 rfl ?_
    refine v_get F (id_Q 0 (by decide)) rfl rfl uw_X6 5 (by decide) rfl rfl wf_X6_16 dX6_digest_97 ?_
    refine v_bipush F (v := nI 8) dX6_digest_100 (by decide) ?_
    refine v_iload_n F dX6_digest_102 rfl 1 rfl ?_
    refine v_imul F dX6_digest_103 ?_
    refine v_iload F dX6_digest_104 0 rfl ?_
    refine v_iadd F dX6_digest_106 ?_
    refine v_topr (nI (8 * q + a)) (by rw [pk_mul, nI_add]) ?_
    refine v_iald F (id_Q 3 (by decide)) rfl rfl (8 * q + a) (Ix_nI (by omega)) dX6_digest_107 ?_
    refine v_topr (σ 4 q a) (e2.trans e1.symm) ?_
    refine v_i2l F dX6_digest_108 ?_
    refine v_ladd F dX6_digest_109 ?_
    refine v_ldc2 F wk_X6_131 dX6_digest_110 ?_
    refine v_lmul F dX6_digest_113 ?_
    refine v_aload_n F dX6_digest_114 rfl 3 rfl ?_
    refine v_get F (id_Q 0 (by decide)) rfl rfl uw_X6 6 (by decide) rfl rfl wf_X6_19 dX6_digest_115 ?_
    refine v_bipush F (v := nI 8) dX6_digest_118 (by decide) ?_
    refine v_iload_n F dX6_digest_120 rfl 1 rfl ?_
    refine v_imul F dX6_digest_121 ?_
    refine v_iload F dX6_digest_122 0 rfl ?_
    refine v_iadd F dX6_digest_124 ?_
    refine v_topr (nI (8 * q + a)) (by rw [pk_mul, nI_add]) ?_
    refine v_iald F (id_Q 4 (by decide)) rfl rfl (8 * q + a) (Ix_nI (by omega)) dX6_digest_125 ?_
    refine v_topr (σ 5 q a) (e4.trans e3.symm) ?_
    refine v_i2l F dX6_digest_126 ?_
    refine v_ladd F dX6_digest_127 ?_
    refine v_lstore_n F dX6_digest_128 rfl (by decide) (lv' := [(1, .long _), (4, .int _), (3, .int _), (0, .ref _)]) rfl ?_
    refine v_iinc F (k := 1) (nI (a + 1)) dX6_digest_129 rfl (iinc_nI a) (by decide) (lv' := [(4, .int _), (1, .long _), (3, .int _), (0, .ref _)]) rfl ?_
    refine v_goto F (tgt := 80) dX6_digest_132 (by decide) ?_
    refine v_locs [0, 2, 1, 3] rfl ?_
    exact ih (a + 1) (by omega)
set_option maxHeartbeats 4000000 in
set_option maxRecDepth 100000 in
theorem L2_X6_digest (F : Fx p l s m args meth c cX6_digest 5 RX6 X) (G : Gx X l) {σ : Sg} {jc tc b : Nat} {ln : Nat → Nat} (C : Cp σ (M 2) (M 3) jc tc b ln) {d : Int64} (K : V p l e rm_X6_digest s m args below meth c Q X 5 ex (M) lf (9 + 7 * jc) (81 + 49 * jc) 141 [(3, .int (nI jc)), (1, .long (dgJ σ tc ln d jc)), (0, .ref (X.2.1 2 0 0))] []) : ∀ (k q : Nat), k + q = jc → V p l e rm_X6_digest s m args below meth c Q X 5 ex (M) lf (9 + 7 * q) (81 + 49 * q) 38 [(3, .int (nI q)), (1, .long (dgJ σ tc ln d q)), (0, .ref (X.2.1 2 0 0))] [] := by
  have h4 := C.1.1.1
  have hJ := C.1.2.1
  intro k
  induction k with
  | zero =>
    intro q hq
    obtain rfl : q = jc := by omega
    refine v_iload_n F dX6_digest_38 rfl 0 rfl ?_
    refine v_aload_n F dX6_digest_39 rfl 2 rfl ?_
    refine v_get F (id_Q 0 (by decide)) rfl rfl uw_X6 1 (by decide) rfl rfl wf_X6_41 dX6_digest_40 ?_
    refine v_topr (nI q) hJ ?_
    refine v_icmp_ge F (tgt := 141) dX6_digest_43 (by decide) (fun c43 => ?_) (fun h => absurd (nI_le (Nat.le_refl _) (by omega)) h)
    exact K
  | succ k ih =>
    intro q hq
    refine v_iload_n F dX6_digest_38 rfl 0 rfl ?_
    refine v_aload_n F dX6_digest_39 rfl 2 rfl ?_
    refine v_get F (id_Q 0 (by decide)) rfl rfl uw_X6 1 (by decide) rfl rfl wf_X6_41 dX6_digest_40 ?_
    refine v_topr (nI jc) hJ ?_
    refine v_icmp_ge F (tgt := 141) dX6_digest_43 (by decide) (fun h => absurd h (nI_ge (by omega) (by omega))) (fun c43 => ?_)
    refine v_iconst F (v := nI 0) dX6_digest_46 (by decide) ?_
    refine v_istore F dX6_digest_47 (by decide) (lv' := [(4, .int _), (3, .int _), (1, .long _), (0, .ref _)]) rfl ?_
    refine v_locs [0, 1, 2, 3] rfl ?_
    refine L2i_X6_digest F G C (c0 := 9 + 7 * q) (s0 := 81 + 49 * q) (show q < jc by omega) (by omega) (by omega) ?_ 7 0 rfl
    · skip
      refine v_iconst F (v := nI 0) dX6_digest_77 (by decide) ?_
      refine v_istore F dX6_digest_78 (by decide) (lv' := [(4, .int _), (3, .int _), (1, .long _), (0, .ref _)]) rfl ?_
      refine v_locs [0, 1, 2, 3] rfl ?_
      refine L2p_X6_digest F G C (show q < jc by omega) ?_ (ln q) 0 (Nat.add_zero _)
      · skip
        refine v_iinc F (k := 1) (nI (q + 1)) dX6_digest_135 rfl (iinc_nI q) (by decide) (lv' := [(3, .int _), (4, .int _), (1, .long _), (0, .ref _)]) rfl ?_
        refine v_goto F (tgt := 38) dX6_digest_138 (by decide) ?_
        refine v_locs [0, 2, 3] rfl ?_
        exact v_widen (Nat.le_of_eq (by omega)) (Nat.le_of_eq (by omega)) (ih (q + 1) (by omega))
set_option maxHeartbeats 4000000 in
set_option maxRecDepth 100000 in
theorem L3_X6_digest (F : Fx p l s m args meth c cX6_digest 5 RX6 X) (G : Gx X l) {σ : Sg} {jc tc b : Nat} {ln : Nat → Nat} (C : Cp σ (M 2) (M 3) jc tc b ln) {d : Int64} (K : V p l e rm_X6_digest s m args below meth c Q X 5 ex (M) lf (37 + 7 * tc) (277 + 49 * tc) 188 [(3, .int (nI tc)), (1, .long (dgT σ d tc)), (0, .ref (X.2.1 2 0 0))] []) : ∀ (k q : Nat), k + q = tc → V p l e rm_X6_digest s m args below meth c Q X 5 ex (M) lf (37 + 7 * q) (277 + 49 * q) 143 [(3, .int (nI q)), (1, .long (dgT σ d q)), (0, .ref (X.2.1 2 0 0))] [] := by
  have h12 := C.1.1.2.1
  have hT := C.1.2.2.1
  intro k
  induction k with
  | zero =>
    intro q hq
    obtain rfl : q = tc := by omega
    refine v_iload_n F dX6_digest_143 rfl 0 rfl ?_
    refine v_aload_n F dX6_digest_144 rfl 2 rfl ?_
    refine v_get F (id_Q 0 (by decide)) rfl rfl uw_X6 2 (by decide) rfl rfl wf_X6_48 dX6_digest_145 ?_
    refine v_topr (nI q) hT ?_
    refine v_icmp_ge F (tgt := 188) dX6_digest_148 (by decide) (fun c148 => ?_) (fun h => absurd (nI_le (Nat.le_refl _) (by omega)) h)
    exact K
  | succ k ih =>
    intro q hq
    refine v_iload_n F dX6_digest_143 rfl 0 rfl ?_
    refine v_aload_n F dX6_digest_144 rfl 2 rfl ?_
    refine v_get F (id_Q 0 (by decide)) rfl rfl uw_X6 2 (by decide) rfl rfl wf_X6_48 dX6_digest_145 ?_
    refine v_topr (nI tc) hT ?_
    refine v_icmp_ge F (tgt := 188) dX6_digest_148 (by decide) (fun h => absurd h (nI_ge (by omega) (by omega))) (fun c148 => ?_)
    refine v_iconst F (v := nI 0) dX6_digest_151 (by decide) ?_
    refine v_istore F dX6_digest_152 (by decide) (lv' := [(4, .int _), (3, .int _), (1, .long _), (0, .ref _)]) rfl ?_
    refine v_locs [0, 1, 2, 3] rfl ?_
    refine L3i_X6_digest F G C (c0 := 37 + 7 * q) (s0 := 277 + 49 * q) (show q < tc by omega) (by omega) (by omega) ?_ 7 0 rfl
    · skip
      refine v_iinc F (k := 1) (nI (q + 1)) dX6_digest_182 rfl (iinc_nI q) (by decide) (lv' := [(3, .int _), (4, .int _), (1, .long _), (0, .ref _)]) rfl ?_
      refine v_goto F (tgt := 143) dX6_digest_185 (by decide) ?_
      refine v_locs [0, 2, 3] rfl ?_
      exact v_widen (Nat.le_of_eq (by omega)) (Nat.le_of_eq (by omega)) (ih (q + 1) (by omega))
set_option maxHeartbeats 4000000 in
set_option maxRecDepth 100000 in
theorem c_X6_digest {X : Cx} {l : Launch} (G : Gx X l) {M : Mem} {lf : Lf} {σ : Sg} {jc tc b : Nat} {ln : Nat → Nat} (C : Cp σ (M 2) (M 3) jc tc b ln)  : CL X l yX6_digest (wsc yX6_digest cX6_digest 5 (some .long)) rm_X6_digest [.ref (X.2.1 2 0 0)] (M) lf (fDigest σ jc tc ln) (uC M 2 (u3 (M 2) 0 0 0 0)) lf 121 865 := by
  refine CL_of (lv := [(0, .ref _)]) G (by decide) (Nat.le_of_ble_eq_true rfl) rfl (fun p e s m args below meth c F hr => ?_)
  have F : Fx p l s m args meth c cX6_digest 5 RX6 X := F
  have h4 := C.1.1.1
  have h12 := C.1.1.2.1
  have hJ := C.1.2.1
  have hT := C.1.2.2.1
  have hJQ : (uC M 2 (u3 (M 2) 0 0 0 0)) 2 0 0 1 = nI jc := by rw [uC_at, u3_ne (by decide)]; exact hJ
  have hTQ : (uC M 2 (u3 (M 2) 0 0 0 0)) 2 0 0 2 = nI tc := by rw [uC_at, u3_ne (by decide)]; exact hT
  have CQ : Cp σ ((uC M 2 (u3 (M 2) 0 0 0 0)) 2) ((uC M 2 (u3 (M 2) 0 0 0 0)) 3) jc tc b ln := Cp_q C 0
  refine v_mem (uC_self _ 2) ?_
  refine v_aload_n F dX6_digest_0 rfl 0 rfl ?_
  refine v_iconst F (v := 0) dX6_digest_1 (by decide) ?_
  refine v_putC F tyX6 tyX6_ok nmX6 (id_Q 0 (by decide)) rfl rfl uw_X6 0 (by decide) rfl rfl (by decide +kernel) rfl (Nat.le_of_ble_eq_true rfl) wf_X6_37 dX6_digest_2 ?_
  refine v_ldc2 F wk_X6_129 dX6_digest_5 ?_
  refine v_lstore_n F dX6_digest_8 rfl (by decide) (lv' := [(1, .long _), (0, .ref _)]) rfl ?_
  refine v_iconst F (v := nI 0) dX6_digest_9 (by decide) ?_
  refine v_istore_n F dX6_digest_10 rfl (by decide) (lv' := [(3, .int _), (1, .long _), (0, .ref _)]) rfl ?_
  refine v_locs [0, 1, 2] rfl ?_
  refine L1_X6_digest F G CQ ?_ 9 0 rfl
  · skip
    refine v_iconst F (v := nI 0) dX6_digest_36 (by decide) ?_
    refine v_istore_n F dX6_digest_37 rfl (by decide) (lv' := [(3, .int _), (1, .long _), (0, .ref _)]) rfl ?_
    refine v_locs [0, 1, 2] rfl ?_
    refine L2_X6_digest F G CQ ?_ jc 0 (Nat.add_zero jc)
    · skip
      refine v_widen (k := 37) (n := 277) (by omega) (by omega) ?_
      refine v_iconst F (v := nI 0) dX6_digest_141 (by decide) ?_
      refine v_istore_n F dX6_digest_142 rfl (by decide) (lv' := [(3, .int _), (1, .long _), (0, .ref _)]) rfl ?_
      refine v_locs [0, 1, 2] rfl ?_
      refine L3_X6_digest F G CQ ?_ tc 0 (Nat.add_zero tc)
      · skip
        refine v_widen (k := 121) (n := 865) (by omega) (by omega) ?_
        refine v_lload_n F dX6_digest_188 rfl 1 rfl ?_
        exact v_lret F hr dX6_digest_189 rfl rfl rfl
end SZ
