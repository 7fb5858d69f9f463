/-! ===== the class: trials, mean, digest ===== -/
section RV
variable {p : Program} {l : Launch} {e : Env} {R : Room} {s : State} {m : MethodId} {args : Array Value} {below : List Frame} {meth : Method} {c : Code} {Q : State → Prop} {X : Cx} {nL : Nat} {ex : va_W} {M : Mem} {lf : Lf} {cells slots : Nat}
abbrev rm_X4_falls : Room := { frames := 4, cells := 0, slots := 0, locals := 92 }
set_option maxHeartbeats 4000000 in
set_option maxRecDepth 100000 in
theorem L_X4_falls (F : Fx p l s m args meth c cX4_falls 2 RX4 X) (G : Gx X l) {σ : Sg} {jc tc : Nat} {ln : Nat → Nat} (hS : Shp σ jc tc ln) {b : Nat} (hb : b + 201 < 2 ^ 31) (hbt : σ 0 0 4 = nI b) (K : ∀ (r : Int32) (τ : Sg) (pc : Nat), decode cX4_falls pc = .ok (.ireturn, 1) → ∀ lv0, r = flF (fFall1 σ b jc tc ln) 200 1 → τ = plL b jc tc ln σ (flN (fFall1 σ b jc tc ln) 200 1) → V p l e rm_X4_falls s m args below meth c Q X 2 ex (uC M 1 τ) lf 0 0 pc lv0 [.int r]) : ∀ (k q : Nat) (τ : Sg), k + q = 201 → 1 ≤ q → τ = plL b jc tc ln σ (q - 1) → flF (fFall1 σ b jc tc ln) 200 1 = flF (fFall1 σ b jc tc ln) k q → flN (fFall1 σ b jc tc ln) 200 1 = flN (fFall1 σ b jc tc ln) k q → V p l e rm_X4_falls s m args below meth c Q X 2 ex (uC M 1 τ) lf 0 0 13 [(1, .int (nI q)), (0, .ref (X.2.1 5 0 0))] [] := by
  intro k
  induction k with
  | zero =>
    intro q τ hq h1 hτ e1 e2
    obtain rfl : q = 201 := by omega
    refine v_iload_n F dX4_falls_13 rfl 0 rfl ?_
    refine v_sipush F (v := nI 200) dX4_falls_14 (by decide) ?_
    refine v_icmp_gt F (tgt := 38) dX4_falls_17 (by decide) (fun c17 => ?_) (fun h => absurd (nI_lt (by decide) (by decide)) h)
    refine v_iconst F (v := (-1)) dX4_falls_38 (by decide) ?_
    refine K _ _ 39 dX4_falls_39 _ (by rw [e1]; rfl) (by rw [e2]; exact hτ)
  | succ k ih =>
    intro q τ hq h1 hτ e1 e2
    have hST : Shp τ jc tc ln := by rw [hτ]; exact Shp_pl hS (q - 1)
    have hBT : τ 0 0 4 = nI (b + (q - 1)) := by rw [hτ]; exact plL_b hbt (q - 1)
    have hf : fBeatR τ (b + (q - 1)) tc = fFall1 σ b jc tc ln q := by rw [hτ]; rfl
    have hn : fBeat τ (b + (q - 1)) jc tc ln = plL b jc tc ln σ q := by
      rw [hτ]
      obtain ⟨z, rfl⟩ : ∃ z, q = z + 1 := ⟨q - 1, by omega⟩
      rfl
    refine v_iload_n F dX4_falls_13 rfl 0 rfl ?_
    refine v_sipush F (v := nI 200) dX4_falls_14 (by decide) ?_
    refine v_icmp_gt F (tgt := 38) dX4_falls_17 (by decide) (fun h => absurd h (nI_nlt (by omega) (by omega))) (fun c17 => ?_)
    refine v_aload_n F dX4_falls_20 rfl 1 rfl ?_
    refine v_get F id_5 rfl rfl uw_X4 1 (by decide) rfl rfl wf_X4_16 dX4_falls_21 ?_
    refine v_callNi F (As := []) (rest := []) rfl (c_X2_playBeat G (by decide) hST (show b + (q - 1) < 2 ^ 31 by omega) hBT) (Rv_R (by decide)) wm_X4_154 rfl ⟨rfl, rfl, Nat.le_of_ble_eq_true rfl, Nat.le_of_ble_eq_true rfl, Nat.le_of_ble_eq_true rfl, Nat.le_of_ble_eq_true rfl, Nat.le_of_ble_eq_true rfl⟩ dX4_falls_24 ?_
    refine v_topr (fFall1 σ b jc tc ln q) hf ?_
    refine v_if_le F (tgt := 32) dX4_falls_27 (by decide) (fun c27 => ?_) (fun c27 => ?_)
    · have := c27
      refine v_iinc F (k := 0) (nI (q + 1)) dX4_falls_32 rfl (iinc_nI q) (by decide) (lv' := [(1, .int _), (0, .ref _)]) rfl ?_
      refine v_goto F (tgt := 13) dX4_falls_35 (by decide) ?_
      refine ih (q + 1) _ (by omega) (by omega) hn ?_ ?_
      · rw [e1, flF, if_pos c27]
      · rw [e2, flN, if_pos c27]
    · have := c27
      refine v_iload_n F dX4_falls_30 rfl 0 rfl ?_
      refine K _ _ 31 dX4_falls_31 _ ?_ ?_
      · rw [e1, flF, if_neg c27]
      · rw [e2, flN, if_neg c27]; exact hn
set_option maxHeartbeats 4000000 in
set_option maxRecDepth 100000 in
theorem c_X4_falls {X : Cx} {l : Launch} (G : Gx X l) {M : Mem} {lf : Lf} {jc tc : Nat} {ln : Nat → Nat} (hS : Shp (M 0) jc tc ln) {b : Nat} (hb : b + 201 < 2 ^ 31) (hbt : M 0 0 0 4 = nI b)  : CI X l yX4_falls (wsc yX4_falls cX4_falls 2 (some .int)) rm_X4_falls [.ref (X.2.1 5 0 0)] (M) lf (flF (fFall1 (fCopyR (M 1) (M 0) jc tc ln) b jc tc ln) 200 1) (uC M 1 (plL b jc tc ln (fCopyR (M 1) (M 0) jc tc ln) (flN (fFall1 (fCopyR (M 1) (M 0) jc tc ln) b jc tc ln) 200 1))) lf 0 0 := by
  refine CI_of (lv := [(0, .ref _)]) G (by decide) (Nat.le_of_ble_eq_true rfl) rfl (fun p e s m args below meth c F hr => ?_)
  have F : Fx p l s m args meth c cX4_falls 2 RX4 X := F
  have h4 := hS.1
  have h12 := hS.2.1
  refine v_mem (uC_self _ 1) ?_
  refine v_aload_n F dX4_falls_0 rfl 0 rfl ?_
  refine v_get F id_5 rfl rfl uw_X4 1 (by decide) rfl rfl wf_X4_16 dX4_falls_1 ?_
  refine v_aload_n F dX4_falls_4 rfl 0 rfl ?_
  refine v_get F id_5 rfl rfl uw_X4 0 (by decide) rfl rfl wf_X4_10 dX4_falls_5 ?_
  refine v_callNv F (As := [_]) (rest := []) rfl (c_X2_copyFrom G (r := 1) (t := 0) (by decide) (by decide) (by decide) hS) (Rv_R (by decide)) wm_X4_150 rfl ⟨rfl, rfl, Nat.le_of_ble_eq_true rfl, Nat.le_of_ble_eq_true rfl, Nat.le_of_ble_eq_true rfl, Nat.le_of_ble_eq_true rfl, Nat.le_of_ble_eq_true rfl⟩ dX4_falls_8 ?_
  refine v_iconst F (v := nI 1) dX4_falls_11 (by decide) ?_
  refine v_istore_n F dX4_falls_12 rfl (by decide) (lv' := [(1, .int _), (0, .ref _)]) rfl ?_
  refine L_X4_falls F G (Shp_copy hS) hb (copy_b hbt) (fun r τ pc hd lv0 h1 h2 => ?_) 200 1 _ rfl (by decide) rfl rfl rfl
  exact v_iret F hr hd h1 (by rw [h2]) rfl
abbrev rm_X4_foresee : Room := { frames := 5, cells := 0, slots := 0, locals := 115 }
abbrev rx_X4_foresee : Room := { frames := 7, cells := 1, slots := 6, locals := 115 }
set_option maxHeartbeats 4000000 in
set_option maxRecDepth 100000 in
theorem c_X4_foresee_0 {X : Cx} {l : Launch} (G : Gx X l) {M : Mem} {lf : Lf} {jc tc : Nat} {ln : Nat → Nat} (hS : Shp (M 0) jc tc ln) {b n : Nat} (hb : b + n < 2 ^ 31) (hbt : M 0 0 0 4 = nI b) (h1 : 1 ≤ n) (hn : n ≤ 200) : CI X l yX4_foresee (wsc yX4_foresee cX4_foresee 4 (some .int)) rm_X4_foresee [.ref (X.2.1 5 0 0), .int (nI n), .int (nI 0)] (M) lf (fIn (plL b jc tc ln (fCopyR (M 1) (M 0) jc tc ln) n) tc 2) (uC M 1 (plL b jc tc ln (fCopyR (M 1) (M 0) jc tc ln) n)) lf 0 0 := by
  refine CI_of (lv := [(0, .ref _), (1, .int _), (2, .int _)]) G (by decide) (Nat.le_of_ble_eq_true rfl) rfl (fun p e s m args below meth c F hr => ?_)
  have F : Fx p l s m args meth c cX4_foresee 4 RX4 X := F
  have h4 := hS.1
  have h12 := hS.2.1
  refine v_iload_n F dX4_foresee_0 rfl 1 rfl ?_
  refine v_sipush F (v := nI 200) dX4_foresee_1 (by decide) ?_
  refine v_callSv F (As := [_, _]) (rest := []) rfl (c_X4_testBeats G h1 hn (by decide)) wm_X4_141 rfl ⟨rfl, rfl, Nat.le_of_ble_eq_true rfl, Nat.le_of_ble_eq_true rfl, Nat.le_of_ble_eq_true rfl, Nat.le_of_ble_eq_true rfl, Nat.le_of_ble_eq_true rfl⟩ dX4_foresee_4 ?_
  refine v_iload_n F dX4_foresee_7 rfl 2 rfl ?_
  refine v_iconst F (v := nI 3) dX4_foresee_8 (by decide) ?_
  refine v_callSv F (As := [_, _]) (rest := []) rfl (c_X4_testWhat G (show 0 < 3 by decide) (by decide)) wm_X4_77 rfl ⟨rfl, rfl, Nat.le_of_ble_eq_true rfl, Nat.le_of_ble_eq_true rfl, Nat.le_of_ble_eq_true rfl, Nat.le_of_ble_eq_true rfl, Nat.le_of_ble_eq_true rfl⟩ dX4_foresee_9 ?_
  refine v_mem (uC_self _ 1) ?_
  refine v_aload_n F dX4_foresee_12 rfl 0 rfl ?_
  refine v_get F id_5 rfl rfl uw_X4 1 (by decide) rfl rfl wf_X4_16 dX4_foresee_13 ?_
  refine v_aload_n F dX4_foresee_16 rfl 0 rfl ?_
  refine v_get F id_5 rfl rfl uw_X4 0 (by decide) rfl rfl wf_X4_10 dX4_foresee_17 ?_
  refine v_callNv F (As := [_]) (rest := []) rfl (c_X2_copyFrom G (r := 1) (t := 0) (by decide) (by decide) (by decide) hS) (Rv_R (by decide)) wm_X4_150 rfl ⟨rfl, rfl, Nat.le_of_ble_eq_true rfl, Nat.le_of_ble_eq_true rfl, Nat.le_of_ble_eq_true rfl, Nat.le_of_ble_eq_true rfl, Nat.le_of_ble_eq_true rfl⟩ dX4_foresee_20 ?_
  refine v_aload_n F dX4_foresee_23 rfl 0 rfl ?_
  refine v_get F id_5 rfl rfl uw_X4 1 (by decide) rfl rfl wf_X4_16 dX4_foresee_24 ?_
  refine v_iload_n F dX4_foresee_27 rfl 1 rfl ?_
  refine v_callNi F (As := [_]) (rest := []) rfl (c_X2_play G (by decide) (Shp_copy hS) hb (copy_b hbt)) (Rv_R (by decide)) wm_X4_144 rfl ⟨rfl, rfl, Nat.le_of_ble_eq_true rfl, Nat.le_of_ble_eq_true rfl, Nat.le_of_ble_eq_true rfl, Nat.le_of_ble_eq_true rfl, Nat.le_of_ble_eq_true rfl⟩ dX4_foresee_28 ?_
  refine v_istore_n F dX4_foresee_31 rfl (by decide) (lv' := [(3, .int _), (0, .ref _), (1, .int _), (2, .int _)]) rfl ?_
  refine v_iload_n F dX4_foresee_32 rfl 3 rfl ?_
  refine v_lookup F (off := 27) (tgt := 60) dX4_foresee_33 (by decide) (by decide) (by decide) ?_
  refine v_aload_n F dX4_foresee_60 rfl 1 rfl ?_
  refine v_get F id_5 rfl rfl uw_X4 1 (by decide) rfl rfl wf_X4_16 dX4_foresee_61 ?_
  refine v_iconst F (v := 2) dX4_foresee_64 (by decide) ?_
  refine v_callNi F (As := [_]) (rest := []) rfl (c_X2_thingsIn G (by decide) (Shp_pl (Shp_copy hS) n) 2) (Rv_R (by decide)) wm_X4_157 rfl ⟨rfl, rfl, Nat.le_of_ble_eq_true rfl, Nat.le_of_ble_eq_true rfl, Nat.le_of_ble_eq_true rfl, Nat.le_of_ble_eq_true rfl, Nat.le_of_ble_eq_true rfl⟩ dX4_foresee_65 ?_
  exact v_iret F hr dX4_foresee_68 rfl rfl rfl
set_option maxHeartbeats 4000000 in
set_option maxRecDepth 100000 in
theorem c_X4_foresee_1 {X : Cx} {l : Launch} (G : Gx X l) {M : Mem} {lf : Lf} {jc tc : Nat} {ln : Nat → Nat} (hS : Shp (M 0) jc tc ln) {b n : Nat} (hb : b + n < 2 ^ 31) (hbt : M 0 0 0 4 = nI b) (h1 : 1 ≤ n) (hn : n ≤ 200) : CI X l yX4_foresee (wsc yX4_foresee cX4_foresee 4 (some .int)) rm_X4_foresee [.ref (X.2.1 5 0 0), .int (nI n), .int (nI 1)] (M) lf (plR b jc tc ln (fCopyR (M 1) (M 0) jc tc ln) n) (uC M 1 (plL b jc tc ln (fCopyR (M 1) (M 0) jc tc ln) n)) lf 0 0 := by
  refine CI_of (lv := [(0, .ref _), (1, .int _), (2, .int _)]) G (by decide) (Nat.le_of_ble_eq_true rfl) rfl (fun p e s m args below meth c F hr => ?_)
  have F : Fx p l s m args meth c cX4_foresee 4 RX4 X := F
  have h4 := hS.1
  have h12 := hS.2.1
  refine v_iload_n F dX4_foresee_0 rfl 1 rfl ?_
  refine v_sipush F (v := nI 200) dX4_foresee_1 (by decide) ?_
  refine v_callSv F (As := [_, _]) (rest := []) rfl (c_X4_testBeats G h1 hn (by decide)) wm_X4_141 rfl ⟨rfl, rfl, Nat.le_of_ble_eq_true rfl, Nat.le_of_ble_eq_true rfl, Nat.le_of_ble_eq_true rfl, Nat.le_of_ble_eq_true rfl, Nat.le_of_ble_eq_true rfl⟩ dX4_foresee_4 ?_
  refine v_iload_n F dX4_foresee_7 rfl 2 rfl ?_
  refine v_iconst F (v := nI 3) dX4_foresee_8 (by decide) ?_
  refine v_callSv F (As := [_, _]) (rest := []) rfl (c_X4_testWhat G (show 1 < 3 by decide) (by decide)) wm_X4_77 rfl ⟨rfl, rfl, Nat.le_of_ble_eq_true rfl, Nat.le_of_ble_eq_true rfl, Nat.le_of_ble_eq_true rfl, Nat.le_of_ble_eq_true rfl, Nat.le_of_ble_eq_true rfl⟩ dX4_foresee_9 ?_
  refine v_mem (uC_self _ 1) ?_
  refine v_aload_n F dX4_foresee_12 rfl 0 rfl ?_
  refine v_get F id_5 rfl rfl uw_X4 1 (by decide) rfl rfl wf_X4_16 dX4_foresee_13 ?_
  refine v_aload_n F dX4_foresee_16 rfl 0 rfl ?_
  refine v_get F id_5 rfl rfl uw_X4 0 (by decide) rfl rfl wf_X4_10 dX4_foresee_17 ?_
  refine v_callNv F (As := [_]) (rest := []) rfl (c_X2_copyFrom G (r := 1) (t := 0) (by decide) (by decide) (by decide) hS) (Rv_R (by decide)) wm_X4_150 rfl ⟨rfl, rfl, Nat.le_of_ble_eq_true rfl, Nat.le_of_ble_eq_true rfl, Nat.le_of_ble_eq_true rfl, Nat.le_of_ble_eq_true rfl, Nat.le_of_ble_eq_true rfl⟩ dX4_foresee_20 ?_
  refine v_aload_n F dX4_foresee_23 rfl 0 rfl ?_
  refine v_get F id_5 rfl rfl uw_X4 1 (by decide) rfl rfl wf_X4_16 dX4_foresee_24 ?_
  refine v_iload_n F dX4_foresee_27 rfl 1 rfl ?_
  refine v_callNi F (As := [_]) (rest := []) rfl (c_X2_play G (by decide) (Shp_copy hS) hb (copy_b hbt)) (Rv_R (by decide)) wm_X4_144 rfl ⟨rfl, rfl, Nat.le_of_ble_eq_true rfl, Nat.le_of_ble_eq_true rfl, Nat.le_of_ble_eq_true rfl, Nat.le_of_ble_eq_true rfl, Nat.le_of_ble_eq_true rfl⟩ dX4_foresee_28 ?_
  refine v_istore_n F dX4_foresee_31 rfl (by decide) (lv' := [(3, .int _), (0, .ref _), (1, .int _), (2, .int _)]) rfl ?_
  refine v_iload_n F dX4_foresee_32 rfl 3 rfl ?_
  refine v_lookup F (off := 36) (tgt := 69) dX4_foresee_33 (by decide) (by decide) (by decide) ?_
  refine v_iload_n F dX4_foresee_69 rfl 0 rfl ?_
  exact v_iret F hr dX4_foresee_70 rfl rfl rfl
set_option maxHeartbeats 4000000 in
set_option maxRecDepth 100000 in
theorem c_X4_foresee_2 {X : Cx} {l : Launch} (G : Gx X l) {M : Mem} {lf : Lf} {jc tc : Nat} {ln : Nat → Nat} (hS : Shp (M 0) jc tc ln) {b n : Nat} (hb : b + n < 2 ^ 31) (hbt : M 0 0 0 4 = nI b) (h1 : 1 ≤ n) (hn : n ≤ 200) : CI X l yX4_foresee (wsc yX4_foresee cX4_foresee 4 (some .int)) rm_X4_foresee [.ref (X.2.1 5 0 0), .int (nI n), .int (nI 2)] (M) lf (sI (fun k => plL b jc tc ln (fCopyR (M 1) (M 0) jc tc ln) n 2 k 3) jc) (uC M 1 (plL b jc tc ln (fCopyR (M 1) (M 0) jc tc ln) n)) lf 0 0 := by
  refine CI_of (lv := [(0, .ref _), (1, .int _), (2, .int _)]) G (by decide) (Nat.le_of_ble_eq_true rfl) rfl (fun p e s m args below meth c F hr => ?_)
  have F : Fx p l s m args meth c cX4_foresee 4 RX4 X := F
  have h4 := hS.1
  have h12 := hS.2.1
  refine v_iload_n F dX4_foresee_0 rfl 1 rfl ?_
  refine v_sipush F (v := nI 200) dX4_foresee_1 (by decide) ?_
  refine v_callSv F (As := [_, _]) (rest := []) rfl (c_X4_testBeats G h1 hn (by decide)) wm_X4_141 rfl ⟨rfl, rfl, Nat.le_of_ble_eq_true rfl, Nat.le_of_ble_eq_true rfl, Nat.le_of_ble_eq_true rfl, Nat.le_of_ble_eq_true rfl, Nat.le_of_ble_eq_true rfl⟩ dX4_foresee_4 ?_
  refine v_iload_n F dX4_foresee_7 rfl 2 rfl ?_
  refine v_iconst F (v := nI 3) dX4_foresee_8 (by decide) ?_
  refine v_callSv F (As := [_, _]) (rest := []) rfl (c_X4_testWhat G (show 2 < 3 by decide) (by decide)) wm_X4_77 rfl ⟨rfl, rfl, Nat.le_of_ble_eq_true rfl, Nat.le_of_ble_eq_true rfl, Nat.le_of_ble_eq_true rfl, Nat.le_of_ble_eq_true rfl, Nat.le_of_ble_eq_true rfl⟩ dX4_foresee_9 ?_
  refine v_mem (uC_self _ 1) ?_
  refine v_aload_n F dX4_foresee_12 rfl 0 rfl ?_
  refine v_get F id_5 rfl rfl uw_X4 1 (by decide) rfl rfl wf_X4_16 dX4_foresee_13 ?_
  refine v_aload_n F dX4_foresee_16 rfl 0 rfl ?_
  refine v_get F id_5 rfl rfl uw_X4 0 (by decide) rfl rfl wf_X4_10 dX4_foresee_17 ?_
  refine v_callNv F (As := [_]) (rest := []) rfl (c_X2_copyFrom G (r := 1) (t := 0) (by decide) (by decide) (by decide) hS) (Rv_R (by decide)) wm_X4_150 rfl ⟨rfl, rfl, Nat.le_of_ble_eq_true rfl, Nat.le_of_ble_eq_true rfl, Nat.le_of_ble_eq_true rfl, Nat.le_of_ble_eq_true rfl, Nat.le_of_ble_eq_true rfl⟩ dX4_foresee_20 ?_
  refine v_aload_n F dX4_foresee_23 rfl 0 rfl ?_
  refine v_get F id_5 rfl rfl uw_X4 1 (by decide) rfl rfl wf_X4_16 dX4_foresee_24 ?_
  refine v_iload_n F dX4_foresee_27 rfl 1 rfl ?_
  refine v_callNi F (As := [_]) (rest := []) rfl (c_X2_play G (by decide) (Shp_copy hS) hb (copy_b hbt)) (Rv_R (by decide)) wm_X4_144 rfl ⟨rfl, rfl, Nat.le_of_ble_eq_true rfl, Nat.le_of_ble_eq_true rfl, Nat.le_of_ble_eq_true rfl, Nat.le_of_ble_eq_true rfl, Nat.le_of_ble_eq_true rfl⟩ dX4_foresee_28 ?_
  refine v_istore_n F dX4_foresee_31 rfl (by decide) (lv' := [(3, .int _), (0, .ref _), (1, .int _), (2, .int _)]) rfl ?_
  refine v_iload_n F dX4_foresee_32 rfl 3 rfl ?_
  refine v_lookup F (off := 38) (tgt := 71) dX4_foresee_33 (by decide) (by decide) (by decide) ?_
  refine v_aload_n F dX4_foresee_71 rfl 1 rfl ?_
  refine v_get F id_5 rfl rfl uw_X4 1 (by decide) rfl rfl wf_X4_16 dX4_foresee_72 ?_
  refine v_callNi F (As := []) (rest := []) rfl (c_X2_allBruises G (by decide) (Shp_pl (Shp_copy hS) n)) (Rv_R (by decide)) wm_X4_160 rfl ⟨rfl, rfl, Nat.le_of_ble_eq_true rfl, Nat.le_of_ble_eq_true rfl, Nat.le_of_ble_eq_true rfl, Nat.le_of_ble_eq_true rfl, Nat.le_of_ble_eq_true rfl⟩ dX4_foresee_75 ?_
  exact v_iret F hr dX4_foresee_78 rfl rfl rfl
abbrev rm_X4_fallenWith : Room := { frames := 5, cells := 0, slots := 0, locals := 115 }
theorem Shp_with {σ ρ : Sg} {b jc tc n j z h : Nat} {ln : Nat → Nat} (hS : Shp σ jc tc ln) : Shp (fWith σ ρ b jc tc ln n j z h) jc tc ln := Shp_u3 (Shp_copy hS) (by decide) (by decide)
theorem with_b {σ ρ : Sg} {b jc tc n j z h : Nat} {ln : Nat → Nat} (hb : σ 0 0 4 = nI b) : fWith σ ρ b jc tc ln n j z h 0 0 4 = nI b := (u3_ne (by omega)).trans (copy_b hb)
set_option maxHeartbeats 4000000 in
set_option maxRecDepth 100000 in
theorem c_X4_fallenWith {X : Cx} {l : Launch} (G : Gx X l) {M : Mem} {lf : Lf} {jc tc : Nat} {ln : Nat → Nat} (hS : Shp (M 0) jc tc ln) {ρ : Sg} {b n : Nat} (hb : b + n < 2 ^ 31) (hbt : M 0 0 0 4 = nI b) {j z h : Nat} (hj : j < jc) (hp : z < 8) : CI X l yX4_fallenWith (wsc yX4_fallenWith cX4_fallenWith 5 (some .int)) rm_X4_fallenWith [.ref (X.2.1 5 0 0), .int (nI j), .int (nI z), .int (nI h), .int (nI n)] (uC M 1 ρ) lf (plR b jc tc ln (fWith (M 0) ρ b jc tc ln n j z h) n) (uC M 1 (plL b jc tc ln (fWith (M 0) ρ b jc tc ln n j z h) n)) lf 0 0 := by
  refine CI_of (lv := [(0, .ref _), (1, .int _), (2, .int _), (3, .int _), (4, .int _)]) G (by decide) (Nat.le_of_ble_eq_true rfl) rfl (fun p e s m args below meth c F hr => ?_)
  have F : Fx p l s m args meth c cX4_fallenWith 5 RX4 X := F
  have h4 := hS.1
  have h12 := hS.2.1
  refine v_aload_n F dX4_fallenWith_0 rfl 0 rfl ?_
  refine v_get F id_5 rfl rfl uw_X4 1 (by decide) rfl rfl wf_X4_16 dX4_fallenWith_1 ?_
  refine v_aload_n F dX4_fallenWith_4 rfl 0 rfl ?_
  refine v_get F id_5 rfl rfl uw_X4 0 (by decide) rfl rfl wf_X4_10 dX4_fallenWith_5 ?_
  refine v_callNv F (As := [_]) (rest := []) rfl (c_X2_copyFrom G (r := 1) (t := 0) (by decide) (by decide) (by decide) hS) (Rv_R (by decide)) wm_X4_150 rfl ⟨rfl, rfl, Nat.le_of_ble_eq_true rfl, Nat.le_of_ble_eq_true rfl, Nat.le_of_ble_eq_true rfl, Nat.le_of_ble_eq_true rfl, Nat.le_of_ble_eq_true rfl⟩ dX4_fallenWith_8 ?_
  refine v_aload_n F dX4_fallenWith_11 rfl 0 rfl ?_
  refine v_get F id_5 rfl rfl uw_X4 1 (by decide) rfl rfl wf_X4_16 dX4_fallenWith_12 ?_
  refine v_getN F (id_R (by decide) (by decide) (by decide)) (heR (by decide)) rfl uw_X2 0 (by decide) rfl rfl wf_X4_50 dX4_fallenWith_15 ?_
  refine v_iload_n F dX4_fallenWith_18 rfl 1 rfl ?_
  refine v_aaldJ F (by decide) (j) (Ix_nI (show j < 4 by omega)) dX4_fallenWith_19 ?_
  refine v_getN F (id_R (by decide) (by decide) (show j < 4 by omega)) (heR (by decide)) rfl uw_X0 0 (by decide) rfl rfl wf_X4_54 dX4_fallenWith_20 ?_
  refine v_getN F (id_R (by decide) (by decide) (show j < 4 by omega)) (heR (by decide)) rfl uw_X1 0 (by decide) rfl rfl wf_X4_80 dX4_fallenWith_23 ?_
  refine v_iload_n F dX4_fallenWith_26 rfl 2 rfl ?_
  refine v_iload_n F dX4_fallenWith_27 rfl 3 rfl ?_
  refine v_iastC F (id_R (by decide) (by decide) (show j < 4 by omega)) (celD_R (by decide)) rfl (z) (Ix_nI (by omega)) (celD_R (by decide)) dX4_fallenWith_28 ?_
  refine v_aload_n F dX4_fallenWith_29 rfl 0 rfl ?_
  refine v_get F id_5 rfl rfl uw_X4 1 (by decide) rfl rfl wf_X4_16 dX4_fallenWith_30 ?_
  refine v_iload F dX4_fallenWith_33 4 rfl ?_
  refine v_callNi F (As := [_]) (rest := []) rfl (c_X2_play G (by decide) (σ := (fWith (M 0) ρ b jc tc ln n j z h)) (Shp_with hS) hb (with_b hbt)) (Rv_R (by decide)) wm_X4_144 rfl ⟨rfl, rfl, Nat.le_of_ble_eq_true rfl, Nat.le_of_ble_eq_true rfl, Nat.le_of_ble_eq_true rfl, Nat.le_of_ble_eq_true rfl, Nat.le_of_ble_eq_true rfl⟩ dX4_fallenWith_35 ?_
  exact v_iret F hr dX4_fallenWith_38 rfl rfl rfl
abbrev rm_X4_advise : Room := { frames := 6, cells := 0, slots := 0, locals := 139 }
abbrev rx_X4_advise : Room := { frames := 7, cells := 1, slots := 6, locals := 139 }
set_option maxHeartbeats 4000000 in
set_option maxRecDepth 100000 in
theorem L1_X4_advise (F : Fx p l s m args meth c cX4_advise 9 RX4 X) (G : Gx X l) {jc tc : Nat} {ln : Nat → Nat} (hS : Shp (M 0) jc tc ln) {b n : Nat} (hb : b + n < 2 ^ 31) (hbt : M 0 0 0 4 = nI b) {j : Nat} (hj : j < jc) {z : Nat} (hp : z < ln j) {W0 : Int32 × Int32 × Sg} (K : ∀ (h : Int32) (fw ad : Int32) (ρ : Sg), (fw, ad, ρ) = W0 → V p l e rm_X4_advise s m args below meth c Q X 9 ex (uC M 1 ρ) lf 0 0 112 [(7, .int h), (6, .int (nI z)), (5, .int (nI (ln j))), (4, .int ad), (3, .int fw), (0, .ref (X.2.1 5 0 0)), (1, .int (nI j)), (2, .int (nI n))] []) : ∀ (k h : Nat) (fw ad : Int32) (ρ : Sg), k + h = 10 → W0 = adI (M 0) b jc tc ln n j z k h fw ad ρ → V p l e rm_X4_advise s m args below meth c Q X 9 ex (uC M 1 ρ) lf 0 0 64 [(7, .int (nI h)), (6, .int (nI z)), (5, .int (nI (ln j))), (4, .int ad), (3, .int fw), (0, .ref (X.2.1 5 0 0)), (1, .int (nI j)), (2, .int (nI n))] [] := by
  have h4 := hS.1
  have h8 := (hS.2.2.2.2 j hj).2.1
  intro k
  induction k with
  | zero =>
    intro h fw ad ρ hq e1
    obtain rfl : h = 10 := by omega
    refine v_iload F dX4_advise_64 0 rfl ?_
    refine v_bipush F (v := nI 9) dX4_advise_66 (by decide) ?_
    refine v_icmp_gt F (tgt := 112) dX4_advise_68 (by decide) (fun c68 => ?_) (fun h => absurd (nI_lt (by decide) (by decide)) h)
    refine v_locs [0, 1, 2, 3, 4, 5, 6, 7] rfl ?_
    exact K _ _ _ _ e1.symm
  | succ k ih =>
    intro h fw ad ρ hq e1
    refine v_iload F dX4_advise_64 0 rfl ?_
    refine v_bipush F (v := nI 9) dX4_advise_66 (by decide) ?_
    refine v_icmp_gt F (tgt := 112) dX4_advise_68 (by decide) (fun h => absurd h (nI_nlt (by omega) (by omega))) (fun c68 => ?_)
    refine v_iload_n F dX4_advise_71 rfl 4 rfl ?_
    refine v_if_le F (tgt := 112) dX4_advise_72 (by decide) (fun c72 => ?_) (fun c72 => ?_)
    · have := c72
      rw [adI, if_pos c72] at e1
      refine v_locs [0, 1, 2, 3, 4, 5, 6, 7] rfl ?_
      exact K _ _ _ _ e1.symm
    · have := c72
      refine v_aload_n F dX4_advise_75 rfl 5 rfl ?_
      refine v_iload_n F dX4_advise_76 rfl 6 rfl ?_
      refine v_iload F dX4_advise_77 1 rfl ?_
      refine v_iload F dX4_advise_79 0 rfl ?_
      refine v_iload_n F dX4_advise_81 rfl 7 rfl ?_
      refine v_callVi F (As := [_, _, _, _]) (rest := []) rfl (c_X4_fallenWith G hS hb hbt (h := h) hj (show z < 8 by omega)) Rv_H wm_X4_163 rfl ⟨rfl, rfl, Nat.le_of_ble_eq_true rfl, Nat.le_of_ble_eq_true rfl, Nat.le_of_ble_eq_true rfl, Nat.le_of_ble_eq_true rfl, Nat.le_of_ble_eq_true rfl⟩ dX4_advise_82 ?_
      refine v_istore F dX4_advise_85 (by decide) (lv' := [(8, .int _), (7, .int _), (6, .int _), (5, .int _), (4, .int _), (3, .int _), (0, .ref _), (1, .int _), (2, .int _)]) rfl ?_
      refine v_iload F dX4_advise_87 0 rfl ?_
      refine v_iload_n F dX4_advise_89 rfl 5 rfl ?_
      refine v_icmp_ge F (tgt := 106) dX4_advise_90 (by decide) (fun c90 => ?_) (fun c90 => ?_)
      · have := c90
        rw [adI, if_neg c72, if_neg (nlt_le c90)] at e1
        refine v_iinc F (k := 1) (nI (h + 1)) dX4_advise_106 rfl (iinc_nI h) (by decide) (lv' := [(7, .int _), (8, .int _), (6, .int _), (5, .int _), (4, .int _), (3, .int _), (0, .ref _), (1, .int _), (2, .int _)]) rfl ?_
        refine v_goto F (tgt := 64) dX4_advise_109 (by decide) ?_
        refine v_locs [0, 2, 3, 4, 5, 6, 7, 8] rfl ?_
        exact ih (h + 1) _ _ _ (by omega) e1
      · have := c90
        rw [adI, if_neg c72, if_pos (lt_of_nle c90)] at e1
        refine v_iload F dX4_advise_93 0 rfl ?_
        refine v_istore_n F dX4_advise_95 rfl (by decide) (lv' := [(3, .int _), (8, .int _), (7, .int _), (6, .int _), (5, .int _), (4, .int _), (0, .ref _), (1, .int _), (2, .int _)]) rfl ?_
        refine v_bipush F (v := nI 10) dX4_advise_96 (by decide) ?_
        refine v_iload F dX4_advise_98 3 rfl ?_
        refine v_imul F dX4_advise_100 ?_
        refine v_iload F dX4_advise_101 2 rfl ?_
        refine v_iadd F dX4_advise_103 ?_
        refine v_istore F dX4_advise_104 (by decide) (lv' := [(4, .int _), (3, .int _), (8, .int _), (7, .int _), (6, .int _), (5, .int _), (0, .ref _), (1, .int _), (2, .int _)]) rfl ?_
        refine v_iinc F (k := 3) (nI (h + 1)) dX4_advise_106 rfl (iinc_nI h) (by decide) (lv' := [(7, .int _), (4, .int _), (3, .int _), (8, .int _), (6, .int _), (5, .int _), (0, .ref _), (1, .int _), (2, .int _)]) rfl ?_
        refine v_goto F (tgt := 64) dX4_advise_109 (by decide) ?_
        refine v_locs [0, 4, 5, 1, 2, 6, 7, 8] rfl ?_
        exact ih (h + 1) _ _ _ (by omega) e1
set_option maxHeartbeats 4000000 in
set_option maxRecDepth 100000 in
theorem L2_X4_advise (F : Fx p l s m args meth c cX4_advise 9 RX4 X) (G : Gx X l) {jc tc : Nat} {ln : Nat → Nat} (hS : Shp (M 0) jc tc ln) {b n : Nat} (hb : b + n < 2 ^ 31) (hbt : M 0 0 0 4 = nI b) {j : Nat} (hj : j < jc) {fw0 : Int32} {ρ0 : Sg} (K : ∀ (z fw ad : Int32) (ρ : Sg), (ad, ρ) = adO (M 0) b jc tc ln n j (ln j) 0 fw0 (-1) ρ0 → V p l e rm_X4_advise s m args below meth c Q X 9 ex (uC M 1 ρ) lf 0 0 118 [(6, .int z), (5, .int (nI (ln j))), (4, .int ad), (3, .int fw), (0, .ref (X.2.1 5 0 0)), (1, .int (nI j)), (2, .int (nI n))] []) : ∀ (k z : Nat) (fw ad : Int32) (ρ : Sg), k + z = ln j → adO (M 0) b jc tc ln n j (ln j) 0 fw0 (-1) ρ0 = adO (M 0) b jc tc ln n j k z fw ad ρ → V p l e rm_X4_advise s m args below meth c Q X 9 ex (uC M 1 ρ) lf 0 0 54 [(6, .int (nI z)), (5, .int (nI (ln j))), (4, .int ad), (3, .int fw), (0, .ref (X.2.1 5 0 0)), (1, .int (nI j)), (2, .int (nI n))] [] := by
  have h4 := hS.1
  have h8 := (hS.2.2.2.2 j hj).2.1
  intro k
  induction k with
  | zero =>
    intro z fw ad ρ hq e1
    obtain rfl : z = ln j := by omega
    refine v_iload F dX4_advise_54 0 rfl ?_
    refine v_iload F dX4_advise_56 1 rfl ?_
    refine v_icmp_ge F (tgt := 118) dX4_advise_58 (by decide) (fun c58 => ?_) (fun h => absurd (nI_le (Nat.le_refl _) (by omega)) h)
    exact K _ _ _ _ e1.symm
  | succ k ih =>
    intro z fw ad ρ hq e1
    refine v_iload F dX4_advise_54 0 rfl ?_
    refine v_iload F dX4_advise_56 1 rfl ?_
    refine v_icmp_ge F (tgt := 118) dX4_advise_58 (by decide) (fun h => absurd h (nI_ge (by omega) (by omega))) (fun c58 => ?_)
    refine v_iconst F (v := nI 0) dX4_advise_61 (by decide) ?_
    refine v_istore F dX4_advise_62 (by decide) (lv' := [(7, .int _), (6, .int _), (5, .int _), (4, .int _), (3, .int _), (0, .ref _), (1, .int _), (2, .int _)]) rfl ?_
    refine L1_X4_advise F G hS hb hbt hj (show z < ln j by omega) (fun h2 fw2 ad2 ρ2 e2 => ?_) 10 0 fw ad ρ rfl rfl
    · skip
      refine v_iinc F (k := 1) (nI (z + 1)) dX4_advise_112 rfl (iinc_nI z) (by decide) (lv' := [(6, .int _), (7, .int _), (5, .int _), (4, .int _), (3, .int _), (0, .ref _), (1, .int _), (2, .int _)]) rfl ?_
      refine v_goto F (tgt := 54) dX4_advise_115 (by decide) ?_
      refine v_locs [0, 2, 3, 4, 5, 6, 7] rfl ?_
      refine ih (z + 1) _ _ _ (by omega) ?_
      rw [e1, adO, ← e2]
set_option maxHeartbeats 4000000 in
set_option maxRecDepth 100000 in
theorem c_X4_advise {X : Cx} {l : Launch} (G : Gx X l) {M : Mem} {lf : Lf} {jc tc : Nat} {ln : Nat → Nat} (hS : Shp (M 0) jc tc ln) {b n : Nat} (hb : b + n < 2 ^ 31) (hbt : M 0 0 0 4 = nI b) {j : Nat} (hj : j < jc) (h1 : 1 ≤ n) (hn : n ≤ 60) : CI X l yX4_advise (wsc yX4_advise cX4_advise 9 (some .int)) rm_X4_advise [.ref (X.2.1 5 0 0), .int (nI j), .int (nI n)] (M) lf ((adO (M 0) b jc tc ln n j (ln j) 0 (plR b jc tc ln (fCopyR (M 1) (M 0) jc tc ln) n) (-1) (plL b jc tc ln (fCopyR (M 1) (M 0) jc tc ln) n)).1) (uC M 1 (adO (M 0) b jc tc ln n j (ln j) 0 (plR b jc tc ln (fCopyR (M 1) (M 0) jc tc ln) n) (-1) (plL b jc tc ln (fCopyR (M 1) (M 0) jc tc ln) n)).2) lf 0 0 := by
  refine CI_of (lv := [(0, .ref _), (1, .int _), (2, .int _)]) G (by decide) (Nat.le_of_ble_eq_true rfl) rfl (fun p e s m args below meth c F hr => ?_)
  have F : Fx p l s m args meth c cX4_advise 9 RX4 X := F
  have h4 := hS.1
  have h12 := hS.2.1
  refine v_aload_n F dX4_advise_0 rfl 0 rfl ?_
  refine v_iload_n F dX4_advise_1 rfl 1 rfl ?_
  refine v_callVv F (As := [_]) (rest := []) rfl (c_X4_testJuggler G hS hj) Rv_H wm_X4_39 rfl ⟨rfl, rfl, Nat.le_of_ble_eq_true rfl, Nat.le_of_ble_eq_true rfl, Nat.le_of_ble_eq_true rfl, Nat.le_of_ble_eq_true rfl, Nat.le_of_ble_eq_true rfl⟩ dX4_advise_2 ?_
  refine v_iload_n F dX4_advise_5 rfl 2 rfl ?_
  refine v_bipush F (v := nI 60) dX4_advise_6 (by decide) ?_
  refine v_callSv F (As := [_, _]) (rest := []) rfl (c_X4_testBeats G h1 hn (by decide)) wm_X4_141 rfl ⟨rfl, rfl, Nat.le_of_ble_eq_true rfl, Nat.le_of_ble_eq_true rfl, Nat.le_of_ble_eq_true rfl, Nat.le_of_ble_eq_true rfl, Nat.le_of_ble_eq_true rfl⟩ dX4_advise_8 ?_
  refine v_mem (uC_self _ 1) ?_
  refine v_aload_n F dX4_advise_11 rfl 0 rfl ?_
  refine v_get F id_5 rfl rfl uw_X4 1 (by decide) rfl rfl wf_X4_16 dX4_advise_12 ?_
  refine v_aload_n F dX4_advise_15 rfl 0 rfl ?_
  refine v_get F id_5 rfl rfl uw_X4 0 (by decide) rfl rfl wf_X4_10 dX4_advise_16 ?_
  refine v_callNv F (As := [_]) (rest := []) rfl (c_X2_copyFrom G (r := 1) (t := 0) (by decide) (by decide) (by decide) hS) (Rv_R (by decide)) wm_X4_150 rfl ⟨rfl, rfl, Nat.le_of_ble_eq_true rfl, Nat.le_of_ble_eq_true rfl, Nat.le_of_ble_eq_true rfl, Nat.le_of_ble_eq_true rfl, Nat.le_of_ble_eq_true rfl⟩ dX4_advise_19 ?_
  refine v_aload_n F dX4_advise_22 rfl 0 rfl ?_
  refine v_get F id_5 rfl rfl uw_X4 1 (by decide) rfl rfl wf_X4_16 dX4_advise_23 ?_
  refine v_iload_n F dX4_advise_26 rfl 2 rfl ?_
  refine v_callNi F (As := [_]) (rest := []) rfl (c_X2_play G (by decide) (Shp_copy hS) hb (copy_b hbt)) (Rv_R (by decide)) wm_X4_144 rfl ⟨rfl, rfl, Nat.le_of_ble_eq_true rfl, Nat.le_of_ble_eq_true rfl, Nat.le_of_ble_eq_true rfl, Nat.le_of_ble_eq_true rfl, Nat.le_of_ble_eq_true rfl⟩ dX4_advise_27 ?_
  refine v_istore_n F dX4_advise_30 rfl (by decide) (lv' := [(3, .int _), (0, .ref _), (1, .int _), (2, .int _)]) rfl ?_
  refine v_iconst F (v := (-1)) dX4_advise_31 (by decide) ?_
  refine v_istore F dX4_advise_32 (by decide) (lv' := [(4, .int _), (3, .int _), (0, .ref _), (1, .int _), (2, .int _)]) rfl ?_
  refine v_aload_n F dX4_advise_34 rfl 2 rfl ?_
  refine v_get F id_5 rfl rfl uw_X4 0 (by decide) rfl rfl wf_X4_10 dX4_advise_35 ?_
  refine v_getN F (id_R (by decide) (by decide) (by decide)) ((heO (by decide)).trans ((celD_R (by decide)))) rfl uw_X2 0 (by decide) rfl rfl wf_X4_50 dX4_advise_38 ?_
  refine v_iload_n F dX4_advise_41 rfl 3 rfl ?_
  refine v_aaldJ F (by decide) (j) (Ix_nI (show j < 4 by omega)) dX4_advise_42 ?_
  refine v_getN F (id_R (by decide) (by decide) (show j < 4 by omega)) ((heO (by decide)).trans ((celD_R (by decide)))) rfl uw_X0 0 (by decide) rfl rfl wf_X4_54 dX4_advise_43 ?_
  refine v_getN F (id_R (by decide) (by decide) (show j < 4 by omega)) ((heO (by decide)).trans ((celD_R (by decide)))) rfl uw_X1 2 (by decide) rfl rfl wf_X4_60 dX4_advise_46 ?_
  refine v_topr (nI (ln j)) (hS.2.2.2.2 j hj).2.2 ?_
  refine v_istore F dX4_advise_49 (by decide) (lv' := [(5, .int _), (4, .int _), (3, .int _), (0, .ref _), (1, .int _), (2, .int _)]) rfl ?_
  refine v_iconst F (v := nI 0) dX4_advise_51 (by decide) ?_
  refine v_istore F dX4_advise_52 (by decide) (lv' := [(6, .int _), (5, .int _), (4, .int _), (3, .int _), (0, .ref _), (1, .int _), (2, .int _)]) rfl ?_
  refine v_locs [0, 1, 2, 3, 4, 5, 6] rfl ?_
  refine L2_X4_advise F G hS hb hbt hj (fun z fw ad ρ e3 => ?_) (ln j) 0 _ _ _ (Nat.add_zero (ln j)) rfl
  refine v_iload F dX4_advise_118 2 rfl ?_
  exact v_iret F hr dX4_advise_120 (by rw [← e3]) (by rw [← e3]) rfl
abbrev rm_X4_mean : Room := { frames := 1, cells := 0, slots := 0, locals := 22 }
def fMean (σ : Sg) (tc : Nat) : UInt64 := if σ 0 0 4 = 0 then FP.dconst0 else FP.ddiv (FP.i2d (sI (fun k => σ 8 k 6) tc)) (FP.i2d (σ 0 0 4))
set_option maxHeartbeats 4000000 in
set_option maxRecDepth 100000 in
theorem c_X4_mean {X : Cx} {l : Launch} (G : Gx X l) {M : Mem} {lf : Lf} {jc tc : Nat} {ln : Nat → Nat} (hS : Shp (M 0) jc tc ln)  : CD X l yX4_mean (wsc yX4_mean cX4_mean 1 (some .double)) rm_X4_mean [.ref (X.2.1 5 0 0)] (M) lf (fMean (M 0) tc) (M) lf 0 0 := by
  refine CD_of (lv := [(0, .ref _)]) G (by decide) (Nat.le_of_ble_eq_true rfl) rfl (fun p e s m args below meth c F hr => ?_)
  have F : Fx p l s m args meth c cX4_mean 1 RX4 X := F
  have h4 := hS.1
  have h12 := hS.2.1
  refine v_aload_n F dX4_mean_0 rfl 0 rfl ?_
  refine v_get F id_5 rfl rfl uw_X4 0 (by decide) rfl rfl wf_X4_10 dX4_mean_1 ?_
  refine v_getN F (id_R (by decide) (by decide) (by decide)) (celD_R (by decide)) rfl uw_X2 4 (by decide) rfl rfl wf_X4_167 dX4_mean_4 ?_
  refine v_if_ne F (tgt := 12) dX4_mean_7 (by decide) (fun c7 => ?_) (fun c7 => ?_)
  · have := c7
    refine v_aload_n F dX4_mean_12 rfl 0 rfl ?_
    refine v_get F id_5 rfl rfl uw_X4 0 (by decide) rfl rfl wf_X4_10 dX4_mean_13 ?_
    refine v_callNi F (As := []) (rest := []) rfl (CI_q (c_X2_allThrown G (by decide) hS)) (Rv_R (by decide)) wm_X4_170 rfl ⟨rfl, rfl, Nat.le_of_ble_eq_true rfl, Nat.le_of_ble_eq_true rfl, Nat.le_of_ble_eq_true rfl, Nat.le_of_ble_eq_true rfl, Nat.le_of_ble_eq_true rfl⟩ dX4_mean_16 ?_
    refine v_i2d F dX4_mean_19 ?_
    refine v_aload_n F dX4_mean_20 rfl 0 rfl ?_
    refine v_get F id_5 rfl rfl uw_X4 0 (by decide) rfl rfl wf_X4_10 dX4_mean_21 ?_
    refine v_getN F (id_R (by decide) (by decide) (by decide)) (celD_R (by decide)) rfl uw_X2 4 (by decide) rfl rfl wf_X4_167 dX4_mean_24 ?_
    refine v_i2d F dX4_mean_27 ?_
    refine v_ddiv F dX4_mean_28 (mean_num _ c7) ?_
    exact v_dret F hr dX4_mean_29 (by rw [fMean, if_neg c7]) rfl rfl
  · have := c7
    refine v_dconst0 F dX4_mean_10 ?_
    exact v_dret F hr dX4_mean_11 (by rw [fMean, if_pos c7]) rfl rfl
abbrev rm_X4_digest : Room := { frames := 2, cells := 0, slots := 0, locals := 46 }
set_option maxHeartbeats 4000000 in
set_option maxRecDepth 100000 in
theorem L1_X4_digest (F : Fx p l s m args meth c cX4_digest 5 RX4 X) (G : Gx X l) {jc tc : Nat} {ln : Nat → Nat} (hS : Shp (M 0) jc tc ln) (K : V p l e rm_X4_digest s m args below meth c Q X 5 ex (M) lf 0 0 34 [(3, .int (nI 9)), (1, .long (dgL (fTellC (M 0) tc) 953 9)), (0, .ref (X.2.1 5 0 0))] []) : ∀ (k q : Nat), k + q = 9 → V p l e rm_X4_digest s m args below meth c Q X 5 ex (M) lf 0 0 6 [(3, .int (nI q)), (1, .long (dgL (fTellC (M 0) tc) 953 q)), (0, .ref (X.2.1 5 0 0))] [] := by
  intro k
  induction k with
  | zero =>
    intro q hq
    obtain rfl : q = 9 := by omega
    refine v_iload_n F dX4_digest_6 rfl 0 rfl ?_
    refine v_bipush F (v := nI 9) dX4_digest_7 (by decide) ?_
    refine v_icmp_ge F (tgt := 34) dX4_digest_9 (by decide) (fun c9 => ?_) (fun h => absurd (nI_le (Nat.le_refl _) (by omega)) h)
    exact K
  | succ k ih =>
    intro q hq
    refine v_iload_n F dX4_digest_6 rfl 0 rfl ?_
    refine v_bipush F (v := nI 9) dX4_digest_7 (by decide) ?_
    refine v_icmp_ge F (tgt := 34) dX4_digest_9 (by decide) (fun h => absurd h (nI_ge (by omega) (by omega))) (fun c9 => ?_)
    refine v_lload_n F dX4_digest_12 rfl 1 rfl ?_
    refine v_ldc2 F wk_X4_175 dX4_digest_13 ?_
    refine v_lmul F dX4_digest_16 ?_
    refine v_aload_n F dX4_digest_17 rfl 2 rfl ?_
    refine v_get F id_5 rfl rfl uw_X4 0 (by decide) rfl rfl wf_X4_10 dX4_digest_18 ?_
    refine v_iload_n F dX4_digest_21 rfl 0 rfl ?_
    refine v_callNi F (As := [_]) (rest := [.long _]) rfl (CI_q (c_X2_tellCount G (by decide) hS q (by omega))) (Rv_R (by decide)) wm_X4_147 rfl ⟨rfl, rfl, Nat.le_of_ble_eq_true rfl, Nat.le_of_ble_eq_true rfl, Nat.le_of_ble_eq_true rfl, Nat.le_of_ble_eq_true rfl, Nat.le_of_ble_eq_true rfl⟩ dX4_digest_22 ?_
    refine v_i2l F dX4_digest_25 ?_
    refine v_ladd F dX4_digest_26 ?_
    refine v_lstore_n F dX4_digest_27 rfl (by decide) (lv' := [(1, .long _), (3, .int _), (0, .ref _)]) rfl ?_
    refine v_iinc F (k := 1) (nI (q + 1)) dX4_digest_28 rfl (iinc_nI q) (by decide) (lv' := [(3, .int _), (1, .long _), (0, .ref _)]) rfl ?_
    refine v_goto F (tgt := 6) dX4_digest_31 (by decide) ?_
    exact v_locs [0, 1, 2] rfl (ih (q + 1) (by omega))
set_option maxHeartbeats 4000000 in
set_option maxRecDepth 100000 in
theorem L2i_X4_digest (F : Fx p l s m args meth c cX4_digest 5 RX4 X) (G : Gx X l) {jc tc : Nat} {ln : Nat → Nat} (hS : Shp (M 0) jc tc ln) {d : Int64} {q : Nat} (hq0 : q < jc) (K : V p l e rm_X4_digest s m args below meth c Q X 5 ex (M) lf 0 0 81 [(4, .int (nI 7)), (3, .int (nI q)), (1, .long (dgL (fTellJ (M 0) tc q) d 7)), (0, .ref (X.2.1 5 0 0))] []) : ∀ (k a : Nat), k + a = 7 → V p l e rm_X4_digest s m args below meth c Q X 5 ex (M) lf 0 0 50 [(4, .int (nI a)), (3, .int (nI q)), (1, .long (dgL (fTellJ (M 0) tc q) d a)), (0, .ref (X.2.1 5 0 0))] [] := by
  intro k
  induction k with
  | zero =>
    intro a ha
    obtain rfl : a = 7 := by omega
    refine v_iload F dX4_digest_50 0 rfl ?_
    refine v_bipush F (v := nI 7) dX4_digest_52 (by decide) ?_
    refine v_icmp_ge F (tgt := 81) dX4_digest_54 (by decide) (fun c54 => ?_) (fun h => absurd (nI_le (Nat.le_refl _) (by omega)) h)
    exact K
  | succ k ih =>
    intro a ha
    refine v_iload F dX4_digest_50 0 rfl ?_
    refine v_bipush F (v := nI 7) dX4_digest_52 (by decide) ?_
    refine v_icmp_ge F (tgt := 81) dX4_digest_54 (by decide) (fun h => absurd h (nI_ge (by omega) (by omega))) (fun c54 => ?_)
    refine v_lload_n F dX4_digest_57 rfl 2 rfl ?_
    refine v_ldc2 F wk_X4_175 dX4_digest_58 ?_
    refine v_lmul F dX4_digest_61 ?_
    refine v_aload_n F dX4_digest_62 rfl 3 rfl ?_
    refine v_get F id_5 rfl rfl uw_X4 0 (by decide) rfl rfl wf_X4_10 dX4_digest_63 ?_
    refine v_iload_n F dX4_digest_66 rfl 1 rfl ?_
    refine v_iload F dX4_digest_67 0 rfl ?_
    refine v_callNi F (As := [_, _]) (rest := [.long _]) rfl (CI_q (c_X2_tellJuggler G (by decide) hS hq0 a (by omega))) (Rv_R (by decide)) wm_X4_128 rfl ⟨rfl, rfl, Nat.le_of_ble_eq_true rfl, Nat.le_of_ble_eq_true rfl, Nat.le_of_ble_eq_true rfl, Nat.le_of_ble_eq_true rfl, Nat.le_of_ble_eq_true rfl⟩ dX4_digest_69 ?_
    refine v_i2l F dX4_digest_72 ?_
    refine v_ladd F dX4_digest_73 ?_
    refine v_lstore_n F dX4_digest_74 rfl (by decide) (lv' := [(1, .long _), (4, .int _), (3, .int _), (0, .ref _)]) rfl ?_
    refine v_iinc F (k := 1) (nI (a + 1)) dX4_digest_75 rfl (iinc_nI a) (by decide) (lv' := [(4, .int _), (1, .long _), (3, .int _), (0, .ref _)]) rfl ?_
    refine v_goto F (tgt := 50) dX4_digest_78 (by decide) ?_
    exact v_locs [0, 2, 1, 3] rfl (ih (a + 1) (by omega))
set_option maxHeartbeats 4000000 in
set_option maxRecDepth 100000 in
theorem L3i_X4_digest (F : Fx p l s m args meth c cX4_digest 5 RX4 X) (G : Gx X l) {jc tc : Nat} {ln : Nat → Nat} (hS : Shp (M 0) jc tc ln) {d : Int64} {q : Nat} (hq0 : q < tc) (K : V p l e rm_X4_digest s m args below meth c Q X 5 ex (M) lf 0 0 151 [(4, .int (nI 7)), (3, .int (nI q)), (1, .long (dgL (fTellT (M 0) q) d 7)), (0, .ref (X.2.1 5 0 0))] []) : ∀ (k a : Nat), k + a = 7 → V p l e rm_X4_digest s m args below meth c Q X 5 ex (M) lf 0 0 120 [(4, .int (nI a)), (3, .int (nI q)), (1, .long (dgL (fTellT (M 0) q) d a)), (0, .ref (X.2.1 5 0 0))] [] := by
  intro k
  induction k with
  | zero =>
    intro a ha
    obtain rfl : a = 7 := by omega
    refine v_iload F dX4_digest_120 0 rfl ?_
    refine v_bipush F (v := nI 7) dX4_digest_122 (by decide) ?_
    refine v_icmp_ge F (tgt := 151) dX4_digest_124 (by decide) (fun c124 => ?_) (fun h => absurd (nI_le (Nat.le_refl _) (by omega)) h)
    exact K
  | succ k ih =>
    intro a ha
    refine v_iload F dX4_digest_120 0 rfl ?_
    refine v_bipush F (v := nI 7) dX4_digest_122 (by decide) ?_
    refine v_icmp_ge F (tgt := 151) dX4_digest_124 (by decide) (fun h => absurd h (nI_ge (by omega) (by omega))) (fun c124 => ?_)
    refine v_lload_n F dX4_digest_127 rfl 2 rfl ?_
    refine v_ldc2 F wk_X4_175 dX4_digest_128 ?_
    refine v_lmul F dX4_digest_131 ?_
    refine v_aload_n F dX4_digest_132 rfl 3 rfl ?_
    refine v_get F id_5 rfl rfl uw_X4 0 (by decide) rfl rfl wf_X4_10 dX4_digest_133 ?_
    refine v_iload_n F dX4_digest_136 rfl 1 rfl ?_
    refine v_iload F dX4_digest_137 0 rfl ?_
    refine v_callNi F (As := [_, _]) (rest := [.long _]) rfl (CI_q (c_X2_tellThing G (by decide) hS hq0 a (by omega))) (Rv_R (by decide)) wm_X4_124 rfl ⟨rfl, rfl, Nat.le_of_ble_eq_true rfl, Nat.le_of_ble_eq_true rfl, Nat.le_of_ble_eq_true rfl, Nat.le_of_ble_eq_true rfl, Nat.le_of_ble_eq_true rfl⟩ dX4_digest_139 ?_
    refine v_i2l F dX4_digest_142 ?_
    refine v_ladd F dX4_digest_143 ?_
    refine v_lstore_n F dX4_digest_144 rfl (by decide) (lv' := [(1, .long _), (4, .int _), (3, .int _), (0, .ref _)]) rfl ?_
    refine v_iinc F (k := 1) (nI (a + 1)) dX4_digest_145 rfl (iinc_nI a) (by decide) (lv' := [(4, .int _), (1, .long _), (3, .int _), (0, .ref _)]) rfl ?_
    refine v_goto F (tgt := 120) dX4_digest_148 (by decide) ?_
    exact v_locs [0, 2, 1, 3] rfl (ih (a + 1) (by omega))
set_option maxHeartbeats 4000000 in
set_option maxRecDepth 100000 in
theorem L2_X4_digest (F : Fx p l s m args meth c cX4_digest 5 RX4 X) (G : Gx X l) {jc tc : Nat} {ln : Nat → Nat} (hS : Shp (M 0) jc tc ln) {d : Int64} (K : V p l e rm_X4_digest s m args below meth c Q X 5 ex (M) lf 0 0 104 [(3, .int (nI jc)), (1, .long (dgJ (M 0) tc ln d jc)), (0, .ref (X.2.1 5 0 0))] []) : ∀ (k q : Nat), k + q = jc → V p l e rm_X4_digest s m args below meth c Q X 5 ex (M) lf 0 0 36 [(3, .int (nI q)), (1, .long (dgJ (M 0) tc ln d q)), (0, .ref (X.2.1 5 0 0))] [] := by
  have h4 := hS.1
  intro k
  induction k with
  | zero =>
    intro q hq
    obtain rfl : q = jc := by omega
    refine v_iload_n F dX4_digest_36 rfl 0 rfl ?_
    refine v_aload_n F dX4_digest_37 rfl 2 rfl ?_
    refine v_get F id_5 rfl rfl uw_X4 0 (by decide) rfl rfl wf_X4_10 dX4_digest_38 ?_
    refine v_getN F (id_R (by decide) (by decide) (by decide)) (celD_R (by decide)) rfl uw_X2 2 (by decide) rfl rfl wf_X4_26 dX4_digest_41 ?_
    refine v_topr (nI q) hS.2.2.1 ?_
    refine v_icmp_ge F (tgt := 104) dX4_digest_44 (by decide) (fun c44 => ?_) (fun h => absurd (nI_le (Nat.le_refl _) (by omega)) h)
    exact K
  | succ k ih =>
    intro q hq
    have hp := hS.2.2.2.2 q (by omega)
    refine v_iload_n F dX4_digest_36 rfl 0 rfl ?_
    refine v_aload_n F dX4_digest_37 rfl 2 rfl ?_
    refine v_get F id_5 rfl rfl uw_X4 0 (by decide) rfl rfl wf_X4_10 dX4_digest_38 ?_
    refine v_getN F (id_R (by decide) (by decide) (by decide)) (celD_R (by decide)) rfl uw_X2 2 (by decide) rfl rfl wf_X4_26 dX4_digest_41 ?_
    refine v_topr (nI jc) hS.2.2.1 ?_
    refine v_icmp_ge F (tgt := 104) dX4_digest_44 (by decide) (fun h => absurd h (nI_ge (by omega) (by omega))) (fun c44 => ?_)
    refine v_iconst F (v := nI 0) dX4_digest_47 (by decide) ?_
    refine v_istore F dX4_digest_48 (by decide) (lv' := [(4, .int _), (3, .int _), (1, .long _), (0, .ref _)]) rfl ?_
    refine L2i_X4_digest F G hS (show q < jc by omega) ?_ 7 0 rfl
    · skip
      refine v_aload_n F dX4_digest_81 rfl 3 rfl ?_
      refine v_get F id_5 rfl rfl uw_X4 0 (by decide) rfl rfl wf_X4_10 dX4_digest_82 ?_
      refine v_getN F (id_R (by decide) (by decide) (by decide)) (celD_R (by decide)) rfl uw_X2 0 (by decide) rfl rfl wf_X4_50 dX4_digest_85 ?_
      refine v_iload_n F dX4_digest_88 rfl 1 rfl ?_
      refine v_aaldJ F (by decide) (q) (Ix_nI (by omega)) dX4_digest_89 ?_
      refine v_getN F (id_R (by decide) (by decide) (show q < 4 by omega)) (celD_R (by decide)) rfl uw_X0 0 (by decide) rfl rfl wf_X4_54 dX4_digest_90 ?_
      refine v_lload_n F dX4_digest_93 rfl 2 rfl ?_
      refine v_callNl F (As := [_]) (rest := []) rfl (CL_q (c_X1_addTo G (by decide) (show q < 4 by omega) hp.2.1 hp.2.2 _)) (Rv_P (by decide) (show q < 4 by omega)) wm_X4_177 rfl ⟨rfl, rfl, Nat.le_of_ble_eq_true rfl, Nat.le_of_ble_eq_true rfl, Nat.le_of_ble_eq_true rfl, Nat.le_of_ble_eq_true rfl, Nat.le_of_ble_eq_true rfl⟩ dX4_digest_94 ?_
      refine v_lstore_n F dX4_digest_97 rfl (by decide) (lv' := [(1, .long _), (4, .int _), (3, .int _), (0, .ref _)]) rfl ?_
      refine v_iinc F (k := 2) (nI (q + 1)) dX4_digest_98 rfl (iinc_nI q) (by decide) (lv' := [(3, .int _), (1, .long _), (4, .int _), (0, .ref _)]) rfl ?_
      refine v_goto F (tgt := 36) dX4_digest_101 (by decide) ?_
      exact v_locs [0, 1, 3] rfl (ih (q + 1) (by omega))
set_option maxHeartbeats 4000000 in
set_option maxRecDepth 100000 in
theorem L3_X4_digest (F : Fx p l s m args meth c cX4_digest 5 RX4 X) (G : Gx X l) {jc tc : Nat} {ln : Nat → Nat} (hS : Shp (M 0) jc tc ln) {d : Int64} (K : V p l e rm_X4_digest s m args below meth c Q X 5 ex (M) lf 0 0 157 [(3, .int (nI tc)), (1, .long (dgT (M 0) d tc)), (0, .ref (X.2.1 5 0 0))] []) : ∀ (k q : Nat), k + q = tc → V p l e rm_X4_digest s m args below meth c Q X 5 ex (M) lf 0 0 106 [(3, .int (nI q)), (1, .long (dgT (M 0) d q)), (0, .ref (X.2.1 5 0 0))] [] := by
  have h12 := hS.2.1
  intro k
  induction k with
  | zero =>
    intro q hq
    obtain rfl : q = tc := by omega
    refine v_iload_n F dX4_digest_106 rfl 0 rfl ?_
    refine v_aload_n F dX4_digest_107 rfl 2 rfl ?_
    refine v_get F id_5 rfl rfl uw_X4 0 (by decide) rfl rfl wf_X4_10 dX4_digest_108 ?_
    refine v_getN F (id_R (by decide) (by decide) (by decide)) (celD_R (by decide)) rfl uw_X2 3 (by decide) rfl rfl wf_X4_85 dX4_digest_111 ?_
    refine v_topr (nI q) hS.2.2.2.1 ?_
    refine v_icmp_ge F (tgt := 157) dX4_digest_114 (by decide) (fun c114 => ?_) (fun h => absurd (nI_le (Nat.le_refl _) (by omega)) h)
    exact K
  | succ k ih =>
    intro q hq
    refine v_iload_n F dX4_digest_106 rfl 0 rfl ?_
    refine v_aload_n F dX4_digest_107 rfl 2 rfl ?_
    refine v_get F id_5 rfl rfl uw_X4 0 (by decide) rfl rfl wf_X4_10 dX4_digest_108 ?_
    refine v_getN F (id_R (by decide) (by decide) (by decide)) (celD_R (by decide)) rfl uw_X2 3 (by decide) rfl rfl wf_X4_85 dX4_digest_111 ?_
    refine v_topr (nI tc) hS.2.2.2.1 ?_
    refine v_icmp_ge F (tgt := 157) dX4_digest_114 (by decide) (fun h => absurd h (nI_ge (by omega) (by omega))) (fun c114 => ?_)
    refine v_iconst F (v := nI 0) dX4_digest_117 (by decide) ?_
    refine v_istore F dX4_digest_118 (by decide) (lv' := [(4, .int _), (3, .int _), (1, .long _), (0, .ref _)]) rfl ?_
    refine L3i_X4_digest F G hS (show q < tc by omega) ?_ 7 0 rfl
    · skip
      refine v_iinc F (k := 1) (nI (q + 1)) dX4_digest_151 rfl (iinc_nI q) (by decide) (lv' := [(3, .int _), (4, .int _), (1, .long _), (0, .ref _)]) rfl ?_
      refine v_goto F (tgt := 106) dX4_digest_154 (by decide) ?_
      exact v_locs [0, 2, 3] rfl (ih (q + 1) (by omega))
set_option maxHeartbeats 4000000 in
set_option maxRecDepth 100000 in
theorem c_X4_digest {X : Cx} {l : Launch} (G : Gx X l) {M : Mem} {lf : Lf} {jc tc : Nat} {ln : Nat → Nat} (hS : Shp (M 0) jc tc ln)  : CL X l yX4_digest (wsc yX4_digest cX4_digest 5 (some .long)) rm_X4_digest [.ref (X.2.1 5 0 0)] (M) lf (fDigest (M 0) jc tc ln) (M) lf 0 0 := by
  refine CL_of (lv := [(0, .ref _)]) G (by decide) (Nat.le_of_ble_eq_true rfl) rfl (fun p e s m args below meth c F hr => ?_)
  have F : Fx p l s m args meth c cX4_digest 5 RX4 X := F
  have h4 := hS.1
  have h12 := hS.2.1
  refine v_ldc2 F wk_X4_173 dX4_digest_0 ?_
  refine v_lstore_n F dX4_digest_3 rfl (by decide) (lv' := [(1, .long _), (0, .ref _)]) rfl ?_
  refine v_iconst F (v := nI 0) dX4_digest_4 (by decide) ?_
  refine v_istore_n F dX4_digest_5 rfl (by decide) (lv' := [(3, .int _), (1, .long _), (0, .ref _)]) rfl ?_
  refine L1_X4_digest F G hS ?_ 9 0 rfl
  · skip
    refine v_iconst F (v := nI 0) dX4_digest_34 (by decide) ?_
    refine v_istore_n F dX4_digest_35 rfl (by decide) (lv' := [(3, .int _), (1, .long _), (0, .ref _)]) rfl ?_
    refine v_locs [0, 1, 2] rfl ?_
    refine L2_X4_digest F G hS ?_ jc 0 (Nat.add_zero jc)
    · skip
      refine v_iconst F (v := nI 0) dX4_digest_104 (by decide) ?_
      refine v_istore_n F dX4_digest_105 rfl (by decide) (lv' := [(3, .int _), (1, .long _), (0, .ref _)]) rfl ?_
      refine v_locs [0, 1, 2] rfl ?_
      refine L3_X4_digest F G hS ?_ tc 0 (Nat.add_zero tc)
      · skip
        refine v_lload_n F dX4_digest_157 rfl 1 rfl ?_
        exact v_lret F hr dX4_digest_158 rfl rfl rfl
end RV
