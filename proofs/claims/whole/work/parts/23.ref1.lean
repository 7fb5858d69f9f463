/-! ===== the reference ===== -/
theorem m1_y {n j : Nat} (h : j < n) (hn : n < 2 ^ 31) : ¬ nI n - 1 < nI j := by
  obtain ⟨m, rfl⟩ : ∃ m, n = m + 1 := ⟨n - 1, by omega⟩
  rw [nI_pred]
  exact nI_nlt (by omega) (by omega)
theorem m1_n {n : Nat} {x : Int32} (hn : n < 2 ^ 31) (h : x < 0 ∨ nI n ≤ x) : x < 0 ∨ nI n - 1 < x := by
  refine h.imp_right (fun z => ?_)
  have h1 : ∀ m : Nat, m = n → nI m - 1 < x := by
    intro m hm
    cases m with
    | zero =>
      subst hm
      exact Int32.lt_of_lt_of_le (by decide) z
    | succ m =>
      subst hm
      rw [nI_pred]
      exact Int32.lt_of_lt_of_le (nI_lt (by omega) hn) z
  exact h1 n rfl
abbrev rm_X6_thrown : Room := { frames := 0, cells := 0, slots := 0, locals := 0 }
abbrev rm_X6_no : Room := { frames := 0, cells := 0, slots := 0, locals := 0 }
abbrev rm_X6_isIn : Room := { frames := 0, cells := 0, slots := 0, locals := 0 }
set_option maxHeartbeats 4000000 in
set_option maxRecDepth 100000 in
theorem c_X6_thrown {X : Cx} {l : Launch} (G : Gx X l) {M : Mem} {lf : Lf}  : CI X l yX6_thrown (wsc yX6_thrown cX6_thrown 1 (some .int)) rm_X6_thrown [.ref (X.2.1 2 0 0)] (M) lf (M 2 0 0 0) (M) lf 0 0 := by
  refine CI_of (lv := [(0, .ref _)]) G (by decide) (Nat.le_of_ble_eq_true rfl) rfl (fun p e s m args below meth c F hr => ?_)
  have F : Fx p l s m args meth c cX6_thrown 1 RX6 X := F
  refine v_aload_n F dX6_thrown_0 rfl 0 rfl ?_
  refine v_get F (id_Q 0 (by decide)) rfl rfl uw_X6 0 (by decide) rfl rfl wf_X6_37 dX6_thrown_1 ?_
  exact v_iret F hr dX6_thrown_4 rfl rfl rfl
set_option maxHeartbeats 4000000 in
set_option maxRecDepth 100000 in
theorem c_X6_no {X : Cx} {l : Launch} (G : Gx X l) {M : Mem} {lf : Lf} {q : Sg} (x : Int32) : CI X l yX6_no (wsc yX6_no cX6_no 2 (some .int)) rm_X6_no [.ref (X.2.1 2 0 0), .int x] (uC M 2 q) lf (0) (uC M 2 (u3 q 0 0 0 x)) lf 0 0 := by
  refine CI_of (lv := [(0, .ref _), (1, .int _)]) G (by decide) (Nat.le_of_ble_eq_true rfl) rfl (fun p e s m args below meth c F hr => ?_)
  have F : Fx p l s m args meth c cX6_no 2 RX6 X := F
  refine v_aload_n F dX6_no_0 rfl 0 rfl ?_
  refine v_iload_n F dX6_no_1 rfl 1 rfl ?_
  refine v_putC F tyX6 tyX6_ok nmX6 (id_Q 0 (by decide)) rfl rfl uw_X6 0 (by decide) rfl rfl (by decide +kernel) rfl (Nat.le_of_ble_eq_true rfl) wf_X6_37 dX6_no_2 ?_
  refine v_iconst F (v := 0) dX6_no_5 (by decide) ?_
  exact v_iret F hr dX6_no_6 rfl rfl rfl
set_option maxHeartbeats 4000000 in
set_option maxRecDepth 100000 in
theorem c_X6_isIn_y {X : Cx} {l : Launch} (G : Gx X l) {M : Mem} {lf : Lf} {v a z : Int32} (h1 : ¬ v < a) (h2 : ¬ z < v) : CI X l yX6_isIn (wsc yX6_isIn cX6_isIn 3 (some .boolean)) rm_X6_isIn [.int v, .int a, .int z] (M) lf (1) (M) lf 0 0 := by
  refine CI_of (lv := [(0, .int _), (1, .int _), (2, .int _)]) G (by decide) (Nat.le_of_ble_eq_true rfl) rfl (fun p e s m args below meth c F hr => ?_)
  have F : Fx p l s m args meth c cX6_isIn 3 RX6 X := F
  refine v_iload_n F dX6_isIn_0 rfl 0 rfl ?_
  refine v_iload_n F dX6_isIn_1 rfl 1 rfl ?_
  refine v_icmp_lt F (tgt := 14) dX6_isIn_2 (by decide) (fun h => absurd h (h1)) (fun c2 => ?_)
  refine v_iload_n F dX6_isIn_5 rfl 0 rfl ?_
  refine v_iload_n F dX6_isIn_6 rfl 2 rfl ?_
  refine v_icmp_gt F (tgt := 14) dX6_isIn_7 (by decide) (fun h => absurd h (h2)) (fun c7 => ?_)
  refine v_iconst F (v := 1) dX6_isIn_10 (by decide) ?_
  refine v_goto F (tgt := 15) dX6_isIn_11 (by decide) ?_
  exact v_zret F hr dX6_isIn_15 (by decide) rfl rfl rfl
set_option maxHeartbeats 4000000 in
set_option maxRecDepth 100000 in
theorem c_X6_isIn_n {X : Cx} {l : Launch} (G : Gx X l) {M : Mem} {lf : Lf} {v a z : Int32} (hv : v < a ∨ z < v) : CI X l yX6_isIn (wsc yX6_isIn cX6_isIn 3 (some .boolean)) rm_X6_isIn [.int v, .int a, .int z] (M) lf (0) (M) lf 0 0 := by
  refine CI_of (lv := [(0, .int _), (1, .int _), (2, .int _)]) G (by decide) (Nat.le_of_ble_eq_true rfl) rfl (fun p e s m args below meth c F hr => ?_)
  have F : Fx p l s m args meth c cX6_isIn 3 RX6 X := F
  refine v_iload_n F dX6_isIn_0 rfl 0 rfl ?_
  refine v_iload_n F dX6_isIn_1 rfl 1 rfl ?_
  refine v_icmp_lt F (tgt := 14) dX6_isIn_2 (by decide) (fun c2 => ?_) (fun c2 => ?_)
  · have := c2
    refine v_iconst F (v := 0) dX6_isIn_14 (by decide) ?_
    exact v_zret F hr dX6_isIn_15 (by decide) rfl rfl rfl
  · have := c2
    refine v_iload_n F dX6_isIn_5 rfl 0 rfl ?_
    refine v_iload_n F dX6_isIn_6 rfl 2 rfl ?_
    refine v_icmp_gt F (tgt := 14) dX6_isIn_7 (by decide) (fun c7 => ?_) (fun h => absurd (hv.resolve_left c2) h)
    refine v_iconst F (v := 0) dX6_isIn_14 (by decide) ?_
    exact v_zret F hr dX6_isIn_15 (by decide) rfl rfl rfl
abbrev rm_X6_isJuggler : Room := { frames := 1, cells := 0, slots := 0, locals := 22 }
abbrev rm_X6_isThing : Room := { frames := 1, cells := 0, slots := 0, locals := 22 }
abbrev rm_X6_isPlace : Room := { frames := 2, cells := 0, slots := 0, locals := 43 }
set_option maxHeartbeats 4000000 in
set_option maxRecDepth 100000 in
theorem c_X6_isJuggler_y {X : Cx} {l : Launch} (G : Gx X l) {M : Mem} {lf : Lf} {jc : Nat} (hN : M 2 0 0 1 = nI jc) (hb : jc < 2 ^ 31) {j : Nat} (hj : j < jc) : CI X l yX6_isJuggler (wsc yX6_isJuggler cX6_isJuggler 2 (some .boolean)) rm_X6_isJuggler [.ref (X.2.1 2 0 0), .int (nI j)] (M) lf (1) (M) lf 0 0 := by
  refine CI_of (lv := [(0, .ref _), (1, .int _)]) G (by decide) (Nat.le_of_ble_eq_true rfl) rfl (fun p e s m args below meth c F hr => ?_)
  have F : Fx p l s m args meth c cX6_isJuggler 2 RX6 X := F
  refine v_iload_n F dX6_isJuggler_0 rfl 1 rfl ?_
  refine v_iconst F (v := 0) dX6_isJuggler_1 (by decide) ?_
  refine v_aload_n F dX6_isJuggler_2 rfl 0 rfl ?_
  refine v_get F (id_Q 0 (by decide)) rfl rfl uw_X6 1 (by decide) rfl rfl wf_X6_41 dX6_isJuggler_3 ?_
  refine v_topr (nI jc) hN ?_
  refine v_iconst F (v := 1) dX6_isJuggler_6 (by decide) ?_
  refine v_isub F dX6_isJuggler_7 ?_
  refine v_callSi F (As := [_, _, _]) (rest := []) rfl (c_X6_isIn_y G (nI_pos (by omega)) (m1_y hj hb)) wm_X6_44 rfl ⟨rfl, rfl, Nat.le_of_ble_eq_true rfl, Nat.le_of_ble_eq_true rfl, Nat.le_of_ble_eq_true rfl, Nat.le_of_ble_eq_true rfl, Nat.le_of_ble_eq_true rfl⟩ dX6_isJuggler_8 ?_
  exact v_zret F hr dX6_isJuggler_11 (by decide) rfl rfl rfl
set_option maxHeartbeats 4000000 in
set_option maxRecDepth 100000 in
theorem c_X6_isJuggler_n {X : Cx} {l : Launch} (G : Gx X l) {M : Mem} {lf : Lf} {jc : Nat} (hN : M 2 0 0 1 = nI jc) (hb : jc < 2 ^ 31) {x : Int32} (hx : x < 0 ∨ nI jc ≤ x) : CI X l yX6_isJuggler (wsc yX6_isJuggler cX6_isJuggler 2 (some .boolean)) rm_X6_isJuggler [.ref (X.2.1 2 0 0), .int x] (M) lf (0) (M) lf 0 0 := by
  refine CI_of (lv := [(0, .ref _), (1, .int _)]) G (by decide) (Nat.le_of_ble_eq_true rfl) rfl (fun p e s m args below meth c F hr => ?_)
  have F : Fx p l s m args meth c cX6_isJuggler 2 RX6 X := F
  refine v_iload_n F dX6_isJuggler_0 rfl 1 rfl ?_
  refine v_iconst F (v := 0) dX6_isJuggler_1 (by decide) ?_
  refine v_aload_n F dX6_isJuggler_2 rfl 0 rfl ?_
  refine v_get F (id_Q 0 (by decide)) rfl rfl uw_X6 1 (by decide) rfl rfl wf_X6_41 dX6_isJuggler_3 ?_
  refine v_topr (nI jc) hN ?_
  refine v_iconst F (v := 1) dX6_isJuggler_6 (by decide) ?_
  refine v_isub F dX6_isJuggler_7 ?_
  refine v_callSi F (As := [_, _, _]) (rest := []) rfl (c_X6_isIn_n G (m1_n hb hx)) wm_X6_44 rfl ⟨rfl, rfl, Nat.le_of_ble_eq_true rfl, Nat.le_of_ble_eq_true rfl, Nat.le_of_ble_eq_true rfl, Nat.le_of_ble_eq_true rfl, Nat.le_of_ble_eq_true rfl⟩ dX6_isJuggler_8 ?_
  exact v_zret F hr dX6_isJuggler_11 (by decide) rfl rfl rfl
set_option maxHeartbeats 4000000 in
set_option maxRecDepth 100000 in
theorem c_X6_isThing_y {X : Cx} {l : Launch} (G : Gx X l) {M : Mem} {lf : Lf} {tc : Nat} (hN : M 2 0 0 2 = nI tc) (hb : tc < 2 ^ 31) {j : Nat} (hj : j < tc) : CI X l yX6_isThing (wsc yX6_isThing cX6_isThing 2 (some .boolean)) rm_X6_isThing [.ref (X.2.1 2 0 0), .int (nI j)] (M) lf (1) (M) lf 0 0 := by
  refine CI_of (lv := [(0, .ref _), (1, .int _)]) G (by decide) (Nat.le_of_ble_eq_true rfl) rfl (fun p e s m args below meth c F hr => ?_)
  have F : Fx p l s m args meth c cX6_isThing 2 RX6 X := F
  refine v_iload_n F dX6_isThing_0 rfl 1 rfl ?_
  refine v_iconst F (v := 0) dX6_isThing_1 (by decide) ?_
  refine v_aload_n F dX6_isThing_2 rfl 0 rfl ?_
  refine v_get F (id_Q 0 (by decide)) rfl rfl uw_X6 2 (by decide) rfl rfl wf_X6_48 dX6_isThing_3 ?_
  refine v_topr (nI tc) hN ?_
  refine v_iconst F (v := 1) dX6_isThing_6 (by decide) ?_
  refine v_isub F dX6_isThing_7 ?_
  refine v_callSi F (As := [_, _, _]) (rest := []) rfl (c_X6_isIn_y G (nI_pos (by omega)) (m1_y hj hb)) wm_X6_44 rfl ⟨rfl, rfl, Nat.le_of_ble_eq_true rfl, Nat.le_of_ble_eq_true rfl, Nat.le_of_ble_eq_true rfl, Nat.le_of_ble_eq_true rfl, Nat.le_of_ble_eq_true rfl⟩ dX6_isThing_8 ?_
  exact v_zret F hr dX6_isThing_11 (by decide) rfl rfl rfl
set_option maxHeartbeats 4000000 in
set_option maxRecDepth 100000 in
theorem c_X6_isThing_n {X : Cx} {l : Launch} (G : Gx X l) {M : Mem} {lf : Lf} {tc : Nat} (hN : M 2 0 0 2 = nI tc) (hb : tc < 2 ^ 31) {x : Int32} (hx : x < 0 ∨ nI tc ≤ x) : CI X l yX6_isThing (wsc yX6_isThing cX6_isThing 2 (some .boolean)) rm_X6_isThing [.ref (X.2.1 2 0 0), .int x] (M) lf (0) (M) lf 0 0 := by
  refine CI_of (lv := [(0, .ref _), (1, .int _)]) G (by decide) (Nat.le_of_ble_eq_true rfl) rfl (fun p e s m args below meth c F hr => ?_)
  have F : Fx p l s m args meth c cX6_isThing 2 RX6 X := F
  refine v_iload_n F dX6_isThing_0 rfl 1 rfl ?_
  refine v_iconst F (v := 0) dX6_isThing_1 (by decide) ?_
  refine v_aload_n F dX6_isThing_2 rfl 0 rfl ?_
  refine v_get F (id_Q 0 (by decide)) rfl rfl uw_X6 2 (by decide) rfl rfl wf_X6_48 dX6_isThing_3 ?_
  refine v_topr (nI tc) hN ?_
  refine v_iconst F (v := 1) dX6_isThing_6 (by decide) ?_
  refine v_isub F dX6_isThing_7 ?_
  refine v_callSi F (As := [_, _, _]) (rest := []) rfl (c_X6_isIn_n G (m1_n hb hx)) wm_X6_44 rfl ⟨rfl, rfl, Nat.le_of_ble_eq_true rfl, Nat.le_of_ble_eq_true rfl, Nat.le_of_ble_eq_true rfl, Nat.le_of_ble_eq_true rfl, Nat.le_of_ble_eq_true rfl⟩ dX6_isThing_8 ?_
  exact v_zret F hr dX6_isThing_11 (by decide) rfl rfl rfl
set_option maxHeartbeats 4000000 in
set_option maxRecDepth 100000 in
theorem c_X6_isPlace_y {X : Cx} {l : Launch} (G : Gx X l) {M : Mem} {lf : Lf} {jc : Nat} (hN : M 2 0 0 1 = nI jc) (h4 : jc ≤ 4) {j p n : Nat} (hj : j < jc) (hn : M 2 2 0 j = nI n) (h8 : n ≤ 8) (hp : p < n) : CI X l yX6_isPlace (wsc yX6_isPlace cX6_isPlace 3 (some .boolean)) rm_X6_isPlace [.ref (X.2.1 2 0 0), .int (nI j), .int (nI p)] (M) lf (1) (M) lf 0 0 := by
  refine CI_of (lv := [(0, .ref _), (1, .int _), (2, .int _)]) G (by decide) (Nat.le_of_ble_eq_true rfl) rfl (fun p e s m args below meth c F hr => ?_)
  have F : Fx p l s m args meth c cX6_isPlace 3 RX6 X := F
  refine v_aload_n F dX6_isPlace_0 rfl 0 rfl ?_
  refine v_iload_n F dX6_isPlace_1 rfl 1 rfl ?_
  refine v_callVi F (As := [_]) (rest := []) rfl (c_X6_isJuggler_y G hN (by omega) hj) Rv_Q wm_X6_51 rfl ⟨rfl, rfl, Nat.le_of_ble_eq_true rfl, Nat.le_of_ble_eq_true rfl, Nat.le_of_ble_eq_true rfl, Nat.le_of_ble_eq_true rfl, Nat.le_of_ble_eq_true rfl⟩ dX6_isPlace_2 ?_
  refine v_if_eq F (tgt := 28) dX6_isPlace_5 (by decide) (fun h => absurd h ((by decide))) (fun c5 => ?_)
  refine v_iload_n F dX6_isPlace_8 rfl 2 rfl ?_
  refine v_iconst F (v := 0) dX6_isPlace_9 (by decide) ?_
  refine v_aload_n F dX6_isPlace_10 rfl 0 rfl ?_
  refine v_get F (id_Q 0 (by decide)) rfl rfl uw_X6 4 (by decide) rfl rfl wf_X6_13 dX6_isPlace_11 ?_
  refine v_iload_n F dX6_isPlace_14 rfl 1 rfl ?_
  refine v_iald F (id_Q 2 (by decide)) rfl rfl (j) (Ix_nI (by omega)) dX6_isPlace_15 ?_
  refine v_topr (nI n) hn ?_
  refine v_iconst F (v := 1) dX6_isPlace_16 (by decide) ?_
  refine v_isub F dX6_isPlace_17 ?_
  refine v_callSi F (As := [_, _, _]) (rest := []) rfl (c_X6_isIn_y G (nI_pos (by omega)) (m1_y hp (by omega))) wm_X6_44 rfl ⟨rfl, rfl, Nat.le_of_ble_eq_true rfl, Nat.le_of_ble_eq_true rfl, Nat.le_of_ble_eq_true rfl, Nat.le_of_ble_eq_true rfl, Nat.le_of_ble_eq_true rfl⟩ dX6_isPlace_18 ?_
  refine v_if_eq F (tgt := 28) dX6_isPlace_21 (by decide) (fun h => absurd h ((by decide))) (fun c21 => ?_)
  refine v_iconst F (v := 1) dX6_isPlace_24 (by decide) ?_
  refine v_goto F (tgt := 29) dX6_isPlace_25 (by decide) ?_
  exact v_zret F hr dX6_isPlace_29 (by decide) rfl rfl rfl
set_option maxHeartbeats 4000000 in
set_option maxRecDepth 100000 in
theorem c_X6_isPlace_j {X : Cx} {l : Launch} (G : Gx X l) {M : Mem} {lf : Lf} {jc : Nat} (hN : M 2 0 0 1 = nI jc) (h4 : jc ≤ 4) {x y : Int32} (hx : x < 0 ∨ nI jc ≤ x) : CI X l yX6_isPlace (wsc yX6_isPlace cX6_isPlace 3 (some .boolean)) rm_X6_isPlace [.ref (X.2.1 2 0 0), .int x, .int y] (M) lf (0) (M) lf 0 0 := by
  refine CI_of (lv := [(0, .ref _), (1, .int _), (2, .int _)]) G (by decide) (Nat.le_of_ble_eq_true rfl) rfl (fun p e s m args below meth c F hr => ?_)
  have F : Fx p l s m args meth c cX6_isPlace 3 RX6 X := F
  refine v_aload_n F dX6_isPlace_0 rfl 0 rfl ?_
  refine v_iload_n F dX6_isPlace_1 rfl 1 rfl ?_
  refine v_callVi F (As := [_]) (rest := []) rfl (c_X6_isJuggler_n G hN (by omega) hx) Rv_Q wm_X6_51 rfl ⟨rfl, rfl, Nat.le_of_ble_eq_true rfl, Nat.le_of_ble_eq_true rfl, Nat.le_of_ble_eq_true rfl, Nat.le_of_ble_eq_true rfl, Nat.le_of_ble_eq_true rfl⟩ dX6_isPlace_2 ?_
  refine v_if_eq F (tgt := 28) dX6_isPlace_5 (by decide) (fun c5 => ?_) (fun h => absurd (rfl) h)
  refine v_iconst F (v := 0) dX6_isPlace_28 (by decide) ?_
  exact v_zret F hr dX6_isPlace_29 (by decide) rfl rfl rfl
set_option maxHeartbeats 4000000 in
set_option maxRecDepth 100000 in
theorem c_X6_isPlace_p {X : Cx} {l : Launch} (G : Gx X l) {M : Mem} {lf : Lf} {jc : Nat} (hN : M 2 0 0 1 = nI jc) (h4 : jc ≤ 4) {j n : Nat} (hj : j < jc) (hn : M 2 2 0 j = nI n) (h8 : n ≤ 8) {y : Int32} (hy : y < 0 ∨ nI n ≤ y) : CI X l yX6_isPlace (wsc yX6_isPlace cX6_isPlace 3 (some .boolean)) rm_X6_isPlace [.ref (X.2.1 2 0 0), .int (nI j), .int y] (M) lf (0) (M) lf 0 0 := by
  refine CI_of (lv := [(0, .ref _), (1, .int _), (2, .int _)]) G (by decide) (Nat.le_of_ble_eq_true rfl) rfl (fun p e s m args below meth c F hr => ?_)
  have F : Fx p l s m args meth c cX6_isPlace 3 RX6 X := F
  refine v_aload_n F dX6_isPlace_0 rfl 0 rfl ?_
  refine v_iload_n F dX6_isPlace_1 rfl 1 rfl ?_
  refine v_callVi F (As := [_]) (rest := []) rfl (c_X6_isJuggler_y G hN (by omega) hj) Rv_Q wm_X6_51 rfl ⟨rfl, rfl, Nat.le_of_ble_eq_true rfl, Nat.le_of_ble_eq_true rfl, Nat.le_of_ble_eq_true rfl, Nat.le_of_ble_eq_true rfl, Nat.le_of_ble_eq_true rfl⟩ dX6_isPlace_2 ?_
  refine v_if_eq F (tgt := 28) dX6_isPlace_5 (by decide) (fun h => absurd h ((by decide))) (fun c5 => ?_)
  refine v_iload_n F dX6_isPlace_8 rfl 2 rfl ?_
  refine v_iconst F (v := 0) dX6_isPlace_9 (by decide) ?_
  refine v_aload_n F dX6_isPlace_10 rfl 0 rfl ?_
  refine v_get F (id_Q 0 (by decide)) rfl rfl uw_X6 4 (by decide) rfl rfl wf_X6_13 dX6_isPlace_11 ?_
  refine v_iload_n F dX6_isPlace_14 rfl 1 rfl ?_
  refine v_iald F (id_Q 2 (by decide)) rfl rfl (j) (Ix_nI (by omega)) dX6_isPlace_15 ?_
  refine v_topr (nI n) hn ?_
  refine v_iconst F (v := 1) dX6_isPlace_16 (by decide) ?_
  refine v_isub F dX6_isPlace_17 ?_
  refine v_callSi F (As := [_, _, _]) (rest := []) rfl (c_X6_isIn_n G (m1_n (by omega) hy)) wm_X6_44 rfl ⟨rfl, rfl, Nat.le_of_ble_eq_true rfl, Nat.le_of_ble_eq_true rfl, Nat.le_of_ble_eq_true rfl, Nat.le_of_ble_eq_true rfl, Nat.le_of_ble_eq_true rfl⟩ dX6_isPlace_18 ?_
  refine v_if_eq F (tgt := 28) dX6_isPlace_21 (by decide) (fun c21 => ?_) (fun h => absurd (rfl) h)
  refine v_iconst F (v := 0) dX6_isPlace_28 (by decide) ?_
  exact v_zret F hr dX6_isPlace_29 (by decide) rfl rfl rfl
abbrev rm_X6_come : Room := { frames := 1, cells := 0, slots := 0, locals := 22 }
set_option maxHeartbeats 4000000 in
set_option maxRecDepth 100000 in
theorem c_X6_come {X : Cx} {l : Launch} (G : Gx X l) {M : Mem} {lf : Lf} {j n : Nat} (hj : j < 4) (hJ : M 2 0 0 1 = nI j) (h1 : 1 ≤ n) (h9 : n ≤ 9) : CI X l yX6_come (wsc yX6_come cX6_come 2 (some .int)) rm_X6_come [.ref (X.2.1 2 0 0), .int (nI n)] (M) lf (nI j) (uC M 2 (gCome (u3 (M 2) 0 0 0 0) j (nI n))) lf 0 0 := by
  refine CI_of (lv := [(0, .ref _), (1, .int _)]) G (by decide) (Nat.le_of_ble_eq_true rfl) rfl (fun p e s m args below meth c F hr => ?_)
  have F : Fx p l s m args meth c cX6_come 2 RX6 X := F
  refine v_mem (uC_self _ 2) ?_
  refine v_aload_n F dX6_come_0 rfl 0 rfl ?_
  refine v_iconst F (v := 0) dX6_come_1 (by decide) ?_
  refine v_putC F tyX6 tyX6_ok nmX6 (id_Q 0 (by decide)) rfl rfl uw_X6 0 (by decide) rfl rfl (by decide +kernel) rfl (Nat.le_of_ble_eq_true rfl) wf_X6_37 dX6_come_2 ?_
  refine v_iload_n F dX6_come_5 rfl 1 rfl ?_
  refine v_iconst F (v := nI 1) dX6_come_6 (by decide) ?_
  refine v_bipush F (v := nI 9) dX6_come_7 (by decide) ?_
  refine v_callSi F (As := [_, _, _]) (rest := []) rfl (c_X6_isIn_y G (nI_nlt h1 (by omega)) (nI_nlt h9 (by decide))) wm_X6_44 rfl ⟨rfl, rfl, Nat.le_of_ble_eq_true rfl, Nat.le_of_ble_eq_true rfl, Nat.le_of_ble_eq_true rfl, Nat.le_of_ble_eq_true rfl, Nat.le_of_ble_eq_true rfl⟩ dX6_come_9 ?_
  refine v_if_ne F (tgt := 21) dX6_come_12 (by decide) (fun c12 => ?_) (fun h => absurd h ((by decide)))
  refine v_aload_n F dX6_come_21 rfl 0 rfl ?_
  refine v_get F (id_Q 0 (by decide)) heQ rfl uw_X6 1 (by decide) rfl rfl wf_X6_41 dX6_come_22 ?_
  refine v_topr (nI j) (by simpa [u3_eq] using hJ) ?_
  refine v_iconst F (v := nI 4) dX6_come_25 (by decide) ?_
  refine v_icmp_ne F (tgt := 35) dX6_come_26 (by decide) (fun c26 => ?_) (fun h => absurd h ((fun z => absurd (nI_inj (by omega) (by decide) z) (by omega))))
  refine v_aload_n F dX6_come_35 rfl 0 rfl ?_
  refine v_get F (id_Q 0 (by decide)) heQ rfl uw_X6 3 (by decide) rfl rfl wf_X6_9 dX6_come_36 ?_
  refine v_aload_n F dX6_come_39 rfl 0 rfl ?_
  refine v_get F (id_Q 0 (by decide)) heQ rfl uw_X6 1 (by decide) rfl rfl wf_X6_41 dX6_come_40 ?_
  refine v_topr (nI j) (by simpa [u3_eq] using hJ) ?_
  refine v_iload_n F dX6_come_43 rfl 1 rfl ?_
  refine v_iastC F (id_Q 1 (by decide)) rfl rfl (j) (Ix_nI hj) rfl dX6_come_44 ?_
  refine v_aload_n F dX6_come_45 rfl 0 rfl ?_
  refine v_get F (id_Q 0 (by decide)) heQ rfl uw_X6 4 (by decide) rfl rfl wf_X6_13 dX6_come_46 ?_
  refine v_aload_n F dX6_come_49 rfl 0 rfl ?_
  refine v_get F (id_Q 0 (by decide)) heQ rfl uw_X6 1 (by decide) rfl rfl wf_X6_41 dX6_come_50 ?_
  refine v_topr (nI j) (by simpa [u3_eq] using hJ) ?_
  refine v_iconst F (v := 1) dX6_come_53 (by decide) ?_
  refine v_iastC F (id_Q 2 (by decide)) rfl rfl (j) (Ix_nI hj) rfl dX6_come_54 ?_
  refine v_aload_n F dX6_come_55 rfl 0 rfl ?_
  refine v_get F (id_Q 0 (by decide)) heQ rfl uw_X6 6 (by decide) rfl rfl wf_X6_19 dX6_come_56 ?_
  refine v_bipush F (v := nI 8) dX6_come_59 (by decide) ?_
  refine v_aload_n F dX6_come_61 rfl 0 rfl ?_
  refine v_get F (id_Q 0 (by decide)) heQ rfl uw_X6 1 (by decide) rfl rfl wf_X6_41 dX6_come_62 ?_
  refine v_topr (nI j) (by simpa [u3_eq] using hJ) ?_
  refine v_imul F dX6_come_65 ?_
  refine v_topr (nI (8 * j)) (pk_mul 8 j) ?_
  refine v_aload_n F dX6_come_66 rfl 0 rfl ?_
  refine v_get F (id_Q 0 (by decide)) heQ rfl uw_X6 1 (by decide) rfl rfl wf_X6_41 dX6_come_67 ?_
  refine v_topr (nI j) (by simpa [u3_eq] using hJ) ?_
  refine v_iastC F (id_Q 4 (by decide)) rfl rfl (8 * j) (Ix_nI (by omega)) rfl dX6_come_70 ?_
  refine v_aload_n F dX6_come_71 rfl 0 rfl ?_
  refine v_dup F dX6_come_72 rfl ?_
  refine v_get F (id_Q 0 (by decide)) heQ rfl uw_X6 1 (by decide) rfl rfl wf_X6_41 dX6_come_73 ?_
  refine v_topr (nI j) (by simpa [u3_eq] using hJ) ?_
  refine v_iconst F (v := 1) dX6_come_76 (by decide) ?_
  refine v_iadd F dX6_come_77 ?_
  refine v_topr (nI (j + 1)) (nI_1 j) ?_
  refine v_putC F tyX6 tyX6_ok nmX6 (id_Q 0 (by decide)) rfl rfl uw_X6 1 (by decide) rfl rfl (by decide +kernel) rfl (Nat.le_of_ble_eq_true rfl) wf_X6_41 dX6_come_78 ?_
  refine v_aload_n F dX6_come_81 rfl 0 rfl ?_
  refine v_get F (id_Q 0 (by decide)) heQ rfl uw_X6 1 (by decide) rfl rfl wf_X6_41 dX6_come_82 ?_
  refine v_topr (nI (j + 1)) (u3_at _ _ _ _ _) ?_
  refine v_iconst F (v := 1) dX6_come_85 (by decide) ?_
  refine v_isub F dX6_come_86 ?_
  refine v_topr (nI j) (nI_pred j) ?_
  exact v_iret F hr dX6_come_87 rfl rfl rfl
set_option maxHeartbeats 4000000 in
set_option maxRecDepth 100000 in
theorem c_X6_come_a {X : Cx} {l : Launch} (G : Gx X l) {M : Mem} {lf : Lf} {x : Int32} (hx : x < 1 ∨ 9 < x) : CI X l yX6_come (wsc yX6_come cX6_come 2 (some .int)) rm_X6_come [.ref (X.2.1 2 0 0), .int x] (M) lf (0) (uC M 2 (u3 (u3 (M 2) 0 0 0 0) 0 0 0 1)) lf 0 0 := by
  refine CI_of (lv := [(0, .ref _), (1, .int _)]) G (by decide) (Nat.le_of_ble_eq_true rfl) rfl (fun p e s m args below meth c F hr => ?_)
  have F : Fx p l s m args meth c cX6_come 2 RX6 X := F
  refine v_mem (uC_self _ 2) ?_
  refine v_aload_n F dX6_come_0 rfl 0 rfl ?_
  refine v_iconst F (v := 0) dX6_come_1 (by decide) ?_
  refine v_putC F tyX6 tyX6_ok nmX6 (id_Q 0 (by decide)) rfl rfl uw_X6 0 (by decide) rfl rfl (by decide +kernel) rfl (Nat.le_of_ble_eq_true rfl) wf_X6_37 dX6_come_2 ?_
  refine v_iload_n F dX6_come_5 rfl 1 rfl ?_
  refine v_iconst F (v := 1) dX6_come_6 (by decide) ?_
  refine v_bipush F (v := 9) dX6_come_7 (by decide) ?_
  refine v_callSi F (As := [_, _, _]) (rest := []) rfl (c_X6_isIn_n G hx) wm_X6_44 rfl ⟨rfl, rfl, Nat.le_of_ble_eq_true rfl, Nat.le_of_ble_eq_true rfl, Nat.le_of_ble_eq_true rfl, Nat.le_of_ble_eq_true rfl, Nat.le_of_ble_eq_true rfl⟩ dX6_come_9 ?_
  refine v_if_ne F (tgt := 21) dX6_come_12 (by decide) (fun h => absurd (rfl) h) (fun c12 => ?_)
  refine v_aload_n F dX6_come_15 rfl 0 rfl ?_
  refine v_iconst F (v := 1) dX6_come_16 (by decide) ?_
  refine v_callVi F (As := [_]) (rest := []) rfl (c_X6_no G 1) Rv_Q wm_X6_55 rfl ⟨rfl, rfl, Nat.le_of_ble_eq_true rfl, Nat.le_of_ble_eq_true rfl, Nat.le_of_ble_eq_true rfl, Nat.le_of_ble_eq_true rfl, Nat.le_of_ble_eq_true rfl⟩ dX6_come_17 ?_
  exact v_iret F hr dX6_come_20 rfl rfl rfl
set_option maxHeartbeats 4000000 in
set_option maxRecDepth 100000 in
theorem c_X6_come_s {X : Cx} {l : Launch} (G : Gx X l) {M : Mem} {lf : Lf} {n : Nat} (hJ : M 2 0 0 1 = nI 4) (h1 : 1 ≤ n) (h9 : n ≤ 9) : CI X l yX6_come (wsc yX6_come cX6_come 2 (some .int)) rm_X6_come [.ref (X.2.1 2 0 0), .int (nI n)] (M) lf (0) (uC M 2 (u3 (u3 (M 2) 0 0 0 0) 0 0 0 2)) lf 0 0 := by
  refine CI_of (lv := [(0, .ref _), (1, .int _)]) G (by decide) (Nat.le_of_ble_eq_true rfl) rfl (fun p e s m args below meth c F hr => ?_)
  have F : Fx p l s m args meth c cX6_come 2 RX6 X := F
  refine v_mem (uC_self _ 2) ?_
  refine v_aload_n F dX6_come_0 rfl 0 rfl ?_
  refine v_iconst F (v := 0) dX6_come_1 (by decide) ?_
  refine v_putC F tyX6 tyX6_ok nmX6 (id_Q 0 (by decide)) rfl rfl uw_X6 0 (by decide) rfl rfl (by decide +kernel) rfl (Nat.le_of_ble_eq_true rfl) wf_X6_37 dX6_come_2 ?_
  refine v_iload_n F dX6_come_5 rfl 1 rfl ?_
  refine v_iconst F (v := nI 1) dX6_come_6 (by decide) ?_
  refine v_bipush F (v := nI 9) dX6_come_7 (by decide) ?_
  refine v_callSi F (As := [_, _, _]) (rest := []) rfl (c_X6_isIn_y G (nI_nlt h1 (by omega)) (nI_nlt h9 (by decide))) wm_X6_44 rfl ⟨rfl, rfl, Nat.le_of_ble_eq_true rfl, Nat.le_of_ble_eq_true rfl, Nat.le_of_ble_eq_true rfl, Nat.le_of_ble_eq_true rfl, Nat.le_of_ble_eq_true rfl⟩ dX6_come_9 ?_
  refine v_if_ne F (tgt := 21) dX6_come_12 (by decide) (fun c12 => ?_) (fun h => absurd h ((by decide)))
  refine v_aload_n F dX6_come_21 rfl 0 rfl ?_
  refine v_get F (id_Q 0 (by decide)) heQ rfl uw_X6 1 (by decide) rfl rfl wf_X6_41 dX6_come_22 ?_
  refine v_topr (nI 4) (by simpa [u3_eq] using hJ) ?_
  refine v_iconst F (v := nI 4) dX6_come_25 (by decide) ?_
  refine v_icmp_ne F (tgt := 35) dX6_come_26 (by decide) (fun h => absurd (rfl) h) (fun c26 => ?_)
  refine v_aload_n F dX6_come_29 rfl 0 rfl ?_
  refine v_iconst F (v := 2) dX6_come_30 (by decide) ?_
  refine v_callVi F (As := [_]) (rest := []) rfl (c_X6_no G 2) Rv_Q wm_X6_55 rfl ⟨rfl, rfl, Nat.le_of_ble_eq_true rfl, Nat.le_of_ble_eq_true rfl, Nat.le_of_ble_eq_true rfl, Nat.le_of_ble_eq_true rfl, Nat.le_of_ble_eq_true rfl⟩ dX6_come_31 ?_
  exact v_iret F hr dX6_come_34 rfl rfl rfl
abbrev rm_X6_make : Room := { frames := 1, cells := 0, slots := 0, locals := 22 }
set_option maxHeartbeats 4000000 in
set_option maxRecDepth 100000 in
theorem c_X6_make {X : Cx} {l : Launch} (G : Gx X l) {M : Mem} {lf : Lf} {k n : Nat} (hk : k < 12) (hT : M 2 0 0 2 = nI k) (h3 : n < 3) : CI X l yX6_make (wsc yX6_make cX6_make 2 (some .int)) rm_X6_make [.ref (X.2.1 2 0 0), .int (nI n)] (M) lf (nI k) (uC M 2 (gMake (u3 (M 2) 0 0 0 0) k (nI n))) lf 0 0 := by
  refine CI_of (lv := [(0, .ref _), (1, .int _)]) G (by decide) (Nat.le_of_ble_eq_true rfl) rfl (fun p e s m args below meth c F hr => ?_)
  have F : Fx p l s m args meth c cX6_make 2 RX6 X := F
  refine v_mem (uC_self _ 2) ?_
  refine v_aload_n F dX6_make_0 rfl 0 rfl ?_
  refine v_iconst F (v := 0) dX6_make_1 (by decide) ?_
  refine v_putC F tyX6 tyX6_ok nmX6 (id_Q 0 (by decide)) rfl rfl uw_X6 0 (by decide) rfl rfl (by decide +kernel) rfl (Nat.le_of_ble_eq_true rfl) wf_X6_37 dX6_make_2 ?_
  refine v_iload_n F dX6_make_5 rfl 1 rfl ?_
  refine v_iconst F (v := 0) dX6_make_6 (by decide) ?_
  refine v_iconst F (v := nI 2) dX6_make_7 (by decide) ?_
  refine v_callSi F (As := [_, _, _]) (rest := []) rfl (c_X6_isIn_y G (nI_pos (by omega)) (nI_nlt (by omega) (by decide))) wm_X6_44 rfl ⟨rfl, rfl, Nat.le_of_ble_eq_true rfl, Nat.le_of_ble_eq_true rfl, Nat.le_of_ble_eq_true rfl, Nat.le_of_ble_eq_true rfl, Nat.le_of_ble_eq_true rfl⟩ dX6_make_8 ?_
  refine v_if_ne F (tgt := 20) dX6_make_11 (by decide) (fun c11 => ?_) (fun h => absurd h ((by decide)))
  refine v_aload_n F dX6_make_20 rfl 0 rfl ?_
  refine v_get F (id_Q 0 (by decide)) heQ rfl uw_X6 2 (by decide) rfl rfl wf_X6_48 dX6_make_21 ?_
  refine v_topr (nI k) (by simpa [u3_eq] using hT) ?_
  refine v_bipush F (v := nI 12) dX6_make_24 (by decide) ?_
  refine v_icmp_ne F (tgt := 35) dX6_make_26 (by decide) (fun c26 => ?_) (fun h => absurd h ((fun z => absurd (nI_inj (by omega) (by decide) z) (by omega))))
  refine v_aload_n F dX6_make_35 rfl 0 rfl ?_
  refine v_get F (id_Q 0 (by decide)) heQ rfl uw_X6 7 (by decide) rfl rfl wf_X6_22 dX6_make_36 ?_
  refine v_aload_n F dX6_make_39 rfl 0 rfl ?_
  refine v_get F (id_Q 0 (by decide)) heQ rfl uw_X6 2 (by decide) rfl rfl wf_X6_48 dX6_make_40 ?_
  refine v_topr (nI k) (by simpa [u3_eq] using hT) ?_
  refine v_iload_n F dX6_make_43 rfl 1 rfl ?_
  refine v_iastC F (id_Q 5 (by decide)) rfl rfl (k) (Ix_nI hk) rfl dX6_make_44 ?_
  refine v_aload_n F dX6_make_45 rfl 0 rfl ?_
  refine v_dup F dX6_make_46 rfl ?_
  refine v_get F (id_Q 0 (by decide)) heQ rfl uw_X6 2 (by decide) rfl rfl wf_X6_48 dX6_make_47 ?_
  refine v_topr (nI k) (by simpa [u3_eq] using hT) ?_
  refine v_iconst F (v := 1) dX6_make_50 (by decide) ?_
  refine v_iadd F dX6_make_51 ?_
  refine v_topr (nI (k + 1)) (nI_1 k) ?_
  refine v_putC F tyX6 tyX6_ok nmX6 (id_Q 0 (by decide)) rfl rfl uw_X6 2 (by decide) rfl rfl (by decide +kernel) rfl (Nat.le_of_ble_eq_true rfl) wf_X6_48 dX6_make_52 ?_
  refine v_aload_n F dX6_make_55 rfl 0 rfl ?_
  refine v_get F (id_Q 0 (by decide)) heQ rfl uw_X6 2 (by decide) rfl rfl wf_X6_48 dX6_make_56 ?_
  refine v_topr (nI (k + 1)) (u3_at _ _ _ _ _) ?_
  refine v_iconst F (v := 1) dX6_make_59 (by decide) ?_
  refine v_isub F dX6_make_60 ?_
  refine v_topr (nI k) (nI_pred k) ?_
  exact v_iret F hr dX6_make_61 rfl rfl rfl
set_option maxHeartbeats 4000000 in
set_option maxRecDepth 100000 in
theorem c_X6_make_a {X : Cx} {l : Launch} (G : Gx X l) {M : Mem} {lf : Lf} {x : Int32} (hx : x < 0 ∨ nI 3 ≤ x) : CI X l yX6_make (wsc yX6_make cX6_make 2 (some .int)) rm_X6_make [.ref (X.2.1 2 0 0), .int x] (M) lf (0) (uC M 2 (u3 (u3 (M 2) 0 0 0 0) 0 0 0 1)) lf 0 0 := by
  refine CI_of (lv := [(0, .ref _), (1, .int _)]) G (by decide) (Nat.le_of_ble_eq_true rfl) rfl (fun p e s m args below meth c F hr => ?_)
  have F : Fx p l s m args meth c cX6_make 2 RX6 X := F
  refine v_mem (uC_self _ 2) ?_
  refine v_aload_n F dX6_make_0 rfl 0 rfl ?_
  refine v_iconst F (v := 0) dX6_make_1 (by decide) ?_
  refine v_putC F tyX6 tyX6_ok nmX6 (id_Q 0 (by decide)) rfl rfl uw_X6 0 (by decide) rfl rfl (by decide +kernel) rfl (Nat.le_of_ble_eq_true rfl) wf_X6_37 dX6_make_2 ?_
  refine v_iload_n F dX6_make_5 rfl 1 rfl ?_
  refine v_iconst F (v := 0) dX6_make_6 (by decide) ?_
  refine v_iconst F (v := (nI 3 - 1)) dX6_make_7 (by decide) ?_
  refine v_callSi F (As := [_, _, _]) (rest := []) rfl (c_X6_isIn_n G (m1_n (by decide) hx)) wm_X6_44 rfl ⟨rfl, rfl, Nat.le_of_ble_eq_true rfl, Nat.le_of_ble_eq_true rfl, Nat.le_of_ble_eq_true rfl, Nat.le_of_ble_eq_true rfl, Nat.le_of_ble_eq_true rfl⟩ dX6_make_8 ?_
  refine v_if_ne F (tgt := 20) dX6_make_11 (by decide) (fun h => absurd (rfl) h) (fun c11 => ?_)
  refine v_aload_n F dX6_make_14 rfl 0 rfl ?_
  refine v_iconst F (v := 1) dX6_make_15 (by decide) ?_
  refine v_callVi F (As := [_]) (rest := []) rfl (c_X6_no G 1) Rv_Q wm_X6_55 rfl ⟨rfl, rfl, Nat.le_of_ble_eq_true rfl, Nat.le_of_ble_eq_true rfl, Nat.le_of_ble_eq_true rfl, Nat.le_of_ble_eq_true rfl, Nat.le_of_ble_eq_true rfl⟩ dX6_make_16 ?_
  exact v_iret F hr dX6_make_19 rfl rfl rfl
set_option maxHeartbeats 4000000 in
set_option maxRecDepth 100000 in
theorem c_X6_make_s {X : Cx} {l : Launch} (G : Gx X l) {M : Mem} {lf : Lf} {n : Nat} (hT : M 2 0 0 2 = nI 12) (h3 : n < 3) : CI X l yX6_make (wsc yX6_make cX6_make 2 (some .int)) rm_X6_make [.ref (X.2.1 2 0 0), .int (nI n)] (M) lf (0) (uC M 2 (u3 (u3 (M 2) 0 0 0 0) 0 0 0 2)) lf 0 0 := by
  refine CI_of (lv := [(0, .ref _), (1, .int _)]) G (by decide) (Nat.le_of_ble_eq_true rfl) rfl (fun p e s m args below meth c F hr => ?_)
  have F : Fx p l s m args meth c cX6_make 2 RX6 X := F
  refine v_mem (uC_self _ 2) ?_
  refine v_aload_n F dX6_make_0 rfl 0 rfl ?_
  refine v_iconst F (v := 0) dX6_make_1 (by decide) ?_
  refine v_putC F tyX6 tyX6_ok nmX6 (id_Q 0 (by decide)) rfl rfl uw_X6 0 (by decide) rfl rfl (by decide +kernel) rfl (Nat.le_of_ble_eq_true rfl) wf_X6_37 dX6_make_2 ?_
  refine v_iload_n F dX6_make_5 rfl 1 rfl ?_
  refine v_iconst F (v := 0) dX6_make_6 (by decide) ?_
  refine v_iconst F (v := nI 2) dX6_make_7 (by decide) ?_
  refine v_callSi F (As := [_, _, _]) (rest := []) rfl (c_X6_isIn_y G (nI_pos (by omega)) (nI_nlt (by omega) (by decide))) wm_X6_44 rfl ⟨rfl, rfl, Nat.le_of_ble_eq_true rfl, Nat.le_of_ble_eq_true rfl, Nat.le_of_ble_eq_true rfl, Nat.le_of_ble_eq_true rfl, Nat.le_of_ble_eq_true rfl⟩ dX6_make_8 ?_
  refine v_if_ne F (tgt := 20) dX6_make_11 (by decide) (fun c11 => ?_) (fun h => absurd h ((by decide)))
  refine v_aload_n F dX6_make_20 rfl 0 rfl ?_
  refine v_get F (id_Q 0 (by decide)) heQ rfl uw_X6 2 (by decide) rfl rfl wf_X6_48 dX6_make_21 ?_
  refine v_topr (nI 12) (by simpa [u3_eq] using hT) ?_
  refine v_bipush F (v := nI 12) dX6_make_24 (by decide) ?_
  refine v_icmp_ne F (tgt := 35) dX6_make_26 (by decide) (fun h => absurd (rfl) h) (fun c26 => ?_)
  refine v_aload_n F dX6_make_29 rfl 0 rfl ?_
  refine v_iconst F (v := 2) dX6_make_30 (by decide) ?_
  refine v_callVi F (As := [_]) (rest := []) rfl (c_X6_no G 2) Rv_Q wm_X6_55 rfl ⟨rfl, rfl, Nat.le_of_ble_eq_true rfl, Nat.le_of_ble_eq_true rfl, Nat.le_of_ble_eq_true rfl, Nat.le_of_ble_eq_true rfl, Nat.le_of_ble_eq_true rfl⟩ dX6_make_31 ?_
  exact v_iret F hr dX6_make_34 rfl rfl rfl
section SX
variable {p : Program} {l : Launch} {e : Env} {R : Room} {s : State} {m : MethodId} {args : Array Value} {below : List Frame} {meth : Method} {c : Code} {Q : State → Prop} {X : Cx} {nL : Nat} {ex : va_W} {M : Mem} {lf : Lf} {cells slots : Nat}
abbrev rm_X6_setPattern : Room := { frames := 2, cells := 0, slots := 0, locals := 43 }
set_option maxHeartbeats 4000000 in
set_option maxRecDepth 100000 in
theorem L1_X6_setPattern (F : Fx p l s m args meth c cX6_setPattern 8 RX6 X) {u x y : Int32} (K : ∀ q : Nat, q ≤ 8 → (∀ a, a < q → nI a < x) → (q = 8 ∨ x ≤ nI q) → V p l e R s m args below meth c Q X 8 ex (M) lf cells slots 51 [(5, .int (nI q)), (4, .int (nI (10 ^ q))), (0, .ref (X.2.1 2 0 0)), (1, .int u), (2, .int x), (3, .int y)] []) : ∀ (k q : Nat), k + q = 8 → (∀ a, a < q → nI a < x) → V p l e R s m args below meth c Q X 8 ex (M) lf cells slots 25 [(5, .int (nI q)), (4, .int (nI (10 ^ q))), (0, .ref (X.2.1 2 0 0)), (1, .int u), (2, .int x), (3, .int y)] [] := by
  intro k
  induction k with
  | zero =>
    intro q hq ha
    obtain rfl : q = 8 := by omega
    refine v_iload F dX6_setPattern_25 0 rfl ?_
    refine v_iload_n F dX6_setPattern_27 rfl 4 rfl ?_
    refine v_icmp_ge F (tgt := 51) dX6_setPattern_28 (by decide) (fun c28 => ?_) (fun c28 => ?_)
    · have := c28
      exact K 8 (by decide) ha (Or.inl rfl)
    · have := c28
      refine v_iload F dX6_setPattern_31 0 rfl ?_
      refine v_bipush F (v := nI 8) dX6_setPattern_33 (by decide) ?_
      refine v_icmp_ge F (tgt := 51) dX6_setPattern_35 (by decide) (fun c35 => ?_) (fun h => absurd (nI_le (Nat.le_refl 8) (by decide)) h)
      exact K 8 (by decide) ha (Or.inl rfl)
  | succ k ih =>
    intro q hq ha
    refine v_iload F dX6_setPattern_25 0 rfl ?_
    refine v_iload_n F dX6_setPattern_27 rfl 4 rfl ?_
    refine v_icmp_ge F (tgt := 51) dX6_setPattern_28 (by decide) (fun c28 => ?_) (fun c28 => ?_)
    · have := c28
      exact K q (by omega) ha (Or.inr c28)
    · have := c28
      refine v_iload F dX6_setPattern_31 0 rfl ?_
      refine v_bipush F (v := nI 8) dX6_setPattern_33 (by decide) ?_
      refine v_icmp_ge F (tgt := 51) dX6_setPattern_35 (by decide) (fun h => absurd h (nI_ge (by omega) (by decide))) (fun c35 => ?_)
      refine v_iload F dX6_setPattern_38 1 rfl ?_
      refine v_bipush F (v := nI 10) dX6_setPattern_40 (by decide) ?_
      refine v_imul F dX6_setPattern_42 ?_
      refine v_topr (nI (10 ^ (q + 1))) (by rw [pk_mul, ← Nat.pow_succ]) ?_
      refine v_istore F dX6_setPattern_43 (by decide) (lv' := [(4, .int _), (5, .int _), (0, .ref _), (1, .int _), (2, .int _), (3, .int _)]) rfl ?_
      refine v_iinc F (k := 1) (nI (q + 1)) dX6_setPattern_45 rfl (iinc_nI q) (by decide) (lv' := [(5, .int _), (4, .int _), (0, .ref _), (1, .int _), (2, .int _), (3, .int _)]) rfl ?_
      refine v_goto F (tgt := 25) dX6_setPattern_48 (by decide) ?_
      refine v_locs [0, 1, 2, 3, 4, 5] rfl ?_
      refine ih (q + 1) (by omega) (fun a h => ?_)
      by_cases z : a = q
      · subst z; exact lt_of_nle c28
      · exact ha a (by omega)
set_option maxHeartbeats 4000000 in
set_option maxRecDepth 100000 in
theorem L2_X6_setPattern (F : Fx p l s m args meth c cX6_setPattern 8 RX6 X) {u v x y : Int32} {j : Nat} (hj : j < 4) {τ : Sg} (K : ∀ (k r : Int32), V p l e R s m args below meth c Q X 8 ex (uC M 2 τ) lf cells slots 150 [(7, .int (k)), (6, .int r), (5, .int u), (4, .int v), (0, .ref (X.2.1 2 0 0)), (1, .int (nI j)), (2, .int x), (3, .int y)] []) : ∀ (n : Nat), n ≤ 8 → ∀ (q : Sg) (rest : Int32), grL j n rest q = τ → V p l e R s m args below meth c Q X 8 ex (uC M 2 q) lf cells slots 102 [(7, .int (nI n - 1)), (6, .int rest), (5, .int u), (4, .int v), (0, .ref (X.2.1 2 0 0)), (1, .int (nI j)), (2, .int x), (3, .int y)] [] := by
  intro n
  induction n with
  | zero =>
    intro hn q rest hτ
    subst hτ
    refine v_iload F dX6_setPattern_102 0 rfl ?_
    refine v_if_lt F (tgt := 150) dX6_setPattern_104 (by decide) (fun c104 => ?_) (fun h => absurd ((by decide : (nI 0 - 1 : Int32) < 0)) h)
    exact K _ _
  | succ n ih =>
    intro hn q rest hτ
    rw [nI_pred n]
    refine v_iload F dX6_setPattern_102 0 rfl ?_
    refine v_if_lt F (tgt := 150) dX6_setPattern_104 (by decide) (fun h => absurd h (nI_pos (by omega))) (fun c104 => ?_)
    refine v_aload_n F dX6_setPattern_107 rfl 4 rfl ?_
    refine v_get F (id_Q 0 (by decide)) heQ rfl uw_X6 5 (by decide) rfl rfl wf_X6_16 dX6_setPattern_108 ?_
    refine v_bipush F (v := nI 8) dX6_setPattern_111 (by decide) ?_
    refine v_iload_n F dX6_setPattern_113 rfl 5 rfl ?_
    refine v_imul F dX6_setPattern_114 ?_
    refine v_iload F dX6_setPattern_115 0 rfl ?_
    refine v_iadd F dX6_setPattern_117 ?_
    refine v_topr (nI (8 * j + n)) (by rw [pk_mul, nI_add]) ?_
    refine v_iload F dX6_setPattern_118 1 rfl ?_
    refine v_bipush F (v := 10) dX6_setPattern_120 (by decide) ?_
    refine v_irem F dX6_setPattern_122 (by decide) ?_
    refine v_iastC F (id_Q 3 (by decide)) rfl rfl (8 * j + n) (Ix_nI (by omega)) rfl dX6_setPattern_123 ?_
    refine v_aload_n F dX6_setPattern_124 rfl 4 rfl ?_
    refine v_get F (id_Q 0 (by decide)) heQ rfl uw_X6 6 (by decide) rfl rfl wf_X6_19 dX6_setPattern_125 ?_
    refine v_bipush F (v := nI 8) dX6_setPattern_128 (by decide) ?_
    refine v_iload_n F dX6_setPattern_130 rfl 5 rfl ?_
    refine v_imul F dX6_setPattern_131 ?_
    refine v_iload F dX6_setPattern_132 0 rfl ?_
    refine v_iadd F dX6_setPattern_134 ?_
    refine v_topr (nI (8 * j + n)) (by rw [pk_mul, nI_add]) ?_
    refine v_iload_n F dX6_setPattern_135 rfl 5 rfl ?_
    refine v_iastC F (id_Q 4 (by decide)) rfl rfl (8 * j + n) (Ix_nI (by omega)) rfl dX6_setPattern_136 ?_
    refine v_iload F dX6_setPattern_137 1 rfl ?_
    refine v_bipush F (v := 10) dX6_setPattern_139 (by decide) ?_
    refine v_idiv F dX6_setPattern_141 (by decide) ?_
    refine v_istore F dX6_setPattern_142 (by decide) (lv' := [(6, .int _), (7, .int _), (5, .int _), (4, .int _), (0, .ref _), (1, .int _), (2, .int _), (3, .int _)]) rfl ?_
    refine v_iinc F (k := 1) (nI n - 1) dX6_setPattern_144 rfl (iinc_m1 _) (by decide) (lv' := [(7, .int _), (6, .int _), (5, .int _), (4, .int _), (0, .ref _), (1, .int _), (2, .int _), (3, .int _)]) rfl ?_
    refine v_goto F (tgt := 102) dX6_setPattern_147 (by decide) ?_
    refine v_locs [0, 1, 2, 3, 4, 5, 6, 7] rfl ?_
    exact ih (by omega) _ _ hτ
set_option maxHeartbeats 4000000 in
set_option maxRecDepth 100000 in
theorem c_X6_setPattern {X : Cx} {l : Launch} (G : Gx X l) {M : Mem} {lf : Lf} {σ : Sg} {jc tc b : Nat} {ln : Nat → Nat} (C : Cp σ (M 2) (M 3) jc tc b ln) {j n d : Nat} (hj : j < jc) (h1 : 1 ≤ n) (h8 : n ≤ 8) (hd : d < 10 ^ n) : CI X l yX6_setPattern (wsc yX6_setPattern cX6_setPattern 8 (some .int)) rm_X6_setPattern [.ref (X.2.1 2 0 0), .int (nI j), .int (nI n), .int (nI d)] (M) lf (nI (ln j)) (uC M 2 (gPat (u3 (M 2) 0 0 0 0) j n (nI d))) lf 0 0 := by
  refine CI_of (lv := [(0, .ref _), (1, .int _), (2, .int _), (3, .int _)]) G (by decide) (Nat.le_of_ble_eq_true rfl) rfl (fun p e s m args below meth c F hr => ?_)
  have F : Fx p l s m args meth c cX6_setPattern 8 RX6 X := F
  have h4 := C.1.1.1
  have h12 := C.1.1.2.1
  have hJ := C.1.2.1
  have hT := C.1.2.2.1
  have hJQ : (uC M 2 (u3 (M 2) 0 0 0 0)) 2 0 0 1 = nI jc := by rw [uC_at, u3_ne (by decide)]; exact hJ
  have hlQ : (uC M 2 (u3 (M 2) 0 0 0 0)) 2 2 0 j = nI (ln j) := by rw [uC_at, u3_ne (by omega)]; exact (C.1.2.2.2.1 j hj).2.1
  have h10 := p10_lt h8
  refine v_mem (uC_self _ 2) ?_
  refine v_aload_n F dX6_setPattern_0 rfl 0 rfl ?_
  refine v_iconst F (v := 0) dX6_setPattern_1 (by decide) ?_
  refine v_putC F tyX6 tyX6_ok nmX6 (id_Q 0 (by decide)) rfl rfl uw_X6 0 (by decide) rfl rfl (by decide +kernel) rfl (Nat.le_of_ble_eq_true rfl) wf_X6_37 dX6_setPattern_2 ?_
  refine v_aload_n F dX6_setPattern_5 rfl 0 rfl ?_
  refine v_iload_n F dX6_setPattern_6 rfl 1 rfl ?_
  refine v_callVi F (As := [_]) (rest := []) rfl (c_X6_isJuggler_y G (hJQ) (by omega) hj) Rv_Q wm_X6_51 rfl ⟨rfl, rfl, Nat.le_of_ble_eq_true rfl, Nat.le_of_ble_eq_true rfl, Nat.le_of_ble_eq_true rfl, Nat.le_of_ble_eq_true rfl, Nat.le_of_ble_eq_true rfl⟩ dX6_setPattern_7 ?_
  refine v_if_ne F (tgt := 19) dX6_setPattern_10 (by decide) (fun c10 => ?_) (fun h => absurd h ((by decide)))
  refine v_iconst F (v := nI (10 ^ 0)) dX6_setPattern_19 (by decide) ?_
  refine v_istore F dX6_setPattern_20 (by decide) (lv' := [(4, .int _), (0, .ref _), (1, .int _), (2, .int _), (3, .int _)]) rfl ?_
  refine v_iconst F (v := nI 0) dX6_setPattern_22 (by decide) ?_
  refine v_istore F dX6_setPattern_23 (by decide) (lv' := [(5, .int _), (4, .int _), (0, .ref _), (1, .int _), (2, .int _), (3, .int _)]) rfl ?_
  refine L1_X6_setPattern F (fun a a8 a1 a2 => ?_) 8 0 rfl (fun _ z => absurd z (Nat.not_lt_zero _))
  · skip
    obtain rfl : a = n := by
      have q1 : a ≤ n := Nat.le_of_not_lt (fun z => Int32.lt_irrefl (a1 n z))
      rcases a2 with z | z
      · omega
      · have := (nI_leI (show n < 2 ^ 31 by omega) (show a < 2 ^ 31 by omega)).mp z
        omega
    refine v_iload_n F dX6_setPattern_51 rfl 4 rfl ?_
    refine v_iconst F (v := nI 1) dX6_setPattern_52 (by decide) ?_
    refine v_bipush F (v := nI 8) dX6_setPattern_53 (by decide) ?_
    refine v_callSi F (As := [_, _, _]) (rest := []) rfl (c_X6_isIn_y G (nI_nlt h1 (by omega)) (nI_nlt h8 (by decide))) wm_X6_44 rfl ⟨rfl, rfl, Nat.le_of_ble_eq_true rfl, Nat.le_of_ble_eq_true rfl, Nat.le_of_ble_eq_true rfl, Nat.le_of_ble_eq_true rfl, Nat.le_of_ble_eq_true rfl⟩ dX6_setPattern_55 ?_
    refine v_if_eq F (tgt := 73) dX6_setPattern_58 (by decide) (fun h => absurd h ((by decide))) (fun c58 => ?_)
    refine v_iload_n F dX6_setPattern_61 rfl 5 rfl ?_
    refine v_iconst F (v := 0) dX6_setPattern_62 (by decide) ?_
    refine v_iload F dX6_setPattern_63 1 rfl ?_
    refine v_iconst F (v := 1) dX6_setPattern_65 (by decide) ?_
    refine v_isub F dX6_setPattern_66 ?_
    refine v_callSi F (As := [_, _, _]) (rest := []) rfl (c_X6_isIn_y G (nI_pos (by omega)) (m1_y hd h10)) wm_X6_44 rfl ⟨rfl, rfl, Nat.le_of_ble_eq_true rfl, Nat.le_of_ble_eq_true rfl, Nat.le_of_ble_eq_true rfl, Nat.le_of_ble_eq_true rfl, Nat.le_of_ble_eq_true rfl⟩ dX6_setPattern_67 ?_
    refine v_if_ne F (tgt := 79) dX6_setPattern_70 (by decide) (fun c70 => ?_) (fun h => absurd h ((by decide)))
    refine v_aload_n F dX6_setPattern_79 rfl 2 rfl ?_
    refine v_get F (id_Q 0 (by decide)) heQ rfl uw_X6 4 (by decide) rfl rfl wf_X6_13 dX6_setPattern_80 ?_
    refine v_iload_n F dX6_setPattern_83 rfl 3 rfl ?_
    refine v_iald F (id_Q 2 (by decide)) heQ rfl (j) (Ix_nI (by omega)) dX6_setPattern_84 ?_
    refine v_topr (nI (ln j)) hlQ ?_
    refine v_istore F dX6_setPattern_85 (by decide) (lv' := [(5, .int _), (4, .int _), (0, .ref _), (1, .int _), (2, .int _), (3, .int _)]) rfl ?_
    refine v_aload_n F dX6_setPattern_87 rfl 2 rfl ?_
    refine v_get F (id_Q 0 (by decide)) heQ rfl uw_X6 4 (by decide) rfl rfl wf_X6_13 dX6_setPattern_88 ?_
    refine v_iload_n F dX6_setPattern_91 rfl 3 rfl ?_
    refine v_iload_n F dX6_setPattern_92 rfl 4 rfl ?_
    refine v_iastC F (id_Q 2 (by decide)) rfl rfl (j) (Ix_nI (by omega)) rfl dX6_setPattern_93 ?_
    refine v_iload_n F dX6_setPattern_94 rfl 5 rfl ?_
    refine v_istore F dX6_setPattern_95 (by decide) (lv' := [(6, .int _), (5, .int _), (4, .int _), (0, .ref _), (1, .int _), (2, .int _), (3, .int _)]) rfl ?_
    refine v_iload_n F dX6_setPattern_97 rfl 5 rfl ?_
    refine v_iconst F (v := 1) dX6_setPattern_98 (by decide) ?_
    refine v_isub F dX6_setPattern_99 ?_
    refine v_istore F dX6_setPattern_100 (by decide) (lv' := [(7, .int _), (6, .int _), (5, .int _), (4, .int _), (0, .ref _), (1, .int _), (2, .int _), (3, .int _)]) rfl ?_
    refine v_locs [0, 1, 2, 3, 4, 5, 6, 7] rfl ?_
    refine L2_X6_setPattern F (show j < 4 by omega) (fun k r => ?_) a h8 _ (nI d) rfl
    · skip
      refine v_iload F dX6_setPattern_150 2 rfl ?_
      exact v_iret F hr dX6_setPattern_152 rfl rfl rfl
set_option maxHeartbeats 4000000 in
set_option maxRecDepth 100000 in
theorem c_X6_setPattern_j {X : Cx} {l : Launch} (G : Gx X l) {M : Mem} {lf : Lf} {σ : Sg} {jc tc b : Nat} {ln : Nat → Nat} (C : Cp σ (M 2) (M 3) jc tc b ln) {x y z : Int32} (hx : x < 0 ∨ nI jc ≤ x) : CI X l yX6_setPattern (wsc yX6_setPattern cX6_setPattern 8 (some .int)) rm_X6_setPattern [.ref (X.2.1 2 0 0), .int x, .int y, .int z] (M) lf (0) (uC M 2 (u3 (u3 (M 2) 0 0 0 0) 0 0 0 1)) lf 0 0 := by
  refine CI_of (lv := [(0, .ref _), (1, .int _), (2, .int _), (3, .int _)]) G (by decide) (Nat.le_of_ble_eq_true rfl) rfl (fun p e s m args below meth c F hr => ?_)
  have F : Fx p l s m args meth c cX6_setPattern 8 RX6 X := F
  have h4 := C.1.1.1
  have h12 := C.1.1.2.1
  have hJ := C.1.2.1
  have hT := C.1.2.2.1
  have hJQ : (uC M 2 (u3 (M 2) 0 0 0 0)) 2 0 0 1 = nI jc := by rw [uC_at, u3_ne (by decide)]; exact hJ
  refine v_mem (uC_self _ 2) ?_
  refine v_aload_n F dX6_setPattern_0 rfl 0 rfl ?_
  refine v_iconst F (v := 0) dX6_setPattern_1 (by decide) ?_
  refine v_putC F tyX6 tyX6_ok nmX6 (id_Q 0 (by decide)) rfl rfl uw_X6 0 (by decide) rfl rfl (by decide +kernel) rfl (Nat.le_of_ble_eq_true rfl) wf_X6_37 dX6_setPattern_2 ?_
  refine v_aload_n F dX6_setPattern_5 rfl 0 rfl ?_
  refine v_iload_n F dX6_setPattern_6 rfl 1 rfl ?_
  refine v_callVi F (As := [_]) (rest := []) rfl (c_X6_isJuggler_n G (hJQ) (by omega) hx) Rv_Q wm_X6_51 rfl ⟨rfl, rfl, Nat.le_of_ble_eq_true rfl, Nat.le_of_ble_eq_true rfl, Nat.le_of_ble_eq_true rfl, Nat.le_of_ble_eq_true rfl, Nat.le_of_ble_eq_true rfl⟩ dX6_setPattern_7 ?_
  refine v_if_ne F (tgt := 19) dX6_setPattern_10 (by decide) (fun h => absurd (rfl) h) (fun c10 => ?_)
  refine v_aload_n F dX6_setPattern_13 rfl 0 rfl ?_
  refine v_iconst F (v := 1) dX6_setPattern_14 (by decide) ?_
  refine v_callVi F (As := [_]) (rest := []) rfl (c_X6_no G 1) Rv_Q wm_X6_55 rfl ⟨rfl, rfl, Nat.le_of_ble_eq_true rfl, Nat.le_of_ble_eq_true rfl, Nat.le_of_ble_eq_true rfl, Nat.le_of_ble_eq_true rfl, Nat.le_of_ble_eq_true rfl⟩ dX6_setPattern_15 ?_
  exact v_iret F hr dX6_setPattern_18 rfl rfl rfl
set_option maxHeartbeats 4000000 in
set_option maxRecDepth 100000 in
theorem c_X6_setPattern_n {X : Cx} {l : Launch} (G : Gx X l) {M : Mem} {lf : Lf} {σ : Sg} {jc tc b : Nat} {ln : Nat → Nat} (C : Cp σ (M 2) (M 3) jc tc b ln) {j : Nat} (hj : j < jc) {y z : Int32} (hy : y < 1 ∨ 8 < y) : CI X l yX6_setPattern (wsc yX6_setPattern cX6_setPattern 8 (some .int)) rm_X6_setPattern [.ref (X.2.1 2 0 0), .int (nI j), .int y, .int z] (M) lf (0) (uC M 2 (u3 (u3 (M 2) 0 0 0 0) 0 0 0 2)) lf 0 0 := by
  refine CI_of (lv := [(0, .ref _), (1, .int _), (2, .int _), (3, .int _)]) G (by decide) (Nat.le_of_ble_eq_true rfl) rfl (fun p e s m args below meth c F hr => ?_)
  have F : Fx p l s m args meth c cX6_setPattern 8 RX6 X := F
  have h4 := C.1.1.1
  have h12 := C.1.1.2.1
  have hJ := C.1.2.1
  have hT := C.1.2.2.1
  have hJQ : (uC M 2 (u3 (M 2) 0 0 0 0)) 2 0 0 1 = nI jc := by rw [uC_at, u3_ne (by decide)]; exact hJ
  refine v_mem (uC_self _ 2) ?_
  refine v_aload_n F dX6_setPattern_0 rfl 0 rfl ?_
  refine v_iconst F (v := 0) dX6_setPattern_1 (by decide) ?_
  refine v_putC F tyX6 tyX6_ok nmX6 (id_Q 0 (by decide)) rfl rfl uw_X6 0 (by decide) rfl rfl (by decide +kernel) rfl (Nat.le_of_ble_eq_true rfl) wf_X6_37 dX6_setPattern_2 ?_
  refine v_aload_n F dX6_setPattern_5 rfl 0 rfl ?_
  refine v_iload_n F dX6_setPattern_6 rfl 1 rfl ?_
  refine v_callVi F (As := [_]) (rest := []) rfl (c_X6_isJuggler_y G (hJQ) (by omega) hj) Rv_Q wm_X6_51 rfl ⟨rfl, rfl, Nat.le_of_ble_eq_true rfl, Nat.le_of_ble_eq_true rfl, Nat.le_of_ble_eq_true rfl, Nat.le_of_ble_eq_true rfl, Nat.le_of_ble_eq_true rfl⟩ dX6_setPattern_7 ?_
  refine v_if_ne F (tgt := 19) dX6_setPattern_10 (by decide) (fun c10 => ?_) (fun h => absurd h ((by decide)))
  refine v_iconst F (v := nI (10 ^ 0)) dX6_setPattern_19 (by decide) ?_
  refine v_istore F dX6_setPattern_20 (by decide) (lv' := [(4, .int _), (0, .ref _), (1, .int _), (2, .int _), (3, .int _)]) rfl ?_
  refine v_iconst F (v := nI 0) dX6_setPattern_22 (by decide) ?_
  refine v_istore F dX6_setPattern_23 (by decide) (lv' := [(5, .int _), (4, .int _), (0, .ref _), (1, .int _), (2, .int _), (3, .int _)]) rfl ?_
  refine L1_X6_setPattern F (fun a a8 a1 a2 => ?_) 8 0 rfl (fun _ z => absurd z (Nat.not_lt_zero _))
  · skip
    refine v_iload_n F dX6_setPattern_51 rfl 4 rfl ?_
    refine v_iconst F (v := 1) dX6_setPattern_52 (by decide) ?_
    refine v_bipush F (v := 8) dX6_setPattern_53 (by decide) ?_
    refine v_callSi F (As := [_, _, _]) (rest := []) rfl (c_X6_isIn_n G hy) wm_X6_44 rfl ⟨rfl, rfl, Nat.le_of_ble_eq_true rfl, Nat.le_of_ble_eq_true rfl, Nat.le_of_ble_eq_true rfl, Nat.le_of_ble_eq_true rfl, Nat.le_of_ble_eq_true rfl⟩ dX6_setPattern_55 ?_
    refine v_if_eq F (tgt := 73) dX6_setPattern_58 (by decide) (fun c58 => ?_) (fun h => absurd (rfl) h)
    refine v_aload_n F dX6_setPattern_73 rfl 2 rfl ?_
    refine v_iconst F (v := 2) dX6_setPattern_74 (by decide) ?_
    refine v_callVi F (As := [_]) (rest := []) rfl (c_X6_no G 2) Rv_Q wm_X6_55 rfl ⟨rfl, rfl, Nat.le_of_ble_eq_true rfl, Nat.le_of_ble_eq_true rfl, Nat.le_of_ble_eq_true rfl, Nat.le_of_ble_eq_true rfl, Nat.le_of_ble_eq_true rfl⟩ dX6_setPattern_75 ?_
    exact v_iret F hr dX6_setPattern_78 rfl rfl rfl
set_option maxHeartbeats 4000000 in
set_option maxRecDepth 100000 in
theorem c_X6_setPattern_d {X : Cx} {l : Launch} (G : Gx X l) {M : Mem} {lf : Lf} {σ : Sg} {jc tc b : Nat} {ln : Nat → Nat} (C : Cp σ (M 2) (M 3) jc tc b ln) {j n : Nat} (hj : j < jc) (h1 : 1 ≤ n) (h8 : n ≤ 8) {z : Int32} (hz : z < 0 ∨ nI (10 ^ n) ≤ z) : CI X l yX6_setPattern (wsc yX6_setPattern cX6_setPattern 8 (some .int)) rm_X6_setPattern [.ref (X.2.1 2 0 0), .int (nI j), .int (nI n), .int z] (M) lf (0) (uC M 2 (u3 (u3 (M 2) 0 0 0 0) 0 0 0 2)) lf 0 0 := by
  refine CI_of (lv := [(0, .ref _), (1, .int _), (2, .int _), (3, .int _)]) G (by decide) (Nat.le_of_ble_eq_true rfl) rfl (fun p e s m args below meth c F hr => ?_)
  have F : Fx p l s m args meth c cX6_setPattern 8 RX6 X := F
  have h4 := C.1.1.1
  have h12 := C.1.1.2.1
  have hJ := C.1.2.1
  have hT := C.1.2.2.1
  have hJQ : (uC M 2 (u3 (M 2) 0 0 0 0)) 2 0 0 1 = nI jc := by rw [uC_at, u3_ne (by decide)]; exact hJ
  have h10 := p10_lt h8
  refine v_mem (uC_self _ 2) ?_
  refine v_aload_n F dX6_setPattern_0 rfl 0 rfl ?_
  refine v_iconst F (v := 0) dX6_setPattern_1 (by decide) ?_
  refine v_putC F tyX6 tyX6_ok nmX6 (id_Q 0 (by decide)) rfl rfl uw_X6 0 (by decide) rfl rfl (by decide +kernel) rfl (Nat.le_of_ble_eq_true rfl) wf_X6_37 dX6_setPattern_2 ?_
  refine v_aload_n F dX6_setPattern_5 rfl 0 rfl ?_
  refine v_iload_n F dX6_setPattern_6 rfl 1 rfl ?_
  refine v_callVi F (As := [_]) (rest := []) rfl (c_X6_isJuggler_y G (hJQ) (by omega) hj) Rv_Q wm_X6_51 rfl ⟨rfl, rfl, Nat.le_of_ble_eq_true rfl, Nat.le_of_ble_eq_true rfl, Nat.le_of_ble_eq_true rfl, Nat.le_of_ble_eq_true rfl, Nat.le_of_ble_eq_true rfl⟩ dX6_setPattern_7 ?_
  refine v_if_ne F (tgt := 19) dX6_setPattern_10 (by decide) (fun c10 => ?_) (fun h => absurd h ((by decide)))
  refine v_iconst F (v := nI (10 ^ 0)) dX6_setPattern_19 (by decide) ?_
  refine v_istore F dX6_setPattern_20 (by decide) (lv' := [(4, .int _), (0, .ref _), (1, .int _), (2, .int _), (3, .int _)]) rfl ?_
  refine v_iconst F (v := nI 0) dX6_setPattern_22 (by decide) ?_
  refine v_istore F dX6_setPattern_23 (by decide) (lv' := [(5, .int _), (4, .int _), (0, .ref _), (1, .int _), (2, .int _), (3, .int _)]) rfl ?_
  refine L1_X6_setPattern F (fun a a8 a1 a2 => ?_) 8 0 rfl (fun _ z => absurd z (Nat.not_lt_zero _))
  · skip
    obtain rfl : a = n := by
      have q1 : a ≤ n := Nat.le_of_not_lt (fun z => Int32.lt_irrefl (a1 n z))
      rcases a2 with z | z
      · omega
      · have := (nI_leI (show n < 2 ^ 31 by omega) (show a < 2 ^ 31 by omega)).mp z
        omega
    refine v_iload_n F dX6_setPattern_51 rfl 4 rfl ?_
    refine v_iconst F (v := nI 1) dX6_setPattern_52 (by decide) ?_
    refine v_bipush F (v := nI 8) dX6_setPattern_53 (by decide) ?_
    refine v_callSi F (As := [_, _, _]) (rest := []) rfl (c_X6_isIn_y G (nI_nlt h1 (by omega)) (nI_nlt h8 (by decide))) wm_X6_44 rfl ⟨rfl, rfl, Nat.le_of_ble_eq_true rfl, Nat.le_of_ble_eq_true rfl, Nat.le_of_ble_eq_true rfl, Nat.le_of_ble_eq_true rfl, Nat.le_of_ble_eq_true rfl⟩ dX6_setPattern_55 ?_
    refine v_if_eq F (tgt := 73) dX6_setPattern_58 (by decide) (fun h => absurd h ((by decide))) (fun c58 => ?_)
    refine v_iload_n F dX6_setPattern_61 rfl 5 rfl ?_
    refine v_iconst F (v := 0) dX6_setPattern_62 (by decide) ?_
    refine v_iload F dX6_setPattern_63 1 rfl ?_
    refine v_iconst F (v := 1) dX6_setPattern_65 (by decide) ?_
    refine v_isub F dX6_setPattern_66 ?_
    refine v_callSi F (As := [_, _, _]) (rest := []) rfl (c_X6_isIn_n G (m1_n h10 hz)) wm_X6_44 rfl ⟨rfl, rfl, Nat.le_of_ble_eq_true rfl, Nat.le_of_ble_eq_true rfl, Nat.le_of_ble_eq_true rfl, Nat.le_of_ble_eq_true rfl, Nat.le_of_ble_eq_true rfl⟩ dX6_setPattern_67 ?_
    refine v_if_ne F (tgt := 79) dX6_setPattern_70 (by decide) (fun h => absurd (rfl) h) (fun c70 => ?_)
    refine v_aload_n F dX6_setPattern_73 rfl 2 rfl ?_
    refine v_iconst F (v := 2) dX6_setPattern_74 (by decide) ?_
    refine v_callVi F (As := [_]) (rest := []) rfl (c_X6_no G 2) Rv_Q wm_X6_55 rfl ⟨rfl, rfl, Nat.le_of_ble_eq_true rfl, Nat.le_of_ble_eq_true rfl, Nat.le_of_ble_eq_true rfl, Nat.le_of_ble_eq_true rfl, Nat.le_of_ble_eq_true rfl⟩ dX6_setPattern_75 ?_
    exact v_iret F hr dX6_setPattern_78 rfl rfl rfl
end SX
