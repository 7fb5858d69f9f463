/-! ===== the law: its cases ===== -/
set_option maxHeartbeats 4000000 in
set_option maxRecDepth 100000 in
theorem c_X6R_thing_k {X : Cx} {l : Launch} (G : Gx X l) {M : Mem} {lf : Lf} {σ : Sg} {jc tc b : Nat} {ln : Nat → Nat} (C : Cp σ (M 2) (M 3) jc tc b ln) {x y : Int32} (hx : x < 0 ∨ nI tc ≤ x) : CI X l yX6_thing (wsc yX6_thing cX6_thing 3 (some .int)) rm_X6_thing [.ref (X.2.1 2 0 0), .int x, .int y] (M) lf (0) (uC M 2 (u3 (u3 (M 2) 0 0 0 0) 0 0 0 1)) lf 1 7 := by
  refine CI_of (lv := [(0, .ref _), (1, .int _), (2, .int _)]) G (by decide) (Nat.le_of_ble_eq_true rfl) rfl (fun p e s m args below meth c F hr => ?_)
  have F : Fx p l s m args meth c cX6_thing 3 RX6 X := F
  have h4 := C.1.1.1
  have h12 := C.1.1.2.1
  have hJ := C.1.2.1
  have hT := C.1.2.2.1
  have hJQ : (uC M 2 (u3 (M 2) 0 0 0 0)) 2 0 0 1 = nI jc := by rw [uC_at, u3_ne (by decide)]; exact hJ
  have hTQ : (uC M 2 (u3 (M 2) 0 0 0 0)) 2 0 0 2 = nI tc := by rw [uC_at, u3_ne (by decide)]; exact hT
  refine v_mem (uC_self _ 2) ?_
  refine v_aload_n F dX6_thing_0 rfl 0 rfl ?_
  refine v_iconst F (v := 0) dX6_thing_1 (by decide) ?_
  refine v_putC F tyX6 tyX6_ok nmX6 (id_Q 0 (by decide)) rfl rfl uw_X6 0 (by decide) rfl rfl (by decide +kernel) rfl (Nat.le_of_ble_eq_true rfl) wf_X6_37 dX6_thing_2 ?_
  refine v_aload_n F dX6_thing_5 rfl 0 rfl ?_
  refine v_iload_n F dX6_thing_6 rfl 1 rfl ?_
  refine v_callVi F (As := [_]) (rest := []) rfl (c_X6_isThing_n G hTQ (by omega) hx) Rv_Q wm_X6_66 rfl ⟨rfl, rfl, Nat.le_of_ble_eq_true rfl, Nat.le_of_ble_eq_true rfl, Nat.le_of_ble_eq_true rfl, Nat.le_of_ble_eq_true rfl, Nat.le_of_ble_eq_true rfl⟩ dX6_thing_7 ?_
  refine v_if_eq F (tgt := 32) dX6_thing_10 (by decide) (fun c10 => ?_) (fun h => absurd (rfl) h)
  refine v_aload_n F dX6_thing_32 rfl 0 rfl ?_
  refine v_iconst F (v := 1) dX6_thing_33 (by decide) ?_
  refine v_callVi F (As := [_]) (rest := []) rfl (c_X6_no G 1) Rv_Q wm_X6_55 rfl ⟨rfl, rfl, Nat.le_of_ble_eq_true rfl, Nat.le_of_ble_eq_true rfl, Nat.le_of_ble_eq_true rfl, Nat.le_of_ble_eq_true rfl, Nat.le_of_ble_eq_true rfl⟩ dX6_thing_34 ?_
  refine v_widen (k := 1) (n := 7) (by decide) (by decide) ?_
  exact v_iret F hr dX6_thing_37 rfl rfl rfl
set_option maxHeartbeats 4000000 in
set_option maxRecDepth 100000 in
theorem c_X6R_thing_w {X : Cx} {l : Launch} (G : Gx X l) {M : Mem} {lf : Lf} {σ : Sg} {jc tc b : Nat} {ln : Nat → Nat} (C : Cp σ (M 2) (M 3) jc tc b ln) {k : Nat} (hk : k < tc) {y : Int32} (hx : y < 0 ∨ nI 7 ≤ y) : CI X l yX6_thing (wsc yX6_thing cX6_thing 3 (some .int)) rm_X6_thing [.ref (X.2.1 2 0 0), .int (nI k), .int y] (M) lf (0) (uC M 2 (u3 (u3 (M 2) 0 0 0 0) 0 0 0 1)) lf 1 7 := by
  refine CI_of (lv := [(0, .ref _), (1, .int _), (2, .int _)]) G (by decide) (Nat.le_of_ble_eq_true rfl) rfl (fun p e s m args below meth c F hr => ?_)
  have F : Fx p l s m args meth c cX6_thing 3 RX6 X := F
  have h4 := C.1.1.1
  have h12 := C.1.1.2.1
  have hJ := C.1.2.1
  have hT := C.1.2.2.1
  have hJQ : (uC M 2 (u3 (M 2) 0 0 0 0)) 2 0 0 1 = nI jc := by rw [uC_at, u3_ne (by decide)]; exact hJ
  have hTQ : (uC M 2 (u3 (M 2) 0 0 0 0)) 2 0 0 2 = nI tc := by rw [uC_at, u3_ne (by decide)]; exact hT
  refine v_mem (uC_self _ 2) ?_
  refine v_aload_n F dX6_thing_0 rfl 0 rfl ?_
  refine v_iconst F (v := 0) dX6_thing_1 (by decide) ?_
  refine v_putC F tyX6 tyX6_ok nmX6 (id_Q 0 (by decide)) rfl rfl uw_X6 0 (by decide) rfl rfl (by decide +kernel) rfl (Nat.le_of_ble_eq_true rfl) wf_X6_37 dX6_thing_2 ?_
  refine v_aload_n F dX6_thing_5 rfl 0 rfl ?_
  refine v_iload_n F dX6_thing_6 rfl 1 rfl ?_
  refine v_callVi F (As := [_]) (rest := []) rfl (c_X6_isThing_y G hTQ (by omega) hk) Rv_Q wm_X6_66 rfl ⟨rfl, rfl, Nat.le_of_ble_eq_true rfl, Nat.le_of_ble_eq_true rfl, Nat.le_of_ble_eq_true rfl, Nat.le_of_ble_eq_true rfl, Nat.le_of_ble_eq_true rfl⟩ dX6_thing_7 ?_
  refine v_if_eq F (tgt := 32) dX6_thing_10 (by decide) (fun h => absurd h ((by decide))) (fun c10 => ?_)
  refine v_iload_n F dX6_thing_13 rfl 2 rfl ?_
  refine v_iconst F (v := 0) dX6_thing_14 (by decide) ?_
  refine v_bipush F (v := (nI 7 - 1)) dX6_thing_15 (by decide) ?_
  refine v_callSi F (As := [_, _, _]) (rest := []) rfl (c_X6_isIn_n G (m1_n (by decide) hx)) wm_X6_44 rfl ⟨rfl, rfl, Nat.le_of_ble_eq_true rfl, Nat.le_of_ble_eq_true rfl, Nat.le_of_ble_eq_true rfl, Nat.le_of_ble_eq_true rfl, Nat.le_of_ble_eq_true rfl⟩ dX6_thing_17 ?_
  refine v_if_eq F (tgt := 32) dX6_thing_20 (by decide) (fun c20 => ?_) (fun h => absurd (rfl) h)
  refine v_aload_n F dX6_thing_32 rfl 0 rfl ?_
  refine v_iconst F (v := 1) dX6_thing_33 (by decide) ?_
  refine v_callVi F (As := [_]) (rest := []) rfl (c_X6_no G 1) Rv_Q wm_X6_55 rfl ⟨rfl, rfl, Nat.le_of_ble_eq_true rfl, Nat.le_of_ble_eq_true rfl, Nat.le_of_ble_eq_true rfl, Nat.le_of_ble_eq_true rfl, Nat.le_of_ble_eq_true rfl⟩ dX6_thing_34 ?_
  refine v_widen (k := 1) (n := 7) (by decide) (by decide) ?_
  exact v_iret F hr dX6_thing_37 rfl rfl rfl
set_option maxHeartbeats 4000000 in
set_option maxRecDepth 100000 in
theorem c_X6R_juggler_j {X : Cx} {l : Launch} (G : Gx X l) {M : Mem} {lf : Lf} {σ : Sg} {jc tc b : Nat} {ln : Nat → Nat} (C : Cp σ (M 2) (M 3) jc tc b ln) {x y : Int32} (hx : x < 0 ∨ nI jc ≤ x) : CI X l yX6_juggler (wsc yX6_juggler cX6_juggler 3 (some .int)) rm_X6_juggler [.ref (X.2.1 2 0 0), .int x, .int y] (M) lf (0) (uC M 2 (u3 (u3 (M 2) 0 0 0 0) 0 0 0 1)) lf 1 7 := by
  refine CI_of (lv := [(0, .ref _), (1, .int _), (2, .int _)]) G (by decide) (Nat.le_of_ble_eq_true rfl) rfl (fun p e s m args below meth c F hr => ?_)
  have F : Fx p l s m args meth c cX6_juggler 3 RX6 X := F
  have h4 := C.1.1.1
  have h12 := C.1.1.2.1
  have hJ := C.1.2.1
  have hT := C.1.2.2.1
  have hJQ : (uC M 2 (u3 (M 2) 0 0 0 0)) 2 0 0 1 = nI jc := by rw [uC_at, u3_ne (by decide)]; exact hJ
  have hTQ : (uC M 2 (u3 (M 2) 0 0 0 0)) 2 0 0 2 = nI tc := by rw [uC_at, u3_ne (by decide)]; exact hT
  refine v_mem (uC_self _ 2) ?_
  refine v_aload_n F dX6_juggler_0 rfl 0 rfl ?_
  refine v_iconst F (v := 0) dX6_juggler_1 (by decide) ?_
  refine v_putC F tyX6 tyX6_ok nmX6 (id_Q 0 (by decide)) rfl rfl uw_X6 0 (by decide) rfl rfl (by decide +kernel) rfl (Nat.le_of_ble_eq_true rfl) wf_X6_37 dX6_juggler_2 ?_
  refine v_aload_n F dX6_juggler_5 rfl 0 rfl ?_
  refine v_iload_n F dX6_juggler_6 rfl 1 rfl ?_
  refine v_callVi F (As := [_]) (rest := []) rfl (c_X6_isJuggler_n G hJQ (by omega) hx) Rv_Q wm_X6_51 rfl ⟨rfl, rfl, Nat.le_of_ble_eq_true rfl, Nat.le_of_ble_eq_true rfl, Nat.le_of_ble_eq_true rfl, Nat.le_of_ble_eq_true rfl, Nat.le_of_ble_eq_true rfl⟩ dX6_juggler_7 ?_
  refine v_if_eq F (tgt := 32) dX6_juggler_10 (by decide) (fun c10 => ?_) (fun h => absurd (rfl) h)
  refine v_aload_n F dX6_juggler_32 rfl 0 rfl ?_
  refine v_iconst F (v := 1) dX6_juggler_33 (by decide) ?_
  refine v_callVi F (As := [_]) (rest := []) rfl (c_X6_no G 1) Rv_Q wm_X6_55 rfl ⟨rfl, rfl, Nat.le_of_ble_eq_true rfl, Nat.le_of_ble_eq_true rfl, Nat.le_of_ble_eq_true rfl, Nat.le_of_ble_eq_true rfl, Nat.le_of_ble_eq_true rfl⟩ dX6_juggler_34 ?_
  refine v_widen (k := 1) (n := 7) (by decide) (by decide) ?_
  exact v_iret F hr dX6_juggler_37 rfl rfl rfl
set_option maxHeartbeats 4000000 in
set_option maxRecDepth 100000 in
theorem c_X6R_juggler_w {X : Cx} {l : Launch} (G : Gx X l) {M : Mem} {lf : Lf} {σ : Sg} {jc tc b : Nat} {ln : Nat → Nat} (C : Cp σ (M 2) (M 3) jc tc b ln) {j : Nat} (hj : j < jc) {y : Int32} (hx : y < 0 ∨ nI 7 ≤ y) : CI X l yX6_juggler (wsc yX6_juggler cX6_juggler 3 (some .int)) rm_X6_juggler [.ref (X.2.1 2 0 0), .int (nI j), .int y] (M) lf (0) (uC M 2 (u3 (u3 (M 2) 0 0 0 0) 0 0 0 1)) lf 1 7 := by
  refine CI_of (lv := [(0, .ref _), (1, .int _), (2, .int _)]) G (by decide) (Nat.le_of_ble_eq_true rfl) rfl (fun p e s m args below meth c F hr => ?_)
  have F : Fx p l s m args meth c cX6_juggler 3 RX6 X := F
  have h4 := C.1.1.1
  have h12 := C.1.1.2.1
  have hJ := C.1.2.1
  have hT := C.1.2.2.1
  have hJQ : (uC M 2 (u3 (M 2) 0 0 0 0)) 2 0 0 1 = nI jc := by rw [uC_at, u3_ne (by decide)]; exact hJ
  have hTQ : (uC M 2 (u3 (M 2) 0 0 0 0)) 2 0 0 2 = nI tc := by rw [uC_at, u3_ne (by decide)]; exact hT
  refine v_mem (uC_self _ 2) ?_
  refine v_aload_n F dX6_juggler_0 rfl 0 rfl ?_
  refine v_iconst F (v := 0) dX6_juggler_1 (by decide) ?_
  refine v_putC F tyX6 tyX6_ok nmX6 (id_Q 0 (by decide)) rfl rfl uw_X6 0 (by decide) rfl rfl (by decide +kernel) rfl (Nat.le_of_ble_eq_true rfl) wf_X6_37 dX6_juggler_2 ?_
  refine v_aload_n F dX6_juggler_5 rfl 0 rfl ?_
  refine v_iload_n F dX6_juggler_6 rfl 1 rfl ?_
  refine v_callVi F (As := [_]) (rest := []) rfl (c_X6_isJuggler_y G hJQ (by omega) hj) Rv_Q wm_X6_51 rfl ⟨rfl, rfl, Nat.le_of_ble_eq_true rfl, Nat.le_of_ble_eq_true rfl, Nat.le_of_ble_eq_true rfl, Nat.le_of_ble_eq_true rfl, Nat.le_of_ble_eq_true rfl⟩ dX6_juggler_7 ?_
  refine v_if_eq F (tgt := 32) dX6_juggler_10 (by decide) (fun h => absurd h ((by decide))) (fun c10 => ?_)
  refine v_iload_n F dX6_juggler_13 rfl 2 rfl ?_
  refine v_iconst F (v := 0) dX6_juggler_14 (by decide) ?_
  refine v_bipush F (v := (nI 7 - 1)) dX6_juggler_15 (by decide) ?_
  refine v_callSi F (As := [_, _, _]) (rest := []) rfl (c_X6_isIn_n G (m1_n (by decide) hx)) wm_X6_44 rfl ⟨rfl, rfl, Nat.le_of_ble_eq_true rfl, Nat.le_of_ble_eq_true rfl, Nat.le_of_ble_eq_true rfl, Nat.le_of_ble_eq_true rfl, Nat.le_of_ble_eq_true rfl⟩ dX6_juggler_17 ?_
  refine v_if_eq F (tgt := 32) dX6_juggler_20 (by decide) (fun c20 => ?_) (fun h => absurd (rfl) h)
  refine v_aload_n F dX6_juggler_32 rfl 0 rfl ?_
  refine v_iconst F (v := 1) dX6_juggler_33 (by decide) ?_
  refine v_callVi F (As := [_]) (rest := []) rfl (c_X6_no G 1) Rv_Q wm_X6_55 rfl ⟨rfl, rfl, Nat.le_of_ble_eq_true rfl, Nat.le_of_ble_eq_true rfl, Nat.le_of_ble_eq_true rfl, Nat.le_of_ble_eq_true rfl, Nat.le_of_ble_eq_true rfl⟩ dX6_juggler_34 ?_
  refine v_widen (k := 1) (n := 7) (by decide) (by decide) ?_
  exact v_iret F hr dX6_juggler_37 rfl rfl rfl
set_option maxHeartbeats 4000000 in
set_option maxRecDepth 100000 in
theorem c_X6R_count_w {X : Cx} {l : Launch} (G : Gx X l) {M : Mem} {lf : Lf} {x : Int32} (hx : x < 0 ∨ nI 9 ≤ x) : CI X l yX6_count (wsc yX6_count cX6_count 2 (some .int)) rm_X6_count [.ref (X.2.1 2 0 0), .int x] (M) lf (0) (uC M 2 (u3 (u3 (M 2) 0 0 0 0) 0 0 0 1)) lf 1 9 := by
  refine CI_of (lv := [(0, .ref _), (1, .int _)]) G (by decide) (Nat.le_of_ble_eq_true rfl) rfl (fun p e s m args below meth c F hr => ?_)
  have F : Fx p l s m args meth c cX6_count 2 RX6 X := F
  refine v_mem (uC_self _ 2) ?_
  refine v_aload_n F dX6_count_0 rfl 0 rfl ?_
  refine v_iconst F (v := 0) dX6_count_1 (by decide) ?_
  refine v_putC F tyX6 tyX6_ok nmX6 (id_Q 0 (by decide)) rfl rfl uw_X6 0 (by decide) rfl rfl (by decide +kernel) rfl (Nat.le_of_ble_eq_true rfl) wf_X6_37 dX6_count_2 ?_
  refine v_iload_n F dX6_count_5 rfl 1 rfl ?_
  refine v_iconst F (v := 0) dX6_count_6 (by decide) ?_
  refine v_bipush F (v := (nI 9 - 1)) dX6_count_7 (by decide) ?_
  refine v_callSi F (As := [_, _, _]) (rest := []) rfl (c_X6_isIn_n G (m1_n (by decide) hx)) wm_X6_44 rfl ⟨rfl, rfl, Nat.le_of_ble_eq_true rfl, Nat.le_of_ble_eq_true rfl, Nat.le_of_ble_eq_true rfl, Nat.le_of_ble_eq_true rfl, Nat.le_of_ble_eq_true rfl⟩ dX6_count_9 ?_
  refine v_if_eq F (tgt := 23) dX6_count_12 (by decide) (fun c12 => ?_) (fun h => absurd (rfl) h)
  refine v_aload_n F dX6_count_23 rfl 0 rfl ?_
  refine v_iconst F (v := 1) dX6_count_24 (by decide) ?_
  refine v_callVi F (As := [_]) (rest := []) rfl (c_X6_no G 1) Rv_Q wm_X6_55 rfl ⟨rfl, rfl, Nat.le_of_ble_eq_true rfl, Nat.le_of_ble_eq_true rfl, Nat.le_of_ble_eq_true rfl, Nat.le_of_ble_eq_true rfl, Nat.le_of_ble_eq_true rfl⟩ dX6_count_25 ?_
  refine v_widen (k := 1) (n := 9) (by decide) (by decide) ?_
  exact v_iret F hr dX6_count_28 rfl rfl rfl
section SHW
variable {p : Program} {l : Launch} {e : Env} {R : Room} {s : State} {m : MethodId} {args : Array Value} {below : List Frame} {meth : Method} {c : Code} {Q : State → Prop} {X : Cx} {nL : Nat} {ex : va_W} {M M' : Mem} {lf lf' : Lf} {cells slots pc : Nat} {lv : List (Nat × Value)} {st : List Value} {cc : ByteArray} {own : String}
theorem v_callSHi (F : Fx p l s m args meth c cc nL own X) {r : Int32} {y : MethodName} {bytes : ByteArray} {maxL n index mc ms : Nat} {ret : Option FieldType} {hh : List (Nat × Nat × Nat × Nat)} {rm : Room} {As rest : List Value} (hst : st = As.reverse ++ rest) (hM : CI X l y (wsh y bytes maxL ret hh) rm As M lf r M' lf' mc ms) (hcw : Cond.codeWith y bytes maxL ret hh ∈ wAll) (hlk : Cond.methodLink own index y ∈ wAll) (hsm : Cond.static y ∈ wAll) (hini : Cond.initialized y.cls ∈ wAll) (hyd : y.cls ≠ "java/lang/invoke/MethodHandle" ∧ y.cls ≠ "java/lang/invoke/VarHandle" ∧ (parseMethodDescriptor y.desc).map (fun d => d.parameters.length) = some n) (hn : As.length = n) (hr : Rr R rm maxL cells slots mc ms rest) (hdg : decode cc pc = .ok (.invokestatic index, 3)) (K : V p l e R s m args below meth c Q X nL ex M' lf' (cells + mc) (slots + ms) (pc + 3) lv (.int r :: rest)) : V p l e R s m args below meth c Q X nL ex M lf cells slots pc lv st := by
  intro H locs ls hP hE hS hl
  subst hst
  refine va_calli (vx_runSW (As := As) (rest := rest) (hh := hh) F.1 (hM H.size) ⟨⟨hr.1, hr.2.1, hr.2.2.1, hr.2.2.2.1, pay_in F.1.2.2.2.2 (good_c hcw), List.mem_cons_self⟩, F.1.2.2.2.2 _ hcw, F.1.2.2.2.2 _ hini, ⟨hyd.1, hyd.2.1⟩, fun sig h => ?_, F.1.2.2.2.2 _ hlk, F.1.2.2.2.2 _ hsm⟩ ⟨PreW_blind, fun U hU hW => v_pre F hP hS U hU hW⟩ rfl hn hl.1 rfl (lv_room hr.2.2.2.2.2.2) hdg ⟨hr.2.2.2.2.1, hr.2.2.2.2.2.1⟩) hS (fun q _ h => xA_mono hS.1 q h) (xA_mono hS.1) (fun x u t H1 locs1 ht hvm hx hB hz hk hS1 => ?_)
  · have h2 := hyd.2.2
    rw [h] at h2
    exact (Option.some.inj h2).symm
  · subst hx
    exact K H1 locs1 ls (v_post hP hE ht hB hk) hE hS1 hl
end SHW
theorem rm1 {c K n a : Nat} (h : c + K ≤ n) (h1 : a ≤ K) : c + a ≤ n := Nat.le_trans (Nat.add_le_add_left h1 c) h
theorem rm2 {c K n a b : Nat} (h : c + K ≤ n) (h1 : a + b ≤ K) : c + a + b ≤ n := by rw [Nat.add_assoc]; exact rm1 h h1
theorem rm3 {c K n a b d : Nat} (h : c + K ≤ n) (h1 : a + b + d ≤ K) : c + a + b + d ≤ n := by rw [Nat.add_assoc c a b, Nat.add_assoc c]; exact rm1 h h1
theorem lg_self (v : Int64) : lg_cmp v v = 0 := by
  unfold lg_cmp
  simp
theorem rng {x : Int32} {a b : Nat} (ha : a < 2 ^ 31) (hb : b < 2 ^ 31) (h : ¬ (x < nI a ∨ nI b < x)) : ∃ n, a ≤ n ∧ n ≤ b ∧ x = nI n := by
  have h1 : nI a ≤ x := le_of_nlt (fun z => h (Or.inl z))
  have h2 : x ≤ nI b := le_of_nlt (fun z => h (Or.inr z))
  obtain ⟨n, hn, rfl⟩ := nI_of (x := x) (fun z => absurd (Int32.lt_of_lt_of_le z (nI_pos' ha)) (Int32.not_lt.mpr h1))
  exact ⟨n, (nI_leI ha hn).mp h1, (nI_leI hn hb).mp h2, rfl⟩
def LInv (M : Mem) (k : Nat) : Prop := ∃ (jc tc bt : Nat) (ln : Nat → Nat), Inv (M 0) (M 2) (M 3) jc tc bt ln ∧ bt ≤ 200 * k
section LAW
variable {p : Program} {l : Launch} {e : Env} {s : State} {m : MethodId} {below : List Frame} {meth : Method} {c : Code} {Q : State → Prop} {X : Cx} {M : Mem} {lf : Lf} {cells slots : Nat} {b L : Nat} {xs : Nat → Int32}
set_option maxHeartbeats 4000000 in
set_option maxRecDepth 100000 in
theorem w_come (F : Fx p l s m #[Value.ref b] meth c cL_law 9 RL X) (hX : va_X b L xs s s.heap) (hbl : b < s.heap.size) (hbase : X.2.2.2 = s.heap.size) {i kk jc tc bt : Nat} {ln : Nat → Nat} (hi : i + 3 < L) (hL : L ≤ 2048) (hc : cells + 122 ≤ 601024) (hs : slots + 871 ≤ 7293034) (I : Inv (M 0) (M 2) (M 3) jc tc bt ln) (hbk : bt ≤ 200 * kk) (hkk : kk ≤ 512) {n : Nat} (hj : jc < 4) (h1 : 1 ≤ n) (h9 : n ≤ 9) (e1 : xs (i + 1) = nI n)  (K : ∀ (M' : Mem) (lf' : Lf), LInv M' (kk + 1) → V p l e room_1 s m #[Value.ref b] below meth c Q X 9 [] (M') (lf') (cells + 122) (slots + 871) 1183 [(4, .int (nI i)), (3, .ref (X.2.1 6 0 0)), (2, .ref (X.2.1 2 0 0)), (1, .ref (X.2.1 5 0 0)), (0, .ref b)] []) : V p l e room_1 s m #[Value.ref b] below meth c Q X 9 [] (M) (lf) (cells) (slots) 124 [(4, .int (nI i)), (3, .ref (X.2.1 6 0 0)), (2, .ref (X.2.1 2 0 0)), (1, .ref (X.2.1 5 0 0)), (0, .ref b)] [] := by
  have G : Gx X l := ⟨F.2.2.1, F.2.2.2.2⟩
  refine v_aload_n F dL_law_124 rfl 3 rfl ?_
  refine v_aload_n F dL_law_125 rfl 4 rfl ?_
  refine v_iload F dL_law_126 0 rfl ?_
  refine v_iconst F (v := nI 1) dL_law_128 (by decide) ?_
  refine v_iadd F dL_law_129 ?_
  refine v_topr (nI (i + 1)) (nI_add i 1) ?_
  refine v_sld F hX hbl hbase (i + 1) (Ix_nI (by omega) (by omega)) dL_law_130 ?_
  refine v_topr (nI n) e1 ?_
  refine v_aload_n F dL_law_131 rfl 1 rfl ?_
  refine v_callSHi F (n := 3) (As := [_, _, _]) (rest := []) rfl (c_L_come G hj I.1.1.1.2.2.1 h1 h9) wc_L_come wml_L_68 wst_L_come wini_L (by decide +kernel) rfl ⟨rfl, rfl, Nat.le_of_ble_eq_true rfl, Nat.le_of_ble_eq_true rfl, rm1 hc (by exact Nat.le_of_ble_eq_true rfl), rm1 hs (by exact Nat.le_of_ble_eq_true rfl), Nat.le_of_ble_eq_true rfl⟩ dL_law_132 ?_
  refine v_istore F dL_law_135 (by decide) (lv' := [(5, .int _), (4, .int _), (3, .ref _), (2, .ref _), (1, .ref _), (0, .ref _)]) rfl ?_
  refine v_aload_n F dL_law_137 rfl 3 rfl ?_
  refine v_aload_n F dL_law_138 rfl 5 rfl ?_
  refine v_iload F dL_law_139 1 rfl ?_
  refine v_iconst F (v := nI 1) dL_law_141 (by decide) ?_
  refine v_iadd F dL_law_142 ?_
  refine v_topr (nI (i + 1)) (nI_add i 1) ?_
  refine v_sld F hX hbl hbase (i + 1) (Ix_nI (by omega) (by omega)) dL_law_143 ?_
  refine v_topr (nI n) e1 ?_
  refine v_callVi F (As := [_]) (rest := []) rfl (c_X6_come (M := uC M 0 _) G hj I.1.1.2.1 h1 h9) Rv_Q wm_L_73 rfl ⟨rfl, rfl, Nat.le_of_ble_eq_true rfl, Nat.le_of_ble_eq_true rfl, rm2 hc (by exact Nat.le_of_ble_eq_true rfl), rm2 hs (by exact Nat.le_of_ble_eq_true rfl), Nat.le_of_ble_eq_true rfl⟩ dL_law_144 ?_
  refine v_istore F dL_law_147 (by decide) (lv' := [(6, .int _), (5, .int _), (4, .int _), (3, .ref _), (2, .ref _), (1, .ref _), (0, .ref _)]) rfl ?_
  refine v_aload_n F dL_law_149 rfl 4 rfl ?_
  refine v_callVi F (As := []) (rest := []) rfl (c_X6_thrown G) Rv_Q wm_L_74 rfl ⟨rfl, rfl, Nat.le_of_ble_eq_true rfl, Nat.le_of_ble_eq_true rfl, rm3 hc (by exact Nat.le_of_ble_eq_true rfl), rm3 hs (by exact Nat.le_of_ble_eq_true rfl), Nat.le_of_ble_eq_true rfl⟩ dL_law_150 ?_
  refine v_topr (0) (show gCome (u3 (M 2) 0 0 0 0) jc (nI n) 0 0 0 = 0 by rw [gCome_e]; simp [u3_eq]) ?_
  refine v_iload F dL_law_153 1 rfl ?_
  refine v_icmp_eq F (tgt := 160) dL_law_155 (by decide) (fun c155 => ?_) (fun h => absurd (rfl) h)
  refine v_iload F dL_law_160 1 rfl ?_
  refine v_if_ne F (tgt := 177) dL_law_162 (by decide) (fun h => absurd (rfl) h) (fun c162 => ?_)
  refine v_aload_n F dL_law_165 rfl 3 rfl ?_
  refine v_iconst F (v := 0) dL_law_166 (by decide) ?_
  refine v_lald F ⟨by decide, by decide, by decide⟩ dL_law_167 ?_
  refine v_toprl ((nI jc).toInt64) pk_uLs ?_
  refine v_iload F dL_law_168 0 rfl ?_
  refine v_i2l F dL_law_170 ?_
  refine v_lcmp F dL_law_171 ?_
  refine v_if_eq F (tgt := 177) dL_law_172 (by decide) (fun c172 => ?_) (fun h => absurd ((lg_self _)) h)
  refine v_goto F (tgt := 1183) dL_law_177 (by decide) ?_
  refine v_locs [2, 3, 4, 5, 6] rfl ?_
  refine v_widen (k := cells + 122) (n := slots + 871) (by omega) (by omega) ?_
  exact K _ _ ⟨_, _, _, _, Inv_come (Inv_q I 0) hj (nI n), by omega⟩
set_option maxHeartbeats 4000000 in
set_option maxRecDepth 100000 in
theorem w_come_a (F : Fx p l s m #[Value.ref b] meth c cL_law 9 RL X) (hX : va_X b L xs s s.heap) (hbl : b < s.heap.size) (hbase : X.2.2.2 = s.heap.size) {i kk jc tc bt : Nat} {ln : Nat → Nat} (hi : i + 3 < L) (hL : L ≤ 2048) (hc : cells + 122 ≤ 601024) (hs : slots + 871 ≤ 7293034) (I : Inv (M 0) (M 2) (M 3) jc tc bt ln) (hbk : bt ≤ 200 * kk) (hkk : kk ≤ 512) (hx : xs (i + 1) < 1 ∨ 9 < xs (i + 1))  (K : ∀ (M' : Mem) (lf' : Lf), LInv M' (kk + 1) → V p l e room_1 s m #[Value.ref b] below meth c Q X 9 [] (M') (lf') (cells + 122) (slots + 871) 1183 [(4, .int (nI i)), (3, .ref (X.2.1 6 0 0)), (2, .ref (X.2.1 2 0 0)), (1, .ref (X.2.1 5 0 0)), (0, .ref b)] []) : V p l e room_1 s m #[Value.ref b] below meth c Q X 9 [] (M) (lf) (cells) (slots) 124 [(4, .int (nI i)), (3, .ref (X.2.1 6 0 0)), (2, .ref (X.2.1 2 0 0)), (1, .ref (X.2.1 5 0 0)), (0, .ref b)] [] := by
  have G : Gx X l := ⟨F.2.2.1, F.2.2.2.2⟩
  refine v_aload_n F dL_law_124 rfl 3 rfl ?_
  refine v_aload_n F dL_law_125 rfl 4 rfl ?_
  refine v_iload F dL_law_126 0 rfl ?_
  refine v_iconst F (v := nI 1) dL_law_128 (by decide) ?_
  refine v_iadd F dL_law_129 ?_
  refine v_topr (nI (i + 1)) (nI_add i 1) ?_
  refine v_sld F hX hbl hbase (i + 1) (Ix_nI (by omega) (by omega)) dL_law_130 ?_
  refine v_aload_n F dL_law_131 rfl 1 rfl ?_
  refine v_callSHi F (n := 3) (As := [_, _, _]) (rest := []) rfl (x_L_come_a G hx) wc_L_come wml_L_68 wst_L_come wini_L (by decide +kernel) rfl ⟨rfl, rfl, Nat.le_of_ble_eq_true rfl, Nat.le_of_ble_eq_true rfl, rm1 hc (by exact Nat.le_of_ble_eq_true rfl), rm1 hs (by exact Nat.le_of_ble_eq_true rfl), Nat.le_of_ble_eq_true rfl⟩ dL_law_132 ?_
  refine v_istore F dL_law_135 (by decide) (lv' := [(5, .int _), (4, .int _), (3, .ref _), (2, .ref _), (1, .ref _), (0, .ref _)]) rfl ?_
  refine v_aload_n F dL_law_137 rfl 3 rfl ?_
  refine v_aload_n F dL_law_138 rfl 5 rfl ?_
  refine v_iload F dL_law_139 1 rfl ?_
  refine v_iconst F (v := nI 1) dL_law_141 (by decide) ?_
  refine v_iadd F dL_law_142 ?_
  refine v_topr (nI (i + 1)) (nI_add i 1) ?_
  refine v_sld F hX hbl hbase (i + 1) (Ix_nI (by omega) (by omega)) dL_law_143 ?_
  refine v_callVi F (As := [_]) (rest := []) rfl (c_X6_come_a (M := M) G hx) Rv_Q wm_L_73 rfl ⟨rfl, rfl, Nat.le_of_ble_eq_true rfl, Nat.le_of_ble_eq_true rfl, rm2 hc (by exact Nat.le_of_ble_eq_true rfl), rm2 hs (by exact Nat.le_of_ble_eq_true rfl), Nat.le_of_ble_eq_true rfl⟩ dL_law_144 ?_
  refine v_istore F dL_law_147 (by decide) (lv' := [(6, .int _), (5, .int _), (4, .int _), (3, .ref _), (2, .ref _), (1, .ref _), (0, .ref _)]) rfl ?_
  refine v_aload_n F dL_law_149 rfl 4 rfl ?_
  refine v_callVi F (As := []) (rest := []) rfl (c_X6_thrown G) Rv_Q wm_L_74 rfl ⟨rfl, rfl, Nat.le_of_ble_eq_true rfl, Nat.le_of_ble_eq_true rfl, rm3 hc (by exact Nat.le_of_ble_eq_true rfl), rm3 hs (by exact Nat.le_of_ble_eq_true rfl), Nat.le_of_ble_eq_true rfl⟩ dL_law_150 ?_
  refine v_topr (1) (show u3 (u3 (M 2) 0 0 0 0) 0 0 0 1 0 0 0 = 1 from u3_at _ _ _ _ _) ?_
  refine v_iload F dL_law_153 1 rfl ?_
  refine v_icmp_eq F (tgt := 160) dL_law_155 (by decide) (fun c155 => ?_) (fun h => absurd (rfl) h)
  refine v_iload F dL_law_160 1 rfl ?_
  refine v_if_ne F (tgt := 177) dL_law_162 (by decide) (fun c162 => ?_) (fun h => absurd h ((by decide)))
  refine v_goto F (tgt := 1183) dL_law_177 (by decide) ?_
  refine v_locs [2, 3, 4, 5, 6] rfl ?_
  refine v_widen (k := cells + 122) (n := slots + 871) (by omega) (by omega) ?_
  exact K _ _ ⟨_, _, _, _, Inv_q (Inv_q I 0) 1, by omega⟩
set_option maxHeartbeats 4000000 in
set_option maxRecDepth 100000 in
theorem w_come_s (F : Fx p l s m #[Value.ref b] meth c cL_law 9 RL X) (hX : va_X b L xs s s.heap) (hbl : b < s.heap.size) (hbase : X.2.2.2 = s.heap.size) {i kk jc tc bt : Nat} {ln : Nat → Nat} (hi : i + 3 < L) (hL : L ≤ 2048) (hc : cells + 122 ≤ 601024) (hs : slots + 871 ≤ 7293034) (I : Inv (M 0) (M 2) (M 3) jc tc bt ln) (hbk : bt ≤ 200 * kk) (hkk : kk ≤ 512) {n : Nat} (hj : jc = 4) (h1 : 1 ≤ n) (h9 : n ≤ 9) (e1 : xs (i + 1) = nI n)  (K : ∀ (M' : Mem) (lf' : Lf), LInv M' (kk + 1) → V p l e room_1 s m #[Value.ref b] below meth c Q X 9 [] (M') (lf') (cells + 122) (slots + 871) 1183 [(4, .int (nI i)), (3, .ref (X.2.1 6 0 0)), (2, .ref (X.2.1 2 0 0)), (1, .ref (X.2.1 5 0 0)), (0, .ref b)] []) : V p l e room_1 s m #[Value.ref b] below meth c Q X 9 [] (M) (lf) (cells) (slots) 124 [(4, .int (nI i)), (3, .ref (X.2.1 6 0 0)), (2, .ref (X.2.1 2 0 0)), (1, .ref (X.2.1 5 0 0)), (0, .ref b)] [] := by
  have G : Gx X l := ⟨F.2.2.1, F.2.2.2.2⟩
  refine v_aload_n F dL_law_124 rfl 3 rfl ?_
  refine v_aload_n F dL_law_125 rfl 4 rfl ?_
  refine v_iload F dL_law_126 0 rfl ?_
  refine v_iconst F (v := nI 1) dL_law_128 (by decide) ?_
  refine v_iadd F dL_law_129 ?_
  refine v_topr (nI (i + 1)) (nI_add i 1) ?_
  refine v_sld F hX hbl hbase (i + 1) (Ix_nI (by omega) (by omega)) dL_law_130 ?_
  refine v_topr (nI n) e1 ?_
  refine v_aload_n F dL_law_131 rfl 1 rfl ?_
  refine v_callSHi F (n := 3) (As := [_, _, _]) (rest := []) rfl (x_L_come_s G (by rw [← hj]; exact I.1.1.1.2.2.1) h1 h9) wc_L_come wml_L_68 wst_L_come wini_L (by decide +kernel) rfl ⟨rfl, rfl, Nat.le_of_ble_eq_true rfl, Nat.le_of_ble_eq_true rfl, rm1 hc (by exact Nat.le_of_ble_eq_true rfl), rm1 hs (by exact Nat.le_of_ble_eq_true rfl), Nat.le_of_ble_eq_true rfl⟩ dL_law_132 ?_
  refine v_istore F dL_law_135 (by decide) (lv' := [(5, .int _), (4, .int _), (3, .ref _), (2, .ref _), (1, .ref _), (0, .ref _)]) rfl ?_
  refine v_aload_n F dL_law_137 rfl 3 rfl ?_
  refine v_aload_n F dL_law_138 rfl 5 rfl ?_
  refine v_iload F dL_law_139 1 rfl ?_
  refine v_iconst F (v := nI 1) dL_law_141 (by decide) ?_
  refine v_iadd F dL_law_142 ?_
  refine v_topr (nI (i + 1)) (nI_add i 1) ?_
  refine v_sld F hX hbl hbase (i + 1) (Ix_nI (by omega) (by omega)) dL_law_143 ?_
  refine v_topr (nI n) e1 ?_
  refine v_callVi F (As := [_]) (rest := []) rfl (c_X6_come_s (M := M) G (by rw [← hj]; exact I.1.1.2.1) h1 h9) Rv_Q wm_L_73 rfl ⟨rfl, rfl, Nat.le_of_ble_eq_true rfl, Nat.le_of_ble_eq_true rfl, rm2 hc (by exact Nat.le_of_ble_eq_true rfl), rm2 hs (by exact Nat.le_of_ble_eq_true rfl), Nat.le_of_ble_eq_true rfl⟩ dL_law_144 ?_
  refine v_istore F dL_law_147 (by decide) (lv' := [(6, .int _), (5, .int _), (4, .int _), (3, .ref _), (2, .ref _), (1, .ref _), (0, .ref _)]) rfl ?_
  refine v_aload_n F dL_law_149 rfl 4 rfl ?_
  refine v_callVi F (As := []) (rest := []) rfl (c_X6_thrown G) Rv_Q wm_L_74 rfl ⟨rfl, rfl, Nat.le_of_ble_eq_true rfl, Nat.le_of_ble_eq_true rfl, rm3 hc (by exact Nat.le_of_ble_eq_true rfl), rm3 hs (by exact Nat.le_of_ble_eq_true rfl), Nat.le_of_ble_eq_true rfl⟩ dL_law_150 ?_
  refine v_topr (2) (show u3 (u3 (M 2) 0 0 0 0) 0 0 0 2 0 0 0 = 2 from u3_at _ _ _ _ _) ?_
  refine v_iload F dL_law_153 1 rfl ?_
  refine v_icmp_eq F (tgt := 160) dL_law_155 (by decide) (fun c155 => ?_) (fun h => absurd (rfl) h)
  refine v_iload F dL_law_160 1 rfl ?_
  refine v_if_ne F (tgt := 177) dL_law_162 (by decide) (fun c162 => ?_) (fun h => absurd h ((by decide)))
  refine v_goto F (tgt := 1183) dL_law_177 (by decide) ?_
  refine v_locs [2, 3, 4, 5, 6] rfl ?_
  refine v_widen (k := cells + 122) (n := slots + 871) (by omega) (by omega) ?_
  exact K _ _ ⟨_, _, _, _, Inv_q (Inv_q I 0) 2, by omega⟩
set_option maxHeartbeats 4000000 in
set_option maxRecDepth 100000 in
theorem w_setPattern (F : Fx p l s m #[Value.ref b] meth c cL_law 9 RL X) (hX : va_X b L xs s s.heap) (hbl : b < s.heap.size) (hbase : X.2.2.2 = s.heap.size) {i kk jc tc bt : Nat} {ln : Nat → Nat} (hi : i + 3 < L) (hL : L ≤ 2048) (hc : cells + 122 ≤ 601024) (hs : slots + 871 ≤ 7293034) (I : Inv (M 0) (M 2) (M 3) jc tc bt ln) (hbk : bt ≤ 200 * kk) (hkk : kk ≤ 512) {j n d : Nat} (hj : j < jc) (h1 : 1 ≤ n) (h8 : n ≤ 8) (hd : d < 10 ^ n) (e1 : xs (i + 1) = nI j) (e2 : xs (i + 2) = nI n) (e3 : xs (i + 3) = nI d)  (K : ∀ (M' : Mem) (lf' : Lf), LInv M' (kk + 1) → V p l e room_1 s m #[Value.ref b] below meth c Q X 9 [] (M') (lf') (cells + 122) (slots + 871) 1183 [(4, .int (nI i)), (3, .ref (X.2.1 6 0 0)), (2, .ref (X.2.1 2 0 0)), (1, .ref (X.2.1 5 0 0)), (0, .ref b)] []) : V p l e room_1 s m #[Value.ref b] below meth c Q X 9 [] (M) (lf) (cells) (slots) 180 [(4, .int (nI i)), (3, .ref (X.2.1 6 0 0)), (2, .ref (X.2.1 2 0 0)), (1, .ref (X.2.1 5 0 0)), (0, .ref b)] [] := by
  have G : Gx X l := ⟨F.2.2.1, F.2.2.2.2⟩
  refine v_aload_n F dL_law_180 rfl 3 rfl ?_
  refine v_aload_n F dL_law_181 rfl 4 rfl ?_
  refine v_iload F dL_law_182 0 rfl ?_
  refine v_iconst F (v := nI 1) dL_law_184 (by decide) ?_
  refine v_iadd F dL_law_185 ?_
  refine v_topr (nI (i + 1)) (nI_add i 1) ?_
  refine v_sld F hX hbl hbase (i + 1) (Ix_nI (by omega) (by omega)) dL_law_186 ?_
  refine v_topr (nI j) e1 ?_
  refine v_aload_n F dL_law_187 rfl 4 rfl ?_
  refine v_iload F dL_law_188 0 rfl ?_
  refine v_iconst F (v := nI 2) dL_law_190 (by decide) ?_
  refine v_iadd F dL_law_191 ?_
  refine v_topr (nI (i + 2)) (nI_add i 2) ?_
  refine v_sld F hX hbl hbase (i + 2) (Ix_nI (by omega) (by omega)) dL_law_192 ?_
  refine v_topr (nI n) e2 ?_
  refine v_aload_n F dL_law_193 rfl 4 rfl ?_
  refine v_iload F dL_law_194 0 rfl ?_
  refine v_iconst F (v := nI 3) dL_law_196 (by decide) ?_
  refine v_iadd F dL_law_197 ?_
  refine v_topr (nI (i + 3)) (nI_add i 3) ?_
  refine v_sld F hX hbl hbase (i + 3) (Ix_nI (by omega) (by omega)) dL_law_198 ?_
  refine v_topr (nI d) e3 ?_
  refine v_aload_n F dL_law_199 rfl 1 rfl ?_
  refine v_callSHi F (n := 5) (As := [_, _, _, _, _]) (rest := []) rfl (c_L_setPattern G I.1.1.1 hj h1 h8 hd) wc_L_setPattern wml_L_78 wst_L_setPattern wini_L (by decide +kernel) rfl ⟨rfl, rfl, Nat.le_of_ble_eq_true rfl, Nat.le_of_ble_eq_true rfl, rm1 hc (by exact Nat.le_of_ble_eq_true rfl), rm1 hs (by exact Nat.le_of_ble_eq_true rfl), Nat.le_of_ble_eq_true rfl⟩ dL_law_200 ?_
  refine v_istore F dL_law_203 (by decide) (lv' := [(5, .int _), (4, .int _), (3, .ref _), (2, .ref _), (1, .ref _), (0, .ref _)]) rfl ?_
  refine v_aload_n F dL_law_205 rfl 3 rfl ?_
  refine v_aload_n F dL_law_206 rfl 5 rfl ?_
  refine v_iload F dL_law_207 1 rfl ?_
  refine v_iconst F (v := nI 1) dL_law_209 (by decide) ?_
  refine v_iadd F dL_law_210 ?_
  refine v_topr (nI (i + 1)) (nI_add i 1) ?_
  refine v_sld F hX hbl hbase (i + 1) (Ix_nI (by omega) (by omega)) dL_law_211 ?_
  refine v_topr (nI j) e1 ?_
  refine v_aload_n F dL_law_212 rfl 5 rfl ?_
  refine v_iload F dL_law_213 1 rfl ?_
  refine v_iconst F (v := nI 2) dL_law_215 (by decide) ?_
  refine v_iadd F dL_law_216 ?_
  refine v_topr (nI (i + 2)) (nI_add i 2) ?_
  refine v_sld F hX hbl hbase (i + 2) (Ix_nI (by omega) (by omega)) dL_law_217 ?_
  refine v_topr (nI n) e2 ?_
  refine v_aload_n F dL_law_218 rfl 5 rfl ?_
  refine v_iload F dL_law_219 1 rfl ?_
  refine v_iconst F (v := nI 3) dL_law_221 (by decide) ?_
  refine v_iadd F dL_law_222 ?_
  refine v_topr (nI (i + 3)) (nI_add i 3) ?_
  refine v_sld F hX hbl hbase (i + 3) (Ix_nI (by omega) (by omega)) dL_law_223 ?_
  refine v_topr (nI d) e3 ?_
  refine v_callVi F (As := [_, _, _]) (rest := []) rfl (c_X6_setPattern (M := uC M 0 _) G I.1 hj h1 h8 hd) Rv_Q wm_L_81 rfl ⟨rfl, rfl, Nat.le_of_ble_eq_true rfl, Nat.le_of_ble_eq_true rfl, rm2 hc (by exact Nat.le_of_ble_eq_true rfl), rm2 hs (by exact Nat.le_of_ble_eq_true rfl), Nat.le_of_ble_eq_true rfl⟩ dL_law_224 ?_
  refine v_istore F dL_law_227 (by decide) (lv' := [(6, .int _), (5, .int _), (4, .int _), (3, .ref _), (2, .ref _), (1, .ref _), (0, .ref _)]) rfl ?_
  refine v_aload_n F dL_law_229 rfl 4 rfl ?_
  refine v_callVi F (As := []) (rest := []) rfl (c_X6_thrown G) Rv_Q wm_L_74 rfl ⟨rfl, rfl, Nat.le_of_ble_eq_true rfl, Nat.le_of_ble_eq_true rfl, rm3 hc (by exact Nat.le_of_ble_eq_true rfl), rm3 hs (by exact Nat.le_of_ble_eq_true rfl), Nat.le_of_ble_eq_true rfl⟩ dL_law_230 ?_
  refine v_topr (0) (show gPat (u3 (M 2) 0 0 0 0) j n (nI d) 0 0 0 = 0 by unfold gPat; rw [grL_ne (by omega) _ _ _ h8, u3_ne (by omega), u3_at]) ?_
  refine v_iload F dL_law_233 1 rfl ?_
  refine v_icmp_eq F (tgt := 240) dL_law_235 (by decide) (fun c235 => ?_) (fun h => absurd (rfl) h)
  refine v_iload F dL_law_240 1 rfl ?_
  refine v_if_ne F (tgt := 257) dL_law_242 (by decide) (fun h => absurd (rfl) h) (fun c242 => ?_)
  refine v_aload_n F dL_law_245 rfl 3 rfl ?_
  refine v_iconst F (v := 0) dL_law_246 (by decide) ?_
  refine v_lald F ⟨by decide, by decide, by decide⟩ dL_law_247 ?_
  refine v_toprl ((nI (ln j)).toInt64) pk_uLs ?_
  refine v_iload F dL_law_248 0 rfl ?_
  refine v_i2l F dL_law_250 ?_
  refine v_lcmp F dL_law_251 ?_
  refine v_if_eq F (tgt := 257) dL_law_252 (by decide) (fun c252 => ?_) (fun h => absurd ((lg_self _)) h)
  refine v_goto F (tgt := 1183) dL_law_257 (by decide) ?_
  refine v_locs [2, 3, 4, 5, 6] rfl ?_
  refine v_widen (k := cells + 122) (n := slots + 871) (by omega) (by omega) ?_
  exact K _ _ ⟨_, _, _, _, Inv_pat (Inv_q I 0) hj h1 h8 (Nat.lt_trans hd (p10_lt h8)), by omega⟩
set_option maxHeartbeats 4000000 in
set_option maxRecDepth 100000 in
theorem w_setPattern_j (F : Fx p l s m #[Value.ref b] meth c cL_law 9 RL X) (hX : va_X b L xs s s.heap) (hbl : b < s.heap.size) (hbase : X.2.2.2 = s.heap.size) {i kk jc tc bt : Nat} {ln : Nat → Nat} (hi : i + 3 < L) (hL : L ≤ 2048) (hc : cells + 122 ≤ 601024) (hs : slots + 871 ≤ 7293034) (I : Inv (M 0) (M 2) (M 3) jc tc bt ln) (hbk : bt ≤ 200 * kk) (hkk : kk ≤ 512) (hx : (xs (i + 1) < 0 ∨ nI jc ≤ xs (i + 1)))  (K : ∀ (M' : Mem) (lf' : Lf), LInv M' (kk + 1) → V p l e room_1 s m #[Value.ref b] below meth c Q X 9 [] (M') (lf') (cells + 122) (slots + 871) 1183 [(4, .int (nI i)), (3, .ref (X.2.1 6 0 0)), (2, .ref (X.2.1 2 0 0)), (1, .ref (X.2.1 5 0 0)), (0, .ref b)] []) : V p l e room_1 s m #[Value.ref b] below meth c Q X 9 [] (M) (lf) (cells) (slots) 180 [(4, .int (nI i)), (3, .ref (X.2.1 6 0 0)), (2, .ref (X.2.1 2 0 0)), (1, .ref (X.2.1 5 0 0)), (0, .ref b)] [] := by
  have G : Gx X l := ⟨F.2.2.1, F.2.2.2.2⟩
  refine v_aload_n F dL_law_180 rfl 3 rfl ?_
  refine v_aload_n F dL_law_181 rfl 4 rfl ?_
  refine v_iload F dL_law_182 0 rfl ?_
  refine v_iconst F (v := nI 1) dL_law_184 (by decide) ?_
  refine v_iadd F dL_law_185 ?_
  refine v_topr (nI (i + 1)) (nI_add i 1) ?_
  refine v_sld F hX hbl hbase (i + 1) (Ix_nI (by omega) (by omega)) dL_law_186 ?_
  refine v_aload_n F dL_law_187 rfl 4 rfl ?_
  refine v_iload F dL_law_188 0 rfl ?_
  refine v_iconst F (v := nI 2) dL_law_190 (by decide) ?_
  refine v_iadd F dL_law_191 ?_
  refine v_topr (nI (i + 2)) (nI_add i 2) ?_
  refine v_sld F hX hbl hbase (i + 2) (Ix_nI (by omega) (by omega)) dL_law_192 ?_
  refine v_aload_n F dL_law_193 rfl 4 rfl ?_
  refine v_iload F dL_law_194 0 rfl ?_
  refine v_iconst F (v := nI 3) dL_law_196 (by decide) ?_
  refine v_iadd F dL_law_197 ?_
  refine v_topr (nI (i + 3)) (nI_add i 3) ?_
  refine v_sld F hX hbl hbase (i + 3) (Ix_nI (by omega) (by omega)) dL_law_198 ?_
  refine v_aload_n F dL_law_199 rfl 1 rfl ?_
  refine v_callSHi F (n := 5) (As := [_, _, _, _, _]) (rest := []) rfl (x_L_setPattern_j G I.1.1.1 hx) wc_L_setPattern wml_L_78 wst_L_setPattern wini_L (by decide +kernel) rfl ⟨rfl, rfl, Nat.le_of_ble_eq_true rfl, Nat.le_of_ble_eq_true rfl, rm1 hc (by exact Nat.le_of_ble_eq_true rfl), rm1 hs (by exact Nat.le_of_ble_eq_true rfl), Nat.le_of_ble_eq_true rfl⟩ dL_law_200 ?_
  refine v_istore F dL_law_203 (by decide) (lv' := [(5, .int _), (4, .int _), (3, .ref _), (2, .ref _), (1, .ref _), (0, .ref _)]) rfl ?_
  refine v_aload_n F dL_law_205 rfl 3 rfl ?_
  refine v_aload_n F dL_law_206 rfl 5 rfl ?_
  refine v_iload F dL_law_207 1 rfl ?_
  refine v_iconst F (v := nI 1) dL_law_209 (by decide) ?_
  refine v_iadd F dL_law_210 ?_
  refine v_topr (nI (i + 1)) (nI_add i 1) ?_
  refine v_sld F hX hbl hbase (i + 1) (Ix_nI (by omega) (by omega)) dL_law_211 ?_
  refine v_aload_n F dL_law_212 rfl 5 rfl ?_
  refine v_iload F dL_law_213 1 rfl ?_
  refine v_iconst F (v := nI 2) dL_law_215 (by decide) ?_
  refine v_iadd F dL_law_216 ?_
  refine v_topr (nI (i + 2)) (nI_add i 2) ?_
  refine v_sld F hX hbl hbase (i + 2) (Ix_nI (by omega) (by omega)) dL_law_217 ?_
  refine v_aload_n F dL_law_218 rfl 5 rfl ?_
  refine v_iload F dL_law_219 1 rfl ?_
  refine v_iconst F (v := nI 3) dL_law_221 (by decide) ?_
  refine v_iadd F dL_law_222 ?_
  refine v_topr (nI (i + 3)) (nI_add i 3) ?_
  refine v_sld F hX hbl hbase (i + 3) (Ix_nI (by omega) (by omega)) dL_law_223 ?_
  refine v_callVi F (As := [_, _, _]) (rest := []) rfl (c_X6_setPattern_j (M := M) G I.1 hx) Rv_Q wm_L_81 rfl ⟨rfl, rfl, Nat.le_of_ble_eq_true rfl, Nat.le_of_ble_eq_true rfl, rm2 hc (by exact Nat.le_of_ble_eq_true rfl), rm2 hs (by exact Nat.le_of_ble_eq_true rfl), Nat.le_of_ble_eq_true rfl⟩ dL_law_224 ?_
  refine v_istore F dL_law_227 (by decide) (lv' := [(6, .int _), (5, .int _), (4, .int _), (3, .ref _), (2, .ref _), (1, .ref _), (0, .ref _)]) rfl ?_
  refine v_aload_n F dL_law_229 rfl 4 rfl ?_
  refine v_callVi F (As := []) (rest := []) rfl (c_X6_thrown G) Rv_Q wm_L_74 rfl ⟨rfl, rfl, Nat.le_of_ble_eq_true rfl, Nat.le_of_ble_eq_true rfl, rm3 hc (by exact Nat.le_of_ble_eq_true rfl), rm3 hs (by exact Nat.le_of_ble_eq_true rfl), Nat.le_of_ble_eq_true rfl⟩ dL_law_230 ?_
  refine v_topr (1) (show u3 (u3 (M 2) 0 0 0 0) 0 0 0 1 0 0 0 = 1 from u3_at _ _ _ _ _) ?_
  refine v_iload F dL_law_233 1 rfl ?_
  refine v_icmp_eq F (tgt := 240) dL_law_235 (by decide) (fun c235 => ?_) (fun h => absurd (rfl) h)
  refine v_iload F dL_law_240 1 rfl ?_
  refine v_if_ne F (tgt := 257) dL_law_242 (by decide) (fun c242 => ?_) (fun h => absurd h ((by decide)))
  refine v_goto F (tgt := 1183) dL_law_257 (by decide) ?_
  refine v_locs [2, 3, 4, 5, 6] rfl ?_
  refine v_widen (k := cells + 122) (n := slots + 871) (by omega) (by omega) ?_
  exact K _ _ ⟨_, _, _, _, Inv_q (Inv_q I 0) 1, by omega⟩
set_option maxHeartbeats 4000000 in
set_option maxRecDepth 100000 in
theorem w_setPattern_n (F : Fx p l s m #[Value.ref b] meth c cL_law 9 RL X) (hX : va_X b L xs s s.heap) (hbl : b < s.heap.size) (hbase : X.2.2.2 = s.heap.size) {i kk jc tc bt : Nat} {ln : Nat → Nat} (hi : i + 3 < L) (hL : L ≤ 2048) (hc : cells + 122 ≤ 601024) (hs : slots + 871 ≤ 7293034) (I : Inv (M 0) (M 2) (M 3) jc tc bt ln) (hbk : bt ≤ 200 * kk) (hkk : kk ≤ 512) {j : Nat} (hj : j < jc) (e1 : xs (i + 1) = nI j) (hx : xs (i + 2) < 1 ∨ 8 < xs (i + 2))  (K : ∀ (M' : Mem) (lf' : Lf), LInv M' (kk + 1) → V p l e room_1 s m #[Value.ref b] below meth c Q X 9 [] (M') (lf') (cells + 122) (slots + 871) 1183 [(4, .int (nI i)), (3, .ref (X.2.1 6 0 0)), (2, .ref (X.2.1 2 0 0)), (1, .ref (X.2.1 5 0 0)), (0, .ref b)] []) : V p l e room_1 s m #[Value.ref b] below meth c Q X 9 [] (M) (lf) (cells) (slots) 180 [(4, .int (nI i)), (3, .ref (X.2.1 6 0 0)), (2, .ref (X.2.1 2 0 0)), (1, .ref (X.2.1 5 0 0)), (0, .ref b)] [] := by
  have G : Gx X l := ⟨F.2.2.1, F.2.2.2.2⟩
  refine v_aload_n F dL_law_180 rfl 3 rfl ?_
  refine v_aload_n F dL_law_181 rfl 4 rfl ?_
  refine v_iload F dL_law_182 0 rfl ?_
  refine v_iconst F (v := nI 1) dL_law_184 (by decide) ?_
  refine v_iadd F dL_law_185 ?_
  refine v_topr (nI (i + 1)) (nI_add i 1) ?_
  refine v_sld F hX hbl hbase (i + 1) (Ix_nI (by omega) (by omega)) dL_law_186 ?_
  refine v_topr (nI j) e1 ?_
  refine v_aload_n F dL_law_187 rfl 4 rfl ?_
  refine v_iload F dL_law_188 0 rfl ?_
  refine v_iconst F (v := nI 2) dL_law_190 (by decide) ?_
  refine v_iadd F dL_law_191 ?_
  refine v_topr (nI (i + 2)) (nI_add i 2) ?_
  refine v_sld F hX hbl hbase (i + 2) (Ix_nI (by omega) (by omega)) dL_law_192 ?_
  refine v_aload_n F dL_law_193 rfl 4 rfl ?_
  refine v_iload F dL_law_194 0 rfl ?_
  refine v_iconst F (v := nI 3) dL_law_196 (by decide) ?_
  refine v_iadd F dL_law_197 ?_
  refine v_topr (nI (i + 3)) (nI_add i 3) ?_
  refine v_sld F hX hbl hbase (i + 3) (Ix_nI (by omega) (by omega)) dL_law_198 ?_
  refine v_aload_n F dL_law_199 rfl 1 rfl ?_
  refine v_callSHi F (n := 5) (As := [_, _, _, _, _]) (rest := []) rfl (x_L_setPattern_n G I.1.1.1 hj hx) wc_L_setPattern wml_L_78 wst_L_setPattern wini_L (by decide +kernel) rfl ⟨rfl, rfl, Nat.le_of_ble_eq_true rfl, Nat.le_of_ble_eq_true rfl, rm1 hc (by exact Nat.le_of_ble_eq_true rfl), rm1 hs (by exact Nat.le_of_ble_eq_true rfl), Nat.le_of_ble_eq_true rfl⟩ dL_law_200 ?_
  refine v_istore F dL_law_203 (by decide) (lv' := [(5, .int _), (4, .int _), (3, .ref _), (2, .ref _), (1, .ref _), (0, .ref _)]) rfl ?_
  refine v_aload_n F dL_law_205 rfl 3 rfl ?_
  refine v_aload_n F dL_law_206 rfl 5 rfl ?_
  refine v_iload F dL_law_207 1 rfl ?_
  refine v_iconst F (v := nI 1) dL_law_209 (by decide) ?_
  refine v_iadd F dL_law_210 ?_
  refine v_topr (nI (i + 1)) (nI_add i 1) ?_
  refine v_sld F hX hbl hbase (i + 1) (Ix_nI (by omega) (by omega)) dL_law_211 ?_
  refine v_topr (nI j) e1 ?_
  refine v_aload_n F dL_law_212 rfl 5 rfl ?_
  refine v_iload F dL_law_213 1 rfl ?_
  refine v_iconst F (v := nI 2) dL_law_215 (by decide) ?_
  refine v_iadd F dL_law_216 ?_
  refine v_topr (nI (i + 2)) (nI_add i 2) ?_
  refine v_sld F hX hbl hbase (i + 2) (Ix_nI (by omega) (by omega)) dL_law_217 ?_
  refine v_aload_n F dL_law_218 rfl 5 rfl ?_
  refine v_iload F dL_law_219 1 rfl ?_
  refine v_iconst F (v := nI 3) dL_law_221 (by decide) ?_
  refine v_iadd F dL_law_222 ?_
  refine v_topr (nI (i + 3)) (nI_add i 3) ?_
  refine v_sld F hX hbl hbase (i + 3) (Ix_nI (by omega) (by omega)) dL_law_223 ?_
  refine v_callVi F (As := [_, _, _]) (rest := []) rfl (c_X6_setPattern_n (M := M) G I.1 hj hx) Rv_Q wm_L_81 rfl ⟨rfl, rfl, Nat.le_of_ble_eq_true rfl, Nat.le_of_ble_eq_true rfl, rm2 hc (by exact Nat.le_of_ble_eq_true rfl), rm2 hs (by exact Nat.le_of_ble_eq_true rfl), Nat.le_of_ble_eq_true rfl⟩ dL_law_224 ?_
  refine v_istore F dL_law_227 (by decide) (lv' := [(6, .int _), (5, .int _), (4, .int _), (3, .ref _), (2, .ref _), (1, .ref _), (0, .ref _)]) rfl ?_
  refine v_aload_n F dL_law_229 rfl 4 rfl ?_
  refine v_callVi F (As := []) (rest := []) rfl (c_X6_thrown G) Rv_Q wm_L_74 rfl ⟨rfl, rfl, Nat.le_of_ble_eq_true rfl, Nat.le_of_ble_eq_true rfl, rm3 hc (by exact Nat.le_of_ble_eq_true rfl), rm3 hs (by exact Nat.le_of_ble_eq_true rfl), Nat.le_of_ble_eq_true rfl⟩ dL_law_230 ?_
  refine v_topr (2) (show u3 (u3 (M 2) 0 0 0 0) 0 0 0 2 0 0 0 = 2 from u3_at _ _ _ _ _) ?_
  refine v_iload F dL_law_233 1 rfl ?_
  refine v_icmp_eq F (tgt := 240) dL_law_235 (by decide) (fun c235 => ?_) (fun h => absurd (rfl) h)
  refine v_iload F dL_law_240 1 rfl ?_
  refine v_if_ne F (tgt := 257) dL_law_242 (by decide) (fun c242 => ?_) (fun h => absurd h ((by decide)))
  refine v_goto F (tgt := 1183) dL_law_257 (by decide) ?_
  refine v_locs [2, 3, 4, 5, 6] rfl ?_
  refine v_widen (k := cells + 122) (n := slots + 871) (by omega) (by omega) ?_
  exact K _ _ ⟨_, _, _, _, Inv_q (Inv_q I 0) 2, by omega⟩
set_option maxHeartbeats 4000000 in
set_option maxRecDepth 100000 in
theorem w_setPattern_d (F : Fx p l s m #[Value.ref b] meth c cL_law 9 RL X) (hX : va_X b L xs s s.heap) (hbl : b < s.heap.size) (hbase : X.2.2.2 = s.heap.size) {i kk jc tc bt : Nat} {ln : Nat → Nat} (hi : i + 3 < L) (hL : L ≤ 2048) (hc : cells + 122 ≤ 601024) (hs : slots + 871 ≤ 7293034) (I : Inv (M 0) (M 2) (M 3) jc tc bt ln) (hbk : bt ≤ 200 * kk) (hkk : kk ≤ 512) {j n : Nat} (hj : j < jc) (h1 : 1 ≤ n) (h8 : n ≤ 8) (e1 : xs (i + 1) = nI j) (e2 : xs (i + 2) = nI n) (hx : (xs (i + 3) < 0 ∨ nI (10 ^ n) ≤ xs (i + 3)))  (K : ∀ (M' : Mem) (lf' : Lf), LInv M' (kk + 1) → V p l e room_1 s m #[Value.ref b] below meth c Q X 9 [] (M') (lf') (cells + 122) (slots + 871) 1183 [(4, .int (nI i)), (3, .ref (X.2.1 6 0 0)), (2, .ref (X.2.1 2 0 0)), (1, .ref (X.2.1 5 0 0)), (0, .ref b)] []) : V p l e room_1 s m #[Value.ref b] below meth c Q X 9 [] (M) (lf) (cells) (slots) 180 [(4, .int (nI i)), (3, .ref (X.2.1 6 0 0)), (2, .ref (X.2.1 2 0 0)), (1, .ref (X.2.1 5 0 0)), (0, .ref b)] [] := by
  have G : Gx X l := ⟨F.2.2.1, F.2.2.2.2⟩
  refine v_aload_n F dL_law_180 rfl 3 rfl ?_
  refine v_aload_n F dL_law_181 rfl 4 rfl ?_
  refine v_iload F dL_law_182 0 rfl ?_
  refine v_iconst F (v := nI 1) dL_law_184 (by decide) ?_
  refine v_iadd F dL_law_185 ?_
  refine v_topr (nI (i + 1)) (nI_add i 1) ?_
  refine v_sld F hX hbl hbase (i + 1) (Ix_nI (by omega) (by omega)) dL_law_186 ?_
  refine v_topr (nI j) e1 ?_
  refine v_aload_n F dL_law_187 rfl 4 rfl ?_
  refine v_iload F dL_law_188 0 rfl ?_
  refine v_iconst F (v := nI 2) dL_law_190 (by decide) ?_
  refine v_iadd F dL_law_191 ?_
  refine v_topr (nI (i + 2)) (nI_add i 2) ?_
  refine v_sld F hX hbl hbase (i + 2) (Ix_nI (by omega) (by omega)) dL_law_192 ?_
  refine v_topr (nI n) e2 ?_
  refine v_aload_n F dL_law_193 rfl 4 rfl ?_
  refine v_iload F dL_law_194 0 rfl ?_
  refine v_iconst F (v := nI 3) dL_law_196 (by decide) ?_
  refine v_iadd F dL_law_197 ?_
  refine v_topr (nI (i + 3)) (nI_add i 3) ?_
  refine v_sld F hX hbl hbase (i + 3) (Ix_nI (by omega) (by omega)) dL_law_198 ?_
  refine v_aload_n F dL_law_199 rfl 1 rfl ?_
  refine v_callSHi F (n := 5) (As := [_, _, _, _, _]) (rest := []) rfl (x_L_setPattern_d G I.1.1.1 hj h1 h8 hx) wc_L_setPattern wml_L_78 wst_L_setPattern wini_L (by decide +kernel) rfl ⟨rfl, rfl, Nat.le_of_ble_eq_true rfl, Nat.le_of_ble_eq_true rfl, rm1 hc (by exact Nat.le_of_ble_eq_true rfl), rm1 hs (by exact Nat.le_of_ble_eq_true rfl), Nat.le_of_ble_eq_true rfl⟩ dL_law_200 ?_
  refine v_istore F dL_law_203 (by decide) (lv' := [(5, .int _), (4, .int _), (3, .ref _), (2, .ref _), (1, .ref _), (0, .ref _)]) rfl ?_
  refine v_aload_n F dL_law_205 rfl 3 rfl ?_
  refine v_aload_n F dL_law_206 rfl 5 rfl ?_
  refine v_iload F dL_law_207 1 rfl ?_
  refine v_iconst F (v := nI 1) dL_law_209 (by decide) ?_
  refine v_iadd F dL_law_210 ?_
  refine v_topr (nI (i + 1)) (nI_add i 1) ?_
  refine v_sld F hX hbl hbase (i + 1) (Ix_nI (by omega) (by omega)) dL_law_211 ?_
  refine v_topr (nI j) e1 ?_
  refine v_aload_n F dL_law_212 rfl 5 rfl ?_
  refine v_iload F dL_law_213 1 rfl ?_
  refine v_iconst F (v := nI 2) dL_law_215 (by decide) ?_
  refine v_iadd F dL_law_216 ?_
  refine v_topr (nI (i + 2)) (nI_add i 2) ?_
  refine v_sld F hX hbl hbase (i + 2) (Ix_nI (by omega) (by omega)) dL_law_217 ?_
  refine v_topr (nI n) e2 ?_
  refine v_aload_n F dL_law_218 rfl 5 rfl ?_
  refine v_iload F dL_law_219 1 rfl ?_
  refine v_iconst F (v := nI 3) dL_law_221 (by decide) ?_
  refine v_iadd F dL_law_222 ?_
  refine v_topr (nI (i + 3)) (nI_add i 3) ?_
  refine v_sld F hX hbl hbase (i + 3) (Ix_nI (by omega) (by omega)) dL_law_223 ?_
  refine v_callVi F (As := [_, _, _]) (rest := []) rfl (c_X6_setPattern_d (M := M) G I.1 hj h1 h8 hx) Rv_Q wm_L_81 rfl ⟨rfl, rfl, Nat.le_of_ble_eq_true rfl, Nat.le_of_ble_eq_true rfl, rm2 hc (by exact Nat.le_of_ble_eq_true rfl), rm2 hs (by exact Nat.le_of_ble_eq_true rfl), Nat.le_of_ble_eq_true rfl⟩ dL_law_224 ?_
  refine v_istore F dL_law_227 (by decide) (lv' := [(6, .int _), (5, .int _), (4, .int _), (3, .ref _), (2, .ref _), (1, .ref _), (0, .ref _)]) rfl ?_
  refine v_aload_n F dL_law_229 rfl 4 rfl ?_
  refine v_callVi F (As := []) (rest := []) rfl (c_X6_thrown G) Rv_Q wm_L_74 rfl ⟨rfl, rfl, Nat.le_of_ble_eq_true rfl, Nat.le_of_ble_eq_true rfl, rm3 hc (by exact Nat.le_of_ble_eq_true rfl), rm3 hs (by exact Nat.le_of_ble_eq_true rfl), Nat.le_of_ble_eq_true rfl⟩ dL_law_230 ?_
  refine v_topr (2) (show u3 (u3 (M 2) 0 0 0 0) 0 0 0 2 0 0 0 = 2 from u3_at _ _ _ _ _) ?_
  refine v_iload F dL_law_233 1 rfl ?_
  refine v_icmp_eq F (tgt := 240) dL_law_235 (by decide) (fun c235 => ?_) (fun h => absurd (rfl) h)
  refine v_iload F dL_law_240 1 rfl ?_
  refine v_if_ne F (tgt := 257) dL_law_242 (by decide) (fun c242 => ?_) (fun h => absurd h ((by decide)))
  refine v_goto F (tgt := 1183) dL_law_257 (by decide) ?_
  refine v_locs [2, 3, 4, 5, 6] rfl ?_
  refine v_widen (k := cells + 122) (n := slots + 871) (by omega) (by omega) ?_
  exact K _ _ ⟨_, _, _, _, Inv_q (Inv_q I 0) 2, by omega⟩
set_option maxHeartbeats 4000000 in
set_option maxRecDepth 100000 in
theorem w_pass (F : Fx p l s m #[Value.ref b] meth c cL_law 9 RL X) (hX : va_X b L xs s s.heap) (hbl : b < s.heap.size) (hbase : X.2.2.2 = s.heap.size) {i kk jc tc bt : Nat} {ln : Nat → Nat} (hi : i + 3 < L) (hL : L ≤ 2048) (hc : cells + 122 ≤ 601024) (hs : slots + 871 ≤ 7293034) (I : Inv (M 0) (M 2) (M 3) jc tc bt ln) (hbk : bt ≤ 200 * kk) (hkk : kk ≤ 512) {j z t : Nat} (hj : j < jc) (hz : z < ln j) (ht : t < jc) (e1 : xs (i + 1) = nI j) (e2 : xs (i + 2) = nI z) (e3 : xs (i + 3) = nI t)  (K : ∀ (M' : Mem) (lf' : Lf), LInv M' (kk + 1) → V p l e room_1 s m #[Value.ref b] below meth c Q X 9 [] (M') (lf') (cells + 122) (slots + 871) 1183 [(4, .int (nI i)), (3, .ref (X.2.1 6 0 0)), (2, .ref (X.2.1 2 0 0)), (1, .ref (X.2.1 5 0 0)), (0, .ref b)] []) : V p l e room_1 s m #[Value.ref b] below meth c Q X 9 [] (M) (lf) (cells) (slots) 260 [(4, .int (nI i)), (3, .ref (X.2.1 6 0 0)), (2, .ref (X.2.1 2 0 0)), (1, .ref (X.2.1 5 0 0)), (0, .ref b)] [] := by
  have G : Gx X l := ⟨F.2.2.1, F.2.2.2.2⟩
  refine v_aload_n F dL_law_260 rfl 3 rfl ?_
  refine v_aload_n F dL_law_261 rfl 4 rfl ?_
  refine v_iload F dL_law_262 0 rfl ?_
  refine v_iconst F (v := nI 1) dL_law_264 (by decide) ?_
  refine v_iadd F dL_law_265 ?_
  refine v_topr (nI (i + 1)) (nI_add i 1) ?_
  refine v_sld F hX hbl hbase (i + 1) (Ix_nI (by omega) (by omega)) dL_law_266 ?_
  refine v_topr (nI j) e1 ?_
  refine v_aload_n F dL_law_267 rfl 4 rfl ?_
  refine v_iload F dL_law_268 0 rfl ?_
  refine v_iconst F (v := nI 2) dL_law_270 (by decide) ?_
  refine v_iadd F dL_law_271 ?_
  refine v_topr (nI (i + 2)) (nI_add i 2) ?_
  refine v_sld F hX hbl hbase (i + 2) (Ix_nI (by omega) (by omega)) dL_law_272 ?_
  refine v_topr (nI z) e2 ?_
  refine v_aload_n F dL_law_273 rfl 4 rfl ?_
  refine v_iload F dL_law_274 0 rfl ?_
  refine v_iconst F (v := nI 3) dL_law_276 (by decide) ?_
  refine v_iadd F dL_law_277 ?_
  refine v_topr (nI (i + 3)) (nI_add i 3) ?_
  refine v_sld F hX hbl hbase (i + 3) (Ix_nI (by omega) (by omega)) dL_law_278 ?_
  refine v_topr (nI t) e3 ?_
  refine v_aload_n F dL_law_279 rfl 1 rfl ?_
  refine v_callSHi F (n := 5) (As := [_, _, _, _, _]) (rest := []) rfl (c_L_pass G I.1.1.1 hj hz ht) wc_L_pass wml_L_82 wst_L_pass wini_L (by decide +kernel) rfl ⟨rfl, rfl, Nat.le_of_ble_eq_true rfl, Nat.le_of_ble_eq_true rfl, rm1 hc (by exact Nat.le_of_ble_eq_true rfl), rm1 hs (by exact Nat.le_of_ble_eq_true rfl), Nat.le_of_ble_eq_true rfl⟩ dL_law_280 ?_
  refine v_istore F dL_law_283 (by decide) (lv' := [(5, .int _), (4, .int _), (3, .ref _), (2, .ref _), (1, .ref _), (0, .ref _)]) rfl ?_
  refine v_aload_n F dL_law_285 rfl 3 rfl ?_
  refine v_aload_n F dL_law_286 rfl 5 rfl ?_
  refine v_iload F dL_law_287 1 rfl ?_
  refine v_iconst F (v := nI 1) dL_law_289 (by decide) ?_
  refine v_iadd F dL_law_290 ?_
  refine v_topr (nI (i + 1)) (nI_add i 1) ?_
  refine v_sld F hX hbl hbase (i + 1) (Ix_nI (by omega) (by omega)) dL_law_291 ?_
  refine v_topr (nI j) e1 ?_
  refine v_aload_n F dL_law_292 rfl 5 rfl ?_
  refine v_iload F dL_law_293 1 rfl ?_
  refine v_iconst F (v := nI 2) dL_law_295 (by decide) ?_
  refine v_iadd F dL_law_296 ?_
  refine v_topr (nI (i + 2)) (nI_add i 2) ?_
  refine v_sld F hX hbl hbase (i + 2) (Ix_nI (by omega) (by omega)) dL_law_297 ?_
  refine v_topr (nI z) e2 ?_
  refine v_aload_n F dL_law_298 rfl 5 rfl ?_
  refine v_iload F dL_law_299 1 rfl ?_
  refine v_iconst F (v := nI 3) dL_law_301 (by decide) ?_
  refine v_iadd F dL_law_302 ?_
  refine v_topr (nI (i + 3)) (nI_add i 3) ?_
  refine v_sld F hX hbl hbase (i + 3) (Ix_nI (by omega) (by omega)) dL_law_303 ?_
  refine v_topr (nI t) e3 ?_
  refine v_callVi F (As := [_, _, _]) (rest := []) rfl (c_X6_pass (M := uC M 0 _) G I.1 hj hz ht) Rv_Q wm_L_84 rfl ⟨rfl, rfl, Nat.le_of_ble_eq_true rfl, Nat.le_of_ble_eq_true rfl, rm2 hc (by exact Nat.le_of_ble_eq_true rfl), rm2 hs (by exact Nat.le_of_ble_eq_true rfl), Nat.le_of_ble_eq_true rfl⟩ dL_law_304 ?_
  refine v_istore F dL_law_307 (by decide) (lv' := [(6, .int _), (5, .int _), (4, .int _), (3, .ref _), (2, .ref _), (1, .ref _), (0, .ref _)]) rfl ?_
  refine v_aload_n F dL_law_309 rfl 4 rfl ?_
  refine v_callVi F (As := []) (rest := []) rfl (c_X6_thrown G) Rv_Q wm_L_74 rfl ⟨rfl, rfl, Nat.le_of_ble_eq_true rfl, Nat.le_of_ble_eq_true rfl, rm3 hc (by exact Nat.le_of_ble_eq_true rfl), rm3 hs (by exact Nat.le_of_ble_eq_true rfl), Nat.le_of_ble_eq_true rfl⟩ dL_law_310 ?_
  refine v_topr (0) (show u3 (u3 (M 2) 0 0 0 0) 4 0 (8 * j + z) (nI t) 0 0 0 = 0 by rw [u3_ne (by omega), u3_at]) ?_
  refine v_iload F dL_law_313 1 rfl ?_
  refine v_icmp_eq F (tgt := 320) dL_law_315 (by decide) (fun c315 => ?_) (fun h => absurd (rfl) h)
  refine v_iload F dL_law_320 1 rfl ?_
  refine v_if_ne F (tgt := 337) dL_law_322 (by decide) (fun h => absurd (rfl) h) (fun c322 => ?_)
  refine v_aload_n F dL_law_325 rfl 3 rfl ?_
  refine v_iconst F (v := 0) dL_law_326 (by decide) ?_
  refine v_lald F ⟨by decide, by decide, by decide⟩ dL_law_327 ?_
  refine v_toprl ((M 0 5 j z).toInt64) pk_uLs ?_
  refine v_iload F dL_law_328 0 rfl ?_
  refine v_i2l F dL_law_330 ?_
  refine v_lcmp F dL_law_331 ?_
  refine v_if_eq F (tgt := 337) dL_law_332 (by decide) (fun c332 => ?_) (fun h => absurd ((lg_self _)) h)
  refine v_goto F (tgt := 1183) dL_law_337 (by decide) ?_
  refine v_locs [2, 3, 4, 5, 6] rfl ?_
  refine v_widen (k := cells + 122) (n := slots + 871) (by omega) (by omega) ?_
  exact K _ _ ⟨_, _, _, _, Inv_pass (Inv_q I 0) hj hz ht, by omega⟩
set_option maxHeartbeats 4000000 in
set_option maxRecDepth 100000 in
theorem w_pass_j (F : Fx p l s m #[Value.ref b] meth c cL_law 9 RL X) (hX : va_X b L xs s s.heap) (hbl : b < s.heap.size) (hbase : X.2.2.2 = s.heap.size) {i kk jc tc bt : Nat} {ln : Nat → Nat} (hi : i + 3 < L) (hL : L ≤ 2048) (hc : cells + 122 ≤ 601024) (hs : slots + 871 ≤ 7293034) (I : Inv (M 0) (M 2) (M 3) jc tc bt ln) (hbk : bt ≤ 200 * kk) (hkk : kk ≤ 512) (hx : (xs (i + 1) < 0 ∨ nI jc ≤ xs (i + 1)))  (K : ∀ (M' : Mem) (lf' : Lf), LInv M' (kk + 1) → V p l e room_1 s m #[Value.ref b] below meth c Q X 9 [] (M') (lf') (cells + 122) (slots + 871) 1183 [(4, .int (nI i)), (3, .ref (X.2.1 6 0 0)), (2, .ref (X.2.1 2 0 0)), (1, .ref (X.2.1 5 0 0)), (0, .ref b)] []) : V p l e room_1 s m #[Value.ref b] below meth c Q X 9 [] (M) (lf) (cells) (slots) 260 [(4, .int (nI i)), (3, .ref (X.2.1 6 0 0)), (2, .ref (X.2.1 2 0 0)), (1, .ref (X.2.1 5 0 0)), (0, .ref b)] [] := by
  have G : Gx X l := ⟨F.2.2.1, F.2.2.2.2⟩
  refine v_aload_n F dL_law_260 rfl 3 rfl ?_
  refine v_aload_n F dL_law_261 rfl 4 rfl ?_
  refine v_iload F dL_law_262 0 rfl ?_
  refine v_iconst F (v := nI 1) dL_law_264 (by decide) ?_
  refine v_iadd F dL_law_265 ?_
  refine v_topr (nI (i + 1)) (nI_add i 1) ?_
  refine v_sld F hX hbl hbase (i + 1) (Ix_nI (by omega) (by omega)) dL_law_266 ?_
  refine v_aload_n F dL_law_267 rfl 4 rfl ?_
  refine v_iload F dL_law_268 0 rfl ?_
  refine v_iconst F (v := nI 2) dL_law_270 (by decide) ?_
  refine v_iadd F dL_law_271 ?_
  refine v_topr (nI (i + 2)) (nI_add i 2) ?_
  refine v_sld F hX hbl hbase (i + 2) (Ix_nI (by omega) (by omega)) dL_law_272 ?_
  refine v_aload_n F dL_law_273 rfl 4 rfl ?_
  refine v_iload F dL_law_274 0 rfl ?_
  refine v_iconst F (v := nI 3) dL_law_276 (by decide) ?_
  refine v_iadd F dL_law_277 ?_
  refine v_topr (nI (i + 3)) (nI_add i 3) ?_
  refine v_sld F hX hbl hbase (i + 3) (Ix_nI (by omega) (by omega)) dL_law_278 ?_
  refine v_aload_n F dL_law_279 rfl 1 rfl ?_
  refine v_callSHi F (n := 5) (As := [_, _, _, _, _]) (rest := []) rfl (x_L_pass_j G I.1.1.1 hx) wc_L_pass wml_L_82 wst_L_pass wini_L (by decide +kernel) rfl ⟨rfl, rfl, Nat.le_of_ble_eq_true rfl, Nat.le_of_ble_eq_true rfl, rm1 hc (by exact Nat.le_of_ble_eq_true rfl), rm1 hs (by exact Nat.le_of_ble_eq_true rfl), Nat.le_of_ble_eq_true rfl⟩ dL_law_280 ?_
  refine v_istore F dL_law_283 (by decide) (lv' := [(5, .int _), (4, .int _), (3, .ref _), (2, .ref _), (1, .ref _), (0, .ref _)]) rfl ?_
  refine v_aload_n F dL_law_285 rfl 3 rfl ?_
  refine v_aload_n F dL_law_286 rfl 5 rfl ?_
  refine v_iload F dL_law_287 1 rfl ?_
  refine v_iconst F (v := nI 1) dL_law_289 (by decide) ?_
  refine v_iadd F dL_law_290 ?_
  refine v_topr (nI (i + 1)) (nI_add i 1) ?_
  refine v_sld F hX hbl hbase (i + 1) (Ix_nI (by omega) (by omega)) dL_law_291 ?_
  refine v_aload_n F dL_law_292 rfl 5 rfl ?_
  refine v_iload F dL_law_293 1 rfl ?_
  refine v_iconst F (v := nI 2) dL_law_295 (by decide) ?_
  refine v_iadd F dL_law_296 ?_
  refine v_topr (nI (i + 2)) (nI_add i 2) ?_
  refine v_sld F hX hbl hbase (i + 2) (Ix_nI (by omega) (by omega)) dL_law_297 ?_
  refine v_aload_n F dL_law_298 rfl 5 rfl ?_
  refine v_iload F dL_law_299 1 rfl ?_
  refine v_iconst F (v := nI 3) dL_law_301 (by decide) ?_
  refine v_iadd F dL_law_302 ?_
  refine v_topr (nI (i + 3)) (nI_add i 3) ?_
  refine v_sld F hX hbl hbase (i + 3) (Ix_nI (by omega) (by omega)) dL_law_303 ?_
  refine v_callVi F (As := [_, _, _]) (rest := []) rfl (c_X6_pass_j (M := M) G I.1 hx) Rv_Q wm_L_84 rfl ⟨rfl, rfl, Nat.le_of_ble_eq_true rfl, Nat.le_of_ble_eq_true rfl, rm2 hc (by exact Nat.le_of_ble_eq_true rfl), rm2 hs (by exact Nat.le_of_ble_eq_true rfl), Nat.le_of_ble_eq_true rfl⟩ dL_law_304 ?_
  refine v_istore F dL_law_307 (by decide) (lv' := [(6, .int _), (5, .int _), (4, .int _), (3, .ref _), (2, .ref _), (1, .ref _), (0, .ref _)]) rfl ?_
  refine v_aload_n F dL_law_309 rfl 4 rfl ?_
  refine v_callVi F (As := []) (rest := []) rfl (c_X6_thrown G) Rv_Q wm_L_74 rfl ⟨rfl, rfl, Nat.le_of_ble_eq_true rfl, Nat.le_of_ble_eq_true rfl, rm3 hc (by exact Nat.le_of_ble_eq_true rfl), rm3 hs (by exact Nat.le_of_ble_eq_true rfl), Nat.le_of_ble_eq_true rfl⟩ dL_law_310 ?_
  refine v_topr (1) (show u3 (u3 (M 2) 0 0 0 0) 0 0 0 1 0 0 0 = 1 from u3_at _ _ _ _ _) ?_
  refine v_iload F dL_law_313 1 rfl ?_
  refine v_icmp_eq F (tgt := 320) dL_law_315 (by decide) (fun c315 => ?_) (fun h => absurd (rfl) h)
  refine v_iload F dL_law_320 1 rfl ?_
  refine v_if_ne F (tgt := 337) dL_law_322 (by decide) (fun c322 => ?_) (fun h => absurd h ((by decide)))
  refine v_goto F (tgt := 1183) dL_law_337 (by decide) ?_
  refine v_locs [2, 3, 4, 5, 6] rfl ?_
  refine v_widen (k := cells + 122) (n := slots + 871) (by omega) (by omega) ?_
  exact K _ _ ⟨_, _, _, _, Inv_q (Inv_q I 0) 1, by omega⟩
set_option maxHeartbeats 4000000 in
set_option maxRecDepth 100000 in
theorem w_pass_p (F : Fx p l s m #[Value.ref b] meth c cL_law 9 RL X) (hX : va_X b L xs s s.heap) (hbl : b < s.heap.size) (hbase : X.2.2.2 = s.heap.size) {i kk jc tc bt : Nat} {ln : Nat → Nat} (hi : i + 3 < L) (hL : L ≤ 2048) (hc : cells + 122 ≤ 601024) (hs : slots + 871 ≤ 7293034) (I : Inv (M 0) (M 2) (M 3) jc tc bt ln) (hbk : bt ≤ 200 * kk) (hkk : kk ≤ 512) {j : Nat} (hj : j < jc) (e1 : xs (i + 1) = nI j) (hx : (xs (i + 2) < 0 ∨ nI (ln j) ≤ xs (i + 2)))  (K : ∀ (M' : Mem) (lf' : Lf), LInv M' (kk + 1) → V p l e room_1 s m #[Value.ref b] below meth c Q X 9 [] (M') (lf') (cells + 122) (slots + 871) 1183 [(4, .int (nI i)), (3, .ref (X.2.1 6 0 0)), (2, .ref (X.2.1 2 0 0)), (1, .ref (X.2.1 5 0 0)), (0, .ref b)] []) : V p l e room_1 s m #[Value.ref b] below meth c Q X 9 [] (M) (lf) (cells) (slots) 260 [(4, .int (nI i)), (3, .ref (X.2.1 6 0 0)), (2, .ref (X.2.1 2 0 0)), (1, .ref (X.2.1 5 0 0)), (0, .ref b)] [] := by
  have G : Gx X l := ⟨F.2.2.1, F.2.2.2.2⟩
  refine v_aload_n F dL_law_260 rfl 3 rfl ?_
  refine v_aload_n F dL_law_261 rfl 4 rfl ?_
  refine v_iload F dL_law_262 0 rfl ?_
  refine v_iconst F (v := nI 1) dL_law_264 (by decide) ?_
  refine v_iadd F dL_law_265 ?_
  refine v_topr (nI (i + 1)) (nI_add i 1) ?_
  refine v_sld F hX hbl hbase (i + 1) (Ix_nI (by omega) (by omega)) dL_law_266 ?_
  refine v_topr (nI j) e1 ?_
  refine v_aload_n F dL_law_267 rfl 4 rfl ?_
  refine v_iload F dL_law_268 0 rfl ?_
  refine v_iconst F (v := nI 2) dL_law_270 (by decide) ?_
  refine v_iadd F dL_law_271 ?_
  refine v_topr (nI (i + 2)) (nI_add i 2) ?_
  refine v_sld F hX hbl hbase (i + 2) (Ix_nI (by omega) (by omega)) dL_law_272 ?_
  refine v_aload_n F dL_law_273 rfl 4 rfl ?_
  refine v_iload F dL_law_274 0 rfl ?_
  refine v_iconst F (v := nI 3) dL_law_276 (by decide) ?_
  refine v_iadd F dL_law_277 ?_
  refine v_topr (nI (i + 3)) (nI_add i 3) ?_
  refine v_sld F hX hbl hbase (i + 3) (Ix_nI (by omega) (by omega)) dL_law_278 ?_
  refine v_aload_n F dL_law_279 rfl 1 rfl ?_
  refine v_callSHi F (n := 5) (As := [_, _, _, _, _]) (rest := []) rfl (x_L_pass_q G I.1.1.1 hj hx) wc_L_pass wml_L_82 wst_L_pass wini_L (by decide +kernel) rfl ⟨rfl, rfl, Nat.le_of_ble_eq_true rfl, Nat.le_of_ble_eq_true rfl, rm1 hc (by exact Nat.le_of_ble_eq_true rfl), rm1 hs (by exact Nat.le_of_ble_eq_true rfl), Nat.le_of_ble_eq_true rfl⟩ dL_law_280 ?_
  refine v_istore F dL_law_283 (by decide) (lv' := [(5, .int _), (4, .int _), (3, .ref _), (2, .ref _), (1, .ref _), (0, .ref _)]) rfl ?_
  refine v_aload_n F dL_law_285 rfl 3 rfl ?_
  refine v_aload_n F dL_law_286 rfl 5 rfl ?_
  refine v_iload F dL_law_287 1 rfl ?_
  refine v_iconst F (v := nI 1) dL_law_289 (by decide) ?_
  refine v_iadd F dL_law_290 ?_
  refine v_topr (nI (i + 1)) (nI_add i 1) ?_
  refine v_sld F hX hbl hbase (i + 1) (Ix_nI (by omega) (by omega)) dL_law_291 ?_
  refine v_topr (nI j) e1 ?_
  refine v_aload_n F dL_law_292 rfl 5 rfl ?_
  refine v_iload F dL_law_293 1 rfl ?_
  refine v_iconst F (v := nI 2) dL_law_295 (by decide) ?_
  refine v_iadd F dL_law_296 ?_
  refine v_topr (nI (i + 2)) (nI_add i 2) ?_
  refine v_sld F hX hbl hbase (i + 2) (Ix_nI (by omega) (by omega)) dL_law_297 ?_
  refine v_aload_n F dL_law_298 rfl 5 rfl ?_
  refine v_iload F dL_law_299 1 rfl ?_
  refine v_iconst F (v := nI 3) dL_law_301 (by decide) ?_
  refine v_iadd F dL_law_302 ?_
  refine v_topr (nI (i + 3)) (nI_add i 3) ?_
  refine v_sld F hX hbl hbase (i + 3) (Ix_nI (by omega) (by omega)) dL_law_303 ?_
  refine v_callVi F (As := [_, _, _]) (rest := []) rfl (c_X6_pass_p (M := M) G I.1 hj hx) Rv_Q wm_L_84 rfl ⟨rfl, rfl, Nat.le_of_ble_eq_true rfl, Nat.le_of_ble_eq_true rfl, rm2 hc (by exact Nat.le_of_ble_eq_true rfl), rm2 hs (by exact Nat.le_of_ble_eq_true rfl), Nat.le_of_ble_eq_true rfl⟩ dL_law_304 ?_
  refine v_istore F dL_law_307 (by decide) (lv' := [(6, .int _), (5, .int _), (4, .int _), (3, .ref _), (2, .ref _), (1, .ref _), (0, .ref _)]) rfl ?_
  refine v_aload_n F dL_law_309 rfl 4 rfl ?_
  refine v_callVi F (As := []) (rest := []) rfl (c_X6_thrown G) Rv_Q wm_L_74 rfl ⟨rfl, rfl, Nat.le_of_ble_eq_true rfl, Nat.le_of_ble_eq_true rfl, rm3 hc (by exact Nat.le_of_ble_eq_true rfl), rm3 hs (by exact Nat.le_of_ble_eq_true rfl), Nat.le_of_ble_eq_true rfl⟩ dL_law_310 ?_
  refine v_topr (1) (show u3 (u3 (M 2) 0 0 0 0) 0 0 0 1 0 0 0 = 1 from u3_at _ _ _ _ _) ?_
  refine v_iload F dL_law_313 1 rfl ?_
  refine v_icmp_eq F (tgt := 320) dL_law_315 (by decide) (fun c315 => ?_) (fun h => absurd (rfl) h)
  refine v_iload F dL_law_320 1 rfl ?_
  refine v_if_ne F (tgt := 337) dL_law_322 (by decide) (fun c322 => ?_) (fun h => absurd h ((by decide)))
  refine v_goto F (tgt := 1183) dL_law_337 (by decide) ?_
  refine v_locs [2, 3, 4, 5, 6] rfl ?_
  refine v_widen (k := cells + 122) (n := slots + 871) (by omega) (by omega) ?_
  exact K _ _ ⟨_, _, _, _, Inv_q (Inv_q I 0) 1, by omega⟩
set_option maxHeartbeats 4000000 in
set_option maxRecDepth 100000 in
theorem w_pass_t (F : Fx p l s m #[Value.ref b] meth c cL_law 9 RL X) (hX : va_X b L xs s s.heap) (hbl : b < s.heap.size) (hbase : X.2.2.2 = s.heap.size) {i kk jc tc bt : Nat} {ln : Nat → Nat} (hi : i + 3 < L) (hL : L ≤ 2048) (hc : cells + 122 ≤ 601024) (hs : slots + 871 ≤ 7293034) (I : Inv (M 0) (M 2) (M 3) jc tc bt ln) (hbk : bt ≤ 200 * kk) (hkk : kk ≤ 512) {j z : Nat} (hj : j < jc) (hz : z < ln j) (e1 : xs (i + 1) = nI j) (e2 : xs (i + 2) = nI z) (hx : (xs (i + 3) < 0 ∨ nI jc ≤ xs (i + 3)))  (K : ∀ (M' : Mem) (lf' : Lf), LInv M' (kk + 1) → V p l e room_1 s m #[Value.ref b] below meth c Q X 9 [] (M') (lf') (cells + 122) (slots + 871) 1183 [(4, .int (nI i)), (3, .ref (X.2.1 6 0 0)), (2, .ref (X.2.1 2 0 0)), (1, .ref (X.2.1 5 0 0)), (0, .ref b)] []) : V p l e room_1 s m #[Value.ref b] below meth c Q X 9 [] (M) (lf) (cells) (slots) 260 [(4, .int (nI i)), (3, .ref (X.2.1 6 0 0)), (2, .ref (X.2.1 2 0 0)), (1, .ref (X.2.1 5 0 0)), (0, .ref b)] [] := by
  have G : Gx X l := ⟨F.2.2.1, F.2.2.2.2⟩
  refine v_aload_n F dL_law_260 rfl 3 rfl ?_
  refine v_aload_n F dL_law_261 rfl 4 rfl ?_
  refine v_iload F dL_law_262 0 rfl ?_
  refine v_iconst F (v := nI 1) dL_law_264 (by decide) ?_
  refine v_iadd F dL_law_265 ?_
  refine v_topr (nI (i + 1)) (nI_add i 1) ?_
  refine v_sld F hX hbl hbase (i + 1) (Ix_nI (by omega) (by omega)) dL_law_266 ?_
  refine v_topr (nI j) e1 ?_
  refine v_aload_n F dL_law_267 rfl 4 rfl ?_
  refine v_iload F dL_law_268 0 rfl ?_
  refine v_iconst F (v := nI 2) dL_law_270 (by decide) ?_
  refine v_iadd F dL_law_271 ?_
  refine v_topr (nI (i + 2)) (nI_add i 2) ?_
  refine v_sld F hX hbl hbase (i + 2) (Ix_nI (by omega) (by omega)) dL_law_272 ?_
  refine v_topr (nI z) e2 ?_
  refine v_aload_n F dL_law_273 rfl 4 rfl ?_
  refine v_iload F dL_law_274 0 rfl ?_
  refine v_iconst F (v := nI 3) dL_law_276 (by decide) ?_
  refine v_iadd F dL_law_277 ?_
  refine v_topr (nI (i + 3)) (nI_add i 3) ?_
  refine v_sld F hX hbl hbase (i + 3) (Ix_nI (by omega) (by omega)) dL_law_278 ?_
  refine v_aload_n F dL_law_279 rfl 1 rfl ?_
  refine v_callSHi F (n := 5) (As := [_, _, _, _, _]) (rest := []) rfl (x_L_pass_t G I.1.1.1 hj hz hx) wc_L_pass wml_L_82 wst_L_pass wini_L (by decide +kernel) rfl ⟨rfl, rfl, Nat.le_of_ble_eq_true rfl, Nat.le_of_ble_eq_true rfl, rm1 hc (by exact Nat.le_of_ble_eq_true rfl), rm1 hs (by exact Nat.le_of_ble_eq_true rfl), Nat.le_of_ble_eq_true rfl⟩ dL_law_280 ?_
  refine v_istore F dL_law_283 (by decide) (lv' := [(5, .int _), (4, .int _), (3, .ref _), (2, .ref _), (1, .ref _), (0, .ref _)]) rfl ?_
  refine v_aload_n F dL_law_285 rfl 3 rfl ?_
  refine v_aload_n F dL_law_286 rfl 5 rfl ?_
  refine v_iload F dL_law_287 1 rfl ?_
  refine v_iconst F (v := nI 1) dL_law_289 (by decide) ?_
  refine v_iadd F dL_law_290 ?_
  refine v_topr (nI (i + 1)) (nI_add i 1) ?_
  refine v_sld F hX hbl hbase (i + 1) (Ix_nI (by omega) (by omega)) dL_law_291 ?_
  refine v_topr (nI j) e1 ?_
  refine v_aload_n F dL_law_292 rfl 5 rfl ?_
  refine v_iload F dL_law_293 1 rfl ?_
  refine v_iconst F (v := nI 2) dL_law_295 (by decide) ?_
  refine v_iadd F dL_law_296 ?_
  refine v_topr (nI (i + 2)) (nI_add i 2) ?_
  refine v_sld F hX hbl hbase (i + 2) (Ix_nI (by omega) (by omega)) dL_law_297 ?_
  refine v_topr (nI z) e2 ?_
  refine v_aload_n F dL_law_298 rfl 5 rfl ?_
  refine v_iload F dL_law_299 1 rfl ?_
  refine v_iconst F (v := nI 3) dL_law_301 (by decide) ?_
  refine v_iadd F dL_law_302 ?_
  refine v_topr (nI (i + 3)) (nI_add i 3) ?_
  refine v_sld F hX hbl hbase (i + 3) (Ix_nI (by omega) (by omega)) dL_law_303 ?_
  refine v_callVi F (As := [_, _, _]) (rest := []) rfl (c_X6_pass_t (M := M) G I.1 hj hz hx) Rv_Q wm_L_84 rfl ⟨rfl, rfl, Nat.le_of_ble_eq_true rfl, Nat.le_of_ble_eq_true rfl, rm2 hc (by exact Nat.le_of_ble_eq_true rfl), rm2 hs (by exact Nat.le_of_ble_eq_true rfl), Nat.le_of_ble_eq_true rfl⟩ dL_law_304 ?_
  refine v_istore F dL_law_307 (by decide) (lv' := [(6, .int _), (5, .int _), (4, .int _), (3, .ref _), (2, .ref _), (1, .ref _), (0, .ref _)]) rfl ?_
  refine v_aload_n F dL_law_309 rfl 4 rfl ?_
  refine v_callVi F (As := []) (rest := []) rfl (c_X6_thrown G) Rv_Q wm_L_74 rfl ⟨rfl, rfl, Nat.le_of_ble_eq_true rfl, Nat.le_of_ble_eq_true rfl, rm3 hc (by exact Nat.le_of_ble_eq_true rfl), rm3 hs (by exact Nat.le_of_ble_eq_true rfl), Nat.le_of_ble_eq_true rfl⟩ dL_law_310 ?_
  refine v_topr (1) (show u3 (u3 (M 2) 0 0 0 0) 0 0 0 1 0 0 0 = 1 from u3_at _ _ _ _ _) ?_
  refine v_iload F dL_law_313 1 rfl ?_
  refine v_icmp_eq F (tgt := 320) dL_law_315 (by decide) (fun c315 => ?_) (fun h => absurd (rfl) h)
  refine v_iload F dL_law_320 1 rfl ?_
  refine v_if_ne F (tgt := 337) dL_law_322 (by decide) (fun c322 => ?_) (fun h => absurd h ((by decide)))
  refine v_goto F (tgt := 1183) dL_law_337 (by decide) ?_
  refine v_locs [2, 3, 4, 5, 6] rfl ?_
  refine v_widen (k := cells + 122) (n := slots + 871) (by omega) (by omega) ?_
  exact K _ _ ⟨_, _, _, _, Inv_q (Inv_q I 0) 1, by omega⟩
set_option maxHeartbeats 4000000 in
set_option maxRecDepth 100000 in
theorem w_written_0 (F : Fx p l s m #[Value.ref b] meth c cL_law 9 RL X) (hX : va_X b L xs s s.heap) (hbl : b < s.heap.size) (hbase : X.2.2.2 = s.heap.size) {i kk jc tc bt : Nat} {ln : Nat → Nat} (hi : i + 3 < L) (hL : L ≤ 2048) (hc : cells + 122 ≤ 601024) (hs : slots + 871 ≤ 7293034) (I : Inv (M 0) (M 2) (M 3) jc tc bt ln) (hbk : bt ≤ 200 * kk) (hkk : kk ≤ 512) {j z : Nat} (hj : j < jc) (hz : z < ln j) (e1 : xs (i + 1) = nI j) (e2 : xs (i + 2) = nI z) (e3 : xs (i + 3) = nI 0)  (K : ∀ (M' : Mem) (lf' : Lf), LInv M' (kk + 1) → V p l e room_1 s m #[Value.ref b] below meth c Q X 9 [] (M') (lf') (cells + 122) (slots + 871) 1183 [(4, .int (nI i)), (3, .ref (X.2.1 6 0 0)), (2, .ref (X.2.1 2 0 0)), (1, .ref (X.2.1 5 0 0)), (0, .ref b)] []) : V p l e room_1 s m #[Value.ref b] below meth c Q X 9 [] (M) (lf) (cells) (slots) 340 [(4, .int (nI i)), (3, .ref (X.2.1 6 0 0)), (2, .ref (X.2.1 2 0 0)), (1, .ref (X.2.1 5 0 0)), (0, .ref b)] [] := by
  have G : Gx X l := ⟨F.2.2.1, F.2.2.2.2⟩
  refine v_aload_n F dL_law_340 rfl 3 rfl ?_
  refine v_aload_n F dL_law_341 rfl 4 rfl ?_
  refine v_iload F dL_law_342 0 rfl ?_
  refine v_iconst F (v := nI 1) dL_law_344 (by decide) ?_
  refine v_iadd F dL_law_345 ?_
  refine v_topr (nI (i + 1)) (nI_add i 1) ?_
  refine v_sld F hX hbl hbase (i + 1) (Ix_nI (by omega) (by omega)) dL_law_346 ?_
  refine v_topr (nI j) e1 ?_
  refine v_aload_n F dL_law_347 rfl 4 rfl ?_
  refine v_iload F dL_law_348 0 rfl ?_
  refine v_iconst F (v := nI 2) dL_law_350 (by decide) ?_
  refine v_iadd F dL_law_351 ?_
  refine v_topr (nI (i + 2)) (nI_add i 2) ?_
  refine v_sld F hX hbl hbase (i + 2) (Ix_nI (by omega) (by omega)) dL_law_352 ?_
  refine v_topr (nI z) e2 ?_
  refine v_aload_n F dL_law_353 rfl 4 rfl ?_
  refine v_iload F dL_law_354 0 rfl ?_
  refine v_iconst F (v := nI 3) dL_law_356 (by decide) ?_
  refine v_iadd F dL_law_357 ?_
  refine v_topr (nI (i + 3)) (nI_add i 3) ?_
  refine v_sld F hX hbl hbase (i + 3) (Ix_nI (by omega) (by omega)) dL_law_358 ?_
  refine v_topr (nI 0) e3 ?_
  refine v_aload_n F dL_law_359 rfl 1 rfl ?_
  refine v_callSHi F (n := 5) (As := [_, _, _, _, _]) (rest := []) rfl (c_L_written_0 G I.1.1.1 hj hz) wc_L_written wml_L_85 wst_L_written wini_L (by decide +kernel) rfl ⟨rfl, rfl, Nat.le_of_ble_eq_true rfl, Nat.le_of_ble_eq_true rfl, rm1 hc (by exact Nat.le_of_ble_eq_true rfl), rm1 hs (by exact Nat.le_of_ble_eq_true rfl), Nat.le_of_ble_eq_true rfl⟩ dL_law_360 ?_
  refine v_istore F dL_law_363 (by decide) (lv' := [(5, .int _), (4, .int _), (3, .ref _), (2, .ref _), (1, .ref _), (0, .ref _)]) rfl ?_
  refine v_aload_n F dL_law_365 rfl 3 rfl ?_
  refine v_aload_n F dL_law_366 rfl 5 rfl ?_
  refine v_iload F dL_law_367 1 rfl ?_
  refine v_iconst F (v := nI 1) dL_law_369 (by decide) ?_
  refine v_iadd F dL_law_370 ?_
  refine v_topr (nI (i + 1)) (nI_add i 1) ?_
  refine v_sld F hX hbl hbase (i + 1) (Ix_nI (by omega) (by omega)) dL_law_371 ?_
  refine v_topr (nI j) e1 ?_
  refine v_aload_n F dL_law_372 rfl 5 rfl ?_
  refine v_iload F dL_law_373 1 rfl ?_
  refine v_iconst F (v := nI 2) dL_law_375 (by decide) ?_
  refine v_iadd F dL_law_376 ?_
  refine v_topr (nI (i + 2)) (nI_add i 2) ?_
  refine v_sld F hX hbl hbase (i + 2) (Ix_nI (by omega) (by omega)) dL_law_377 ?_
  refine v_topr (nI z) e2 ?_
  refine v_aload_n F dL_law_378 rfl 5 rfl ?_
  refine v_iload F dL_law_379 1 rfl ?_
  refine v_iconst F (v := nI 3) dL_law_381 (by decide) ?_
  refine v_iadd F dL_law_382 ?_
  refine v_topr (nI (i + 3)) (nI_add i 3) ?_
  refine v_sld F hX hbl hbase (i + 3) (Ix_nI (by omega) (by omega)) dL_law_383 ?_
  refine v_topr (nI 0) e3 ?_
  refine v_callVi F (As := [_, _, _]) (rest := []) rfl (c_X6_written_0 (M := M) G I.1 hj hz) Rv_Q wm_L_87 rfl ⟨rfl, rfl, Nat.le_of_ble_eq_true rfl, Nat.le_of_ble_eq_true rfl, rm2 hc (by exact Nat.le_of_ble_eq_true rfl), rm2 hs (by exact Nat.le_of_ble_eq_true rfl), Nat.le_of_ble_eq_true rfl⟩ dL_law_384 ?_
  refine v_istore F dL_law_387 (by decide) (lv' := [(6, .int _), (5, .int _), (4, .int _), (3, .ref _), (2, .ref _), (1, .ref _), (0, .ref _)]) rfl ?_
  refine v_aload_n F dL_law_389 rfl 4 rfl ?_
  refine v_callVi F (As := []) (rest := []) rfl (c_X6_thrown G) Rv_Q wm_L_74 rfl ⟨rfl, rfl, Nat.le_of_ble_eq_true rfl, Nat.le_of_ble_eq_true rfl, rm3 hc (by exact Nat.le_of_ble_eq_true rfl), rm3 hs (by exact Nat.le_of_ble_eq_true rfl), Nat.le_of_ble_eq_true rfl⟩ dL_law_390 ?_
  refine v_topr (0) (show (u3 (M 2) 0 0 0 0) 0 0 0 = 0 from u3_at _ _ _ _ _) ?_
  refine v_iload F dL_law_393 1 rfl ?_
  refine v_icmp_eq F (tgt := 400) dL_law_395 (by decide) (fun c395 => ?_) (fun h => absurd (rfl) h)
  refine v_iload F dL_law_400 1 rfl ?_
  refine v_if_ne F (tgt := 417) dL_law_402 (by decide) (fun h => absurd (rfl) h) (fun c402 => ?_)
  refine v_aload_n F dL_law_405 rfl 3 rfl ?_
  refine v_iconst F (v := 0) dL_law_406 (by decide) ?_
  refine v_lald F ⟨by decide, by decide, by decide⟩ dL_law_407 ?_
  refine v_toprl ((M 0 4 j z).toInt64) pk_uLs ?_
  refine v_iload F dL_law_408 0 rfl ?_
  refine v_i2l F dL_law_410 ?_
  refine v_lcmp F dL_law_411 ?_
  refine v_if_eq F (tgt := 417) dL_law_412 (by decide) (fun c412 => ?_) (fun h => absurd ((lg_self _)) h)
  refine v_goto F (tgt := 1183) dL_law_417 (by decide) ?_
  refine v_locs [2, 3, 4, 5, 6] rfl ?_
  refine v_widen (k := cells + 122) (n := slots + 871) (by omega) (by omega) ?_
  exact K _ _ ⟨_, _, _, _, Inv_q I 0, by omega⟩
set_option maxHeartbeats 4000000 in
set_option maxRecDepth 100000 in
theorem w_written_1 (F : Fx p l s m #[Value.ref b] meth c cL_law 9 RL X) (hX : va_X b L xs s s.heap) (hbl : b < s.heap.size) (hbase : X.2.2.2 = s.heap.size) {i kk jc tc bt : Nat} {ln : Nat → Nat} (hi : i + 3 < L) (hL : L ≤ 2048) (hc : cells + 122 ≤ 601024) (hs : slots + 871 ≤ 7293034) (I : Inv (M 0) (M 2) (M 3) jc tc bt ln) (hbk : bt ≤ 200 * kk) (hkk : kk ≤ 512) {j z : Nat} (hj : j < jc) (hz : z < ln j) (e1 : xs (i + 1) = nI j) (e2 : xs (i + 2) = nI z) (e3 : xs (i + 3) = nI 1)  (K : ∀ (M' : Mem) (lf' : Lf), LInv M' (kk + 1) → V p l e room_1 s m #[Value.ref b] below meth c Q X 9 [] (M') (lf') (cells + 122) (slots + 871) 1183 [(4, .int (nI i)), (3, .ref (X.2.1 6 0 0)), (2, .ref (X.2.1 2 0 0)), (1, .ref (X.2.1 5 0 0)), (0, .ref b)] []) : V p l e room_1 s m #[Value.ref b] below meth c Q X 9 [] (M) (lf) (cells) (slots) 340 [(4, .int (nI i)), (3, .ref (X.2.1 6 0 0)), (2, .ref (X.2.1 2 0 0)), (1, .ref (X.2.1 5 0 0)), (0, .ref b)] [] := by
  have G : Gx X l := ⟨F.2.2.1, F.2.2.2.2⟩
  refine v_aload_n F dL_law_340 rfl 3 rfl ?_
  refine v_aload_n F dL_law_341 rfl 4 rfl ?_
  refine v_iload F dL_law_342 0 rfl ?_
  refine v_iconst F (v := nI 1) dL_law_344 (by decide) ?_
  refine v_iadd F dL_law_345 ?_
  refine v_topr (nI (i + 1)) (nI_add i 1) ?_
  refine v_sld F hX hbl hbase (i + 1) (Ix_nI (by omega) (by omega)) dL_law_346 ?_
  refine v_topr (nI j) e1 ?_
  refine v_aload_n F dL_law_347 rfl 4 rfl ?_
  refine v_iload F dL_law_348 0 rfl ?_
  refine v_iconst F (v := nI 2) dL_law_350 (by decide) ?_
  refine v_iadd F dL_law_351 ?_
  refine v_topr (nI (i + 2)) (nI_add i 2) ?_
  refine v_sld F hX hbl hbase (i + 2) (Ix_nI (by omega) (by omega)) dL_law_352 ?_
  refine v_topr (nI z) e2 ?_
  refine v_aload_n F dL_law_353 rfl 4 rfl ?_
  refine v_iload F dL_law_354 0 rfl ?_
  refine v_iconst F (v := nI 3) dL_law_356 (by decide) ?_
  refine v_iadd F dL_law_357 ?_
  refine v_topr (nI (i + 3)) (nI_add i 3) ?_
  refine v_sld F hX hbl hbase (i + 3) (Ix_nI (by omega) (by omega)) dL_law_358 ?_
  refine v_topr (nI 1) e3 ?_
  refine v_aload_n F dL_law_359 rfl 1 rfl ?_
  refine v_callSHi F (n := 5) (As := [_, _, _, _, _]) (rest := []) rfl (c_L_written_1 G I.1.1.1 hj hz) wc_L_written wml_L_85 wst_L_written wini_L (by decide +kernel) rfl ⟨rfl, rfl, Nat.le_of_ble_eq_true rfl, Nat.le_of_ble_eq_true rfl, rm1 hc (by exact Nat.le_of_ble_eq_true rfl), rm1 hs (by exact Nat.le_of_ble_eq_true rfl), Nat.le_of_ble_eq_true rfl⟩ dL_law_360 ?_
  refine v_istore F dL_law_363 (by decide) (lv' := [(5, .int _), (4, .int _), (3, .ref _), (2, .ref _), (1, .ref _), (0, .ref _)]) rfl ?_
  refine v_aload_n F dL_law_365 rfl 3 rfl ?_
  refine v_aload_n F dL_law_366 rfl 5 rfl ?_
  refine v_iload F dL_law_367 1 rfl ?_
  refine v_iconst F (v := nI 1) dL_law_369 (by decide) ?_
  refine v_iadd F dL_law_370 ?_
  refine v_topr (nI (i + 1)) (nI_add i 1) ?_
  refine v_sld F hX hbl hbase (i + 1) (Ix_nI (by omega) (by omega)) dL_law_371 ?_
  refine v_topr (nI j) e1 ?_
  refine v_aload_n F dL_law_372 rfl 5 rfl ?_
  refine v_iload F dL_law_373 1 rfl ?_
  refine v_iconst F (v := nI 2) dL_law_375 (by decide) ?_
  refine v_iadd F dL_law_376 ?_
  refine v_topr (nI (i + 2)) (nI_add i 2) ?_
  refine v_sld F hX hbl hbase (i + 2) (Ix_nI (by omega) (by omega)) dL_law_377 ?_
  refine v_topr (nI z) e2 ?_
  refine v_aload_n F dL_law_378 rfl 5 rfl ?_
  refine v_iload F dL_law_379 1 rfl ?_
  refine v_iconst F (v := nI 3) dL_law_381 (by decide) ?_
  refine v_iadd F dL_law_382 ?_
  refine v_topr (nI (i + 3)) (nI_add i 3) ?_
  refine v_sld F hX hbl hbase (i + 3) (Ix_nI (by omega) (by omega)) dL_law_383 ?_
  refine v_topr (nI 1) e3 ?_
  refine v_callVi F (As := [_, _, _]) (rest := []) rfl (c_X6_written_1 (M := M) G I.1 hj hz) Rv_Q wm_L_87 rfl ⟨rfl, rfl, Nat.le_of_ble_eq_true rfl, Nat.le_of_ble_eq_true rfl, rm2 hc (by exact Nat.le_of_ble_eq_true rfl), rm2 hs (by exact Nat.le_of_ble_eq_true rfl), Nat.le_of_ble_eq_true rfl⟩ dL_law_384 ?_
  refine v_istore F dL_law_387 (by decide) (lv' := [(6, .int _), (5, .int _), (4, .int _), (3, .ref _), (2, .ref _), (1, .ref _), (0, .ref _)]) rfl ?_
  refine v_aload_n F dL_law_389 rfl 4 rfl ?_
  refine v_callVi F (As := []) (rest := []) rfl (c_X6_thrown G) Rv_Q wm_L_74 rfl ⟨rfl, rfl, Nat.le_of_ble_eq_true rfl, Nat.le_of_ble_eq_true rfl, rm3 hc (by exact Nat.le_of_ble_eq_true rfl), rm3 hs (by exact Nat.le_of_ble_eq_true rfl), Nat.le_of_ble_eq_true rfl⟩ dL_law_390 ?_
  refine v_topr (0) (show (u3 (M 2) 0 0 0 0) 0 0 0 = 0 from u3_at _ _ _ _ _) ?_
  refine v_iload F dL_law_393 1 rfl ?_
  refine v_icmp_eq F (tgt := 400) dL_law_395 (by decide) (fun c395 => ?_) (fun h => absurd (rfl) h)
  refine v_iload F dL_law_400 1 rfl ?_
  refine v_if_ne F (tgt := 417) dL_law_402 (by decide) (fun h => absurd (rfl) h) (fun c402 => ?_)
  refine v_aload_n F dL_law_405 rfl 3 rfl ?_
  refine v_iconst F (v := 0) dL_law_406 (by decide) ?_
  refine v_lald F ⟨by decide, by decide, by decide⟩ dL_law_407 ?_
  refine v_toprl ((M 0 5 j z).toInt64) pk_uLs ?_
  refine v_iload F dL_law_408 0 rfl ?_
  refine v_i2l F dL_law_410 ?_
  refine v_lcmp F dL_law_411 ?_
  refine v_if_eq F (tgt := 417) dL_law_412 (by decide) (fun c412 => ?_) (fun h => absurd ((lg_self _)) h)
  refine v_goto F (tgt := 1183) dL_law_417 (by decide) ?_
  refine v_locs [2, 3, 4, 5, 6] rfl ?_
  refine v_widen (k := cells + 122) (n := slots + 871) (by omega) (by omega) ?_
  exact K _ _ ⟨_, _, _, _, Inv_q I 0, by omega⟩
set_option maxHeartbeats 4000000 in
set_option maxRecDepth 100000 in
theorem w_written_j (F : Fx p l s m #[Value.ref b] meth c cL_law 9 RL X) (hX : va_X b L xs s s.heap) (hbl : b < s.heap.size) (hbase : X.2.2.2 = s.heap.size) {i kk jc tc bt : Nat} {ln : Nat → Nat} (hi : i + 3 < L) (hL : L ≤ 2048) (hc : cells + 122 ≤ 601024) (hs : slots + 871 ≤ 7293034) (I : Inv (M 0) (M 2) (M 3) jc tc bt ln) (hbk : bt ≤ 200 * kk) (hkk : kk ≤ 512) (hx : (xs (i + 1) < 0 ∨ nI jc ≤ xs (i + 1)))  (K : ∀ (M' : Mem) (lf' : Lf), LInv M' (kk + 1) → V p l e room_1 s m #[Value.ref b] below meth c Q X 9 [] (M') (lf') (cells + 122) (slots + 871) 1183 [(4, .int (nI i)), (3, .ref (X.2.1 6 0 0)), (2, .ref (X.2.1 2 0 0)), (1, .ref (X.2.1 5 0 0)), (0, .ref b)] []) : V p l e room_1 s m #[Value.ref b] below meth c Q X 9 [] (M) (lf) (cells) (slots) 340 [(4, .int (nI i)), (3, .ref (X.2.1 6 0 0)), (2, .ref (X.2.1 2 0 0)), (1, .ref (X.2.1 5 0 0)), (0, .ref b)] [] := by
  have G : Gx X l := ⟨F.2.2.1, F.2.2.2.2⟩
  refine v_aload_n F dL_law_340 rfl 3 rfl ?_
  refine v_aload_n F dL_law_341 rfl 4 rfl ?_
  refine v_iload F dL_law_342 0 rfl ?_
  refine v_iconst F (v := nI 1) dL_law_344 (by decide) ?_
  refine v_iadd F dL_law_345 ?_
  refine v_topr (nI (i + 1)) (nI_add i 1) ?_
  refine v_sld F hX hbl hbase (i + 1) (Ix_nI (by omega) (by omega)) dL_law_346 ?_
  refine v_aload_n F dL_law_347 rfl 4 rfl ?_
  refine v_iload F dL_law_348 0 rfl ?_
  refine v_iconst F (v := nI 2) dL_law_350 (by decide) ?_
  refine v_iadd F dL_law_351 ?_
  refine v_topr (nI (i + 2)) (nI_add i 2) ?_
  refine v_sld F hX hbl hbase (i + 2) (Ix_nI (by omega) (by omega)) dL_law_352 ?_
  refine v_aload_n F dL_law_353 rfl 4 rfl ?_
  refine v_iload F dL_law_354 0 rfl ?_
  refine v_iconst F (v := nI 3) dL_law_356 (by decide) ?_
  refine v_iadd F dL_law_357 ?_
  refine v_topr (nI (i + 3)) (nI_add i 3) ?_
  refine v_sld F hX hbl hbase (i + 3) (Ix_nI (by omega) (by omega)) dL_law_358 ?_
  refine v_aload_n F dL_law_359 rfl 1 rfl ?_
  refine v_callSHi F (n := 5) (As := [_, _, _, _, _]) (rest := []) rfl (x_L_written_j G I.1.1.1 hx) wc_L_written wml_L_85 wst_L_written wini_L (by decide +kernel) rfl ⟨rfl, rfl, Nat.le_of_ble_eq_true rfl, Nat.le_of_ble_eq_true rfl, rm1 hc (by exact Nat.le_of_ble_eq_true rfl), rm1 hs (by exact Nat.le_of_ble_eq_true rfl), Nat.le_of_ble_eq_true rfl⟩ dL_law_360 ?_
  refine v_istore F dL_law_363 (by decide) (lv' := [(5, .int _), (4, .int _), (3, .ref _), (2, .ref _), (1, .ref _), (0, .ref _)]) rfl ?_
  refine v_aload_n F dL_law_365 rfl 3 rfl ?_
  refine v_aload_n F dL_law_366 rfl 5 rfl ?_
  refine v_iload F dL_law_367 1 rfl ?_
  refine v_iconst F (v := nI 1) dL_law_369 (by decide) ?_
  refine v_iadd F dL_law_370 ?_
  refine v_topr (nI (i + 1)) (nI_add i 1) ?_
  refine v_sld F hX hbl hbase (i + 1) (Ix_nI (by omega) (by omega)) dL_law_371 ?_
  refine v_aload_n F dL_law_372 rfl 5 rfl ?_
  refine v_iload F dL_law_373 1 rfl ?_
  refine v_iconst F (v := nI 2) dL_law_375 (by decide) ?_
  refine v_iadd F dL_law_376 ?_
  refine v_topr (nI (i + 2)) (nI_add i 2) ?_
  refine v_sld F hX hbl hbase (i + 2) (Ix_nI (by omega) (by omega)) dL_law_377 ?_
  refine v_aload_n F dL_law_378 rfl 5 rfl ?_
  refine v_iload F dL_law_379 1 rfl ?_
  refine v_iconst F (v := nI 3) dL_law_381 (by decide) ?_
  refine v_iadd F dL_law_382 ?_
  refine v_topr (nI (i + 3)) (nI_add i 3) ?_
  refine v_sld F hX hbl hbase (i + 3) (Ix_nI (by omega) (by omega)) dL_law_383 ?_
  refine v_callVi F (As := [_, _, _]) (rest := []) rfl (c_X6_written_j (M := M) G I.1 hx) Rv_Q wm_L_87 rfl ⟨rfl, rfl, Nat.le_of_ble_eq_true rfl, Nat.le_of_ble_eq_true rfl, rm2 hc (by exact Nat.le_of_ble_eq_true rfl), rm2 hs (by exact Nat.le_of_ble_eq_true rfl), Nat.le_of_ble_eq_true rfl⟩ dL_law_384 ?_
  refine v_istore F dL_law_387 (by decide) (lv' := [(6, .int _), (5, .int _), (4, .int _), (3, .ref _), (2, .ref _), (1, .ref _), (0, .ref _)]) rfl ?_
  refine v_aload_n F dL_law_389 rfl 4 rfl ?_
  refine v_callVi F (As := []) (rest := []) rfl (c_X6_thrown G) Rv_Q wm_L_74 rfl ⟨rfl, rfl, Nat.le_of_ble_eq_true rfl, Nat.le_of_ble_eq_true rfl, rm3 hc (by exact Nat.le_of_ble_eq_true rfl), rm3 hs (by exact Nat.le_of_ble_eq_true rfl), Nat.le_of_ble_eq_true rfl⟩ dL_law_390 ?_
  refine v_topr (1) (show u3 (u3 (M 2) 0 0 0 0) 0 0 0 1 0 0 0 = 1 from u3_at _ _ _ _ _) ?_
  refine v_iload F dL_law_393 1 rfl ?_
  refine v_icmp_eq F (tgt := 400) dL_law_395 (by decide) (fun c395 => ?_) (fun h => absurd (rfl) h)
  refine v_iload F dL_law_400 1 rfl ?_
  refine v_if_ne F (tgt := 417) dL_law_402 (by decide) (fun c402 => ?_) (fun h => absurd h ((by decide)))
  refine v_goto F (tgt := 1183) dL_law_417 (by decide) ?_
  refine v_locs [2, 3, 4, 5, 6] rfl ?_
  refine v_widen (k := cells + 122) (n := slots + 871) (by omega) (by omega) ?_
  exact K _ _ ⟨_, _, _, _, Inv_q (Inv_q I 0) 1, by omega⟩
set_option maxHeartbeats 4000000 in
set_option maxRecDepth 100000 in
theorem w_written_p (F : Fx p l s m #[Value.ref b] meth c cL_law 9 RL X) (hX : va_X b L xs s s.heap) (hbl : b < s.heap.size) (hbase : X.2.2.2 = s.heap.size) {i kk jc tc bt : Nat} {ln : Nat → Nat} (hi : i + 3 < L) (hL : L ≤ 2048) (hc : cells + 122 ≤ 601024) (hs : slots + 871 ≤ 7293034) (I : Inv (M 0) (M 2) (M 3) jc tc bt ln) (hbk : bt ≤ 200 * kk) (hkk : kk ≤ 512) {j : Nat} (hj : j < jc) (e1 : xs (i + 1) = nI j) (hx : (xs (i + 2) < 0 ∨ nI (ln j) ≤ xs (i + 2)))  (K : ∀ (M' : Mem) (lf' : Lf), LInv M' (kk + 1) → V p l e room_1 s m #[Value.ref b] below meth c Q X 9 [] (M') (lf') (cells + 122) (slots + 871) 1183 [(4, .int (nI i)), (3, .ref (X.2.1 6 0 0)), (2, .ref (X.2.1 2 0 0)), (1, .ref (X.2.1 5 0 0)), (0, .ref b)] []) : V p l e room_1 s m #[Value.ref b] below meth c Q X 9 [] (M) (lf) (cells) (slots) 340 [(4, .int (nI i)), (3, .ref (X.2.1 6 0 0)), (2, .ref (X.2.1 2 0 0)), (1, .ref (X.2.1 5 0 0)), (0, .ref b)] [] := by
  have G : Gx X l := ⟨F.2.2.1, F.2.2.2.2⟩
  refine v_aload_n F dL_law_340 rfl 3 rfl ?_
  refine v_aload_n F dL_law_341 rfl 4 rfl ?_
  refine v_iload F dL_law_342 0 rfl ?_
  refine v_iconst F (v := nI 1) dL_law_344 (by decide) ?_
  refine v_iadd F dL_law_345 ?_
  refine v_topr (nI (i + 1)) (nI_add i 1) ?_
  refine v_sld F hX hbl hbase (i + 1) (Ix_nI (by omega) (by omega)) dL_law_346 ?_
  refine v_topr (nI j) e1 ?_
  refine v_aload_n F dL_law_347 rfl 4 rfl ?_
  refine v_iload F dL_law_348 0 rfl ?_
  refine v_iconst F (v := nI 2) dL_law_350 (by decide) ?_
  refine v_iadd F dL_law_351 ?_
  refine v_topr (nI (i + 2)) (nI_add i 2) ?_
  refine v_sld F hX hbl hbase (i + 2) (Ix_nI (by omega) (by omega)) dL_law_352 ?_
  refine v_aload_n F dL_law_353 rfl 4 rfl ?_
  refine v_iload F dL_law_354 0 rfl ?_
  refine v_iconst F (v := nI 3) dL_law_356 (by decide) ?_
  refine v_iadd F dL_law_357 ?_
  refine v_topr (nI (i + 3)) (nI_add i 3) ?_
  refine v_sld F hX hbl hbase (i + 3) (Ix_nI (by omega) (by omega)) dL_law_358 ?_
  refine v_aload_n F dL_law_359 rfl 1 rfl ?_
  refine v_callSHi F (n := 5) (As := [_, _, _, _, _]) (rest := []) rfl (x_L_written_q G I.1.1.1 hj hx) wc_L_written wml_L_85 wst_L_written wini_L (by decide +kernel) rfl ⟨rfl, rfl, Nat.le_of_ble_eq_true rfl, Nat.le_of_ble_eq_true rfl, rm1 hc (by exact Nat.le_of_ble_eq_true rfl), rm1 hs (by exact Nat.le_of_ble_eq_true rfl), Nat.le_of_ble_eq_true rfl⟩ dL_law_360 ?_
  refine v_istore F dL_law_363 (by decide) (lv' := [(5, .int _), (4, .int _), (3, .ref _), (2, .ref _), (1, .ref _), (0, .ref _)]) rfl ?_
  refine v_aload_n F dL_law_365 rfl 3 rfl ?_
  refine v_aload_n F dL_law_366 rfl 5 rfl ?_
  refine v_iload F dL_law_367 1 rfl ?_
  refine v_iconst F (v := nI 1) dL_law_369 (by decide) ?_
  refine v_iadd F dL_law_370 ?_
  refine v_topr (nI (i + 1)) (nI_add i 1) ?_
  refine v_sld F hX hbl hbase (i + 1) (Ix_nI (by omega) (by omega)) dL_law_371 ?_
  refine v_topr (nI j) e1 ?_
  refine v_aload_n F dL_law_372 rfl 5 rfl ?_
  refine v_iload F dL_law_373 1 rfl ?_
  refine v_iconst F (v := nI 2) dL_law_375 (by decide) ?_
  refine v_iadd F dL_law_376 ?_
  refine v_topr (nI (i + 2)) (nI_add i 2) ?_
  refine v_sld F hX hbl hbase (i + 2) (Ix_nI (by omega) (by omega)) dL_law_377 ?_
  refine v_aload_n F dL_law_378 rfl 5 rfl ?_
  refine v_iload F dL_law_379 1 rfl ?_
  refine v_iconst F (v := nI 3) dL_law_381 (by decide) ?_
  refine v_iadd F dL_law_382 ?_
  refine v_topr (nI (i + 3)) (nI_add i 3) ?_
  refine v_sld F hX hbl hbase (i + 3) (Ix_nI (by omega) (by omega)) dL_law_383 ?_
  refine v_callVi F (As := [_, _, _]) (rest := []) rfl (c_X6_written_p (M := M) G I.1 hj hx) Rv_Q wm_L_87 rfl ⟨rfl, rfl, Nat.le_of_ble_eq_true rfl, Nat.le_of_ble_eq_true rfl, rm2 hc (by exact Nat.le_of_ble_eq_true rfl), rm2 hs (by exact Nat.le_of_ble_eq_true rfl), Nat.le_of_ble_eq_true rfl⟩ dL_law_384 ?_
  refine v_istore F dL_law_387 (by decide) (lv' := [(6, .int _), (5, .int _), (4, .int _), (3, .ref _), (2, .ref _), (1, .ref _), (0, .ref _)]) rfl ?_
  refine v_aload_n F dL_law_389 rfl 4 rfl ?_
  refine v_callVi F (As := []) (rest := []) rfl (c_X6_thrown G) Rv_Q wm_L_74 rfl ⟨rfl, rfl, Nat.le_of_ble_eq_true rfl, Nat.le_of_ble_eq_true rfl, rm3 hc (by exact Nat.le_of_ble_eq_true rfl), rm3 hs (by exact Nat.le_of_ble_eq_true rfl), Nat.le_of_ble_eq_true rfl⟩ dL_law_390 ?_
  refine v_topr (1) (show u3 (u3 (M 2) 0 0 0 0) 0 0 0 1 0 0 0 = 1 from u3_at _ _ _ _ _) ?_
  refine v_iload F dL_law_393 1 rfl ?_
  refine v_icmp_eq F (tgt := 400) dL_law_395 (by decide) (fun c395 => ?_) (fun h => absurd (rfl) h)
  refine v_iload F dL_law_400 1 rfl ?_
  refine v_if_ne F (tgt := 417) dL_law_402 (by decide) (fun c402 => ?_) (fun h => absurd h ((by decide)))
  refine v_goto F (tgt := 1183) dL_law_417 (by decide) ?_
  refine v_locs [2, 3, 4, 5, 6] rfl ?_
  refine v_widen (k := cells + 122) (n := slots + 871) (by omega) (by omega) ?_
  exact K _ _ ⟨_, _, _, _, Inv_q (Inv_q I 0) 1, by omega⟩
set_option maxHeartbeats 4000000 in
set_option maxRecDepth 100000 in
theorem w_written_w (F : Fx p l s m #[Value.ref b] meth c cL_law 9 RL X) (hX : va_X b L xs s s.heap) (hbl : b < s.heap.size) (hbase : X.2.2.2 = s.heap.size) {i kk jc tc bt : Nat} {ln : Nat → Nat} (hi : i + 3 < L) (hL : L ≤ 2048) (hc : cells + 122 ≤ 601024) (hs : slots + 871 ≤ 7293034) (I : Inv (M 0) (M 2) (M 3) jc tc bt ln) (hbk : bt ≤ 200 * kk) (hkk : kk ≤ 512) {j z : Nat} (hj : j < jc) (hz : z < ln j) (e1 : xs (i + 1) = nI j) (e2 : xs (i + 2) = nI z) (hx : (xs (i + 3) < 0 ∨ nI 2 ≤ xs (i + 3)))  (K : ∀ (M' : Mem) (lf' : Lf), LInv M' (kk + 1) → V p l e room_1 s m #[Value.ref b] below meth c Q X 9 [] (M') (lf') (cells + 122) (slots + 871) 1183 [(4, .int (nI i)), (3, .ref (X.2.1 6 0 0)), (2, .ref (X.2.1 2 0 0)), (1, .ref (X.2.1 5 0 0)), (0, .ref b)] []) : V p l e room_1 s m #[Value.ref b] below meth c Q X 9 [] (M) (lf) (cells) (slots) 340 [(4, .int (nI i)), (3, .ref (X.2.1 6 0 0)), (2, .ref (X.2.1 2 0 0)), (1, .ref (X.2.1 5 0 0)), (0, .ref b)] [] := by
  have G : Gx X l := ⟨F.2.2.1, F.2.2.2.2⟩
  refine v_aload_n F dL_law_340 rfl 3 rfl ?_
  refine v_aload_n F dL_law_341 rfl 4 rfl ?_
  refine v_iload F dL_law_342 0 rfl ?_
  refine v_iconst F (v := nI 1) dL_law_344 (by decide) ?_
  refine v_iadd F dL_law_345 ?_
  refine v_topr (nI (i + 1)) (nI_add i 1) ?_
  refine v_sld F hX hbl hbase (i + 1) (Ix_nI (by omega) (by omega)) dL_law_346 ?_
  refine v_topr (nI j) e1 ?_
  refine v_aload_n F dL_law_347 rfl 4 rfl ?_
  refine v_iload F dL_law_348 0 rfl ?_
  refine v_iconst F (v := nI 2) dL_law_350 (by decide) ?_
  refine v_iadd F dL_law_351 ?_
  refine v_topr (nI (i + 2)) (nI_add i 2) ?_
  refine v_sld F hX hbl hbase (i + 2) (Ix_nI (by omega) (by omega)) dL_law_352 ?_
  refine v_topr (nI z) e2 ?_
  refine v_aload_n F dL_law_353 rfl 4 rfl ?_
  refine v_iload F dL_law_354 0 rfl ?_
  refine v_iconst F (v := nI 3) dL_law_356 (by decide) ?_
  refine v_iadd F dL_law_357 ?_
  refine v_topr (nI (i + 3)) (nI_add i 3) ?_
  refine v_sld F hX hbl hbase (i + 3) (Ix_nI (by omega) (by omega)) dL_law_358 ?_
  refine v_aload_n F dL_law_359 rfl 1 rfl ?_
  refine v_callSHi F (n := 5) (As := [_, _, _, _, _]) (rest := []) rfl (x_L_written_w G I.1.1.1 hj hz hx) wc_L_written wml_L_85 wst_L_written wini_L (by decide +kernel) rfl ⟨rfl, rfl, Nat.le_of_ble_eq_true rfl, Nat.le_of_ble_eq_true rfl, rm1 hc (by exact Nat.le_of_ble_eq_true rfl), rm1 hs (by exact Nat.le_of_ble_eq_true rfl), Nat.le_of_ble_eq_true rfl⟩ dL_law_360 ?_
  refine v_istore F dL_law_363 (by decide) (lv' := [(5, .int _), (4, .int _), (3, .ref _), (2, .ref _), (1, .ref _), (0, .ref _)]) rfl ?_
  refine v_aload_n F dL_law_365 rfl 3 rfl ?_
  refine v_aload_n F dL_law_366 rfl 5 rfl ?_
  refine v_iload F dL_law_367 1 rfl ?_
  refine v_iconst F (v := nI 1) dL_law_369 (by decide) ?_
  refine v_iadd F dL_law_370 ?_
  refine v_topr (nI (i + 1)) (nI_add i 1) ?_
  refine v_sld F hX hbl hbase (i + 1) (Ix_nI (by omega) (by omega)) dL_law_371 ?_
  refine v_topr (nI j) e1 ?_
  refine v_aload_n F dL_law_372 rfl 5 rfl ?_
  refine v_iload F dL_law_373 1 rfl ?_
  refine v_iconst F (v := nI 2) dL_law_375 (by decide) ?_
  refine v_iadd F dL_law_376 ?_
  refine v_topr (nI (i + 2)) (nI_add i 2) ?_
  refine v_sld F hX hbl hbase (i + 2) (Ix_nI (by omega) (by omega)) dL_law_377 ?_
  refine v_topr (nI z) e2 ?_
  refine v_aload_n F dL_law_378 rfl 5 rfl ?_
  refine v_iload F dL_law_379 1 rfl ?_
  refine v_iconst F (v := nI 3) dL_law_381 (by decide) ?_
  refine v_iadd F dL_law_382 ?_
  refine v_topr (nI (i + 3)) (nI_add i 3) ?_
  refine v_sld F hX hbl hbase (i + 3) (Ix_nI (by omega) (by omega)) dL_law_383 ?_
  refine v_callVi F (As := [_, _, _]) (rest := []) rfl (c_X6_written_w (M := M) G I.1 hj hz hx) Rv_Q wm_L_87 rfl ⟨rfl, rfl, Nat.le_of_ble_eq_true rfl, Nat.le_of_ble_eq_true rfl, rm2 hc (by exact Nat.le_of_ble_eq_true rfl), rm2 hs (by exact Nat.le_of_ble_eq_true rfl), Nat.le_of_ble_eq_true rfl⟩ dL_law_384 ?_
  refine v_istore F dL_law_387 (by decide) (lv' := [(6, .int _), (5, .int _), (4, .int _), (3, .ref _), (2, .ref _), (1, .ref _), (0, .ref _)]) rfl ?_
  refine v_aload_n F dL_law_389 rfl 4 rfl ?_
  refine v_callVi F (As := []) (rest := []) rfl (c_X6_thrown G) Rv_Q wm_L_74 rfl ⟨rfl, rfl, Nat.le_of_ble_eq_true rfl, Nat.le_of_ble_eq_true rfl, rm3 hc (by exact Nat.le_of_ble_eq_true rfl), rm3 hs (by exact Nat.le_of_ble_eq_true rfl), Nat.le_of_ble_eq_true rfl⟩ dL_law_390 ?_
  refine v_topr (1) (show u3 (u3 (M 2) 0 0 0 0) 0 0 0 1 0 0 0 = 1 from u3_at _ _ _ _ _) ?_
  refine v_iload F dL_law_393 1 rfl ?_
  refine v_icmp_eq F (tgt := 400) dL_law_395 (by decide) (fun c395 => ?_) (fun h => absurd (rfl) h)
  refine v_iload F dL_law_400 1 rfl ?_
  refine v_if_ne F (tgt := 417) dL_law_402 (by decide) (fun c402 => ?_) (fun h => absurd h ((by decide)))
  refine v_goto F (tgt := 1183) dL_law_417 (by decide) ?_
  refine v_locs [2, 3, 4, 5, 6] rfl ?_
  refine v_widen (k := cells + 122) (n := slots + 871) (by omega) (by omega) ?_
  exact K _ _ ⟨_, _, _, _, Inv_q (Inv_q I 0) 1, by omega⟩
set_option maxHeartbeats 4000000 in
set_option maxRecDepth 100000 in
theorem w_make (F : Fx p l s m #[Value.ref b] meth c cL_law 9 RL X) (hX : va_X b L xs s s.heap) (hbl : b < s.heap.size) (hbase : X.2.2.2 = s.heap.size) {i kk jc tc bt : Nat} {ln : Nat → Nat} (hi : i + 3 < L) (hL : L ≤ 2048) (hc : cells + 122 ≤ 601024) (hs : slots + 871 ≤ 7293034) (I : Inv (M 0) (M 2) (M 3) jc tc bt ln) (hbk : bt ≤ 200 * kk) (hkk : kk ≤ 512) {n : Nat} (hk : tc < 12) (h3 : n < 3) (e1 : xs (i + 1) = nI n)  (K : ∀ (M' : Mem) (lf' : Lf), LInv M' (kk + 1) → V p l e room_1 s m #[Value.ref b] below meth c Q X 9 [] (M') (lf') (cells + 122) (slots + 871) 1183 [(4, .int (nI i)), (3, .ref (X.2.1 6 0 0)), (2, .ref (X.2.1 2 0 0)), (1, .ref (X.2.1 5 0 0)), (0, .ref b)] []) : V p l e room_1 s m #[Value.ref b] below meth c Q X 9 [] (M) (lf) (cells) (slots) 420 [(4, .int (nI i)), (3, .ref (X.2.1 6 0 0)), (2, .ref (X.2.1 2 0 0)), (1, .ref (X.2.1 5 0 0)), (0, .ref b)] [] := by
  have G : Gx X l := ⟨F.2.2.1, F.2.2.2.2⟩
  refine v_aload_n F dL_law_420 rfl 3 rfl ?_
  refine v_aload_n F dL_law_421 rfl 4 rfl ?_
  refine v_iload F dL_law_422 0 rfl ?_
  refine v_iconst F (v := nI 1) dL_law_424 (by decide) ?_
  refine v_iadd F dL_law_425 ?_
  refine v_topr (nI (i + 1)) (nI_add i 1) ?_
  refine v_sld F hX hbl hbase (i + 1) (Ix_nI (by omega) (by omega)) dL_law_426 ?_
  refine v_topr (nI n) e1 ?_
  refine v_aload_n F dL_law_427 rfl 1 rfl ?_
  refine v_callSHi F (n := 3) (As := [_, _, _]) (rest := []) rfl (c_L_make G hk I.1.1.1.2.2.2.1 h3) wc_L_make wml_L_88 wst_L_make wini_L (by decide +kernel) rfl ⟨rfl, rfl, Nat.le_of_ble_eq_true rfl, Nat.le_of_ble_eq_true rfl, rm1 hc (by exact Nat.le_of_ble_eq_true rfl), rm1 hs (by exact Nat.le_of_ble_eq_true rfl), Nat.le_of_ble_eq_true rfl⟩ dL_law_428 ?_
  refine v_istore F dL_law_431 (by decide) (lv' := [(5, .int _), (4, .int _), (3, .ref _), (2, .ref _), (1, .ref _), (0, .ref _)]) rfl ?_
  refine v_aload_n F dL_law_433 rfl 3 rfl ?_
  refine v_aload_n F dL_law_434 rfl 5 rfl ?_
  refine v_iload F dL_law_435 1 rfl ?_
  refine v_iconst F (v := nI 1) dL_law_437 (by decide) ?_
  refine v_iadd F dL_law_438 ?_
  refine v_topr (nI (i + 1)) (nI_add i 1) ?_
  refine v_sld F hX hbl hbase (i + 1) (Ix_nI (by omega) (by omega)) dL_law_439 ?_
  refine v_topr (nI n) e1 ?_
  refine v_callVi F (As := [_]) (rest := []) rfl (c_X6_make (M := uC M 0 _) G hk I.1.1.2.2.1 h3) Rv_Q wm_L_90 rfl ⟨rfl, rfl, Nat.le_of_ble_eq_true rfl, Nat.le_of_ble_eq_true rfl, rm2 hc (by exact Nat.le_of_ble_eq_true rfl), rm2 hs (by exact Nat.le_of_ble_eq_true rfl), Nat.le_of_ble_eq_true rfl⟩ dL_law_440 ?_
  refine v_istore F dL_law_443 (by decide) (lv' := [(6, .int _), (5, .int _), (4, .int _), (3, .ref _), (2, .ref _), (1, .ref _), (0, .ref _)]) rfl ?_
  refine v_aload_n F dL_law_445 rfl 4 rfl ?_
  refine v_callVi F (As := []) (rest := []) rfl (c_X6_thrown G) Rv_Q wm_L_74 rfl ⟨rfl, rfl, Nat.le_of_ble_eq_true rfl, Nat.le_of_ble_eq_true rfl, rm3 hc (by exact Nat.le_of_ble_eq_true rfl), rm3 hs (by exact Nat.le_of_ble_eq_true rfl), Nat.le_of_ble_eq_true rfl⟩ dL_law_446 ?_
  refine v_topr (0) (show gMake (u3 (M 2) 0 0 0 0) tc (nI n) 0 0 0 = 0 by unfold gMake; rw [u3_ne (by omega), u3_ne (by omega), u3_at]) ?_
  refine v_iload F dL_law_449 1 rfl ?_
  refine v_icmp_eq F (tgt := 456) dL_law_451 (by decide) (fun c451 => ?_) (fun h => absurd (rfl) h)
  refine v_iload F dL_law_456 1 rfl ?_
  refine v_if_ne F (tgt := 473) dL_law_458 (by decide) (fun h => absurd (rfl) h) (fun c458 => ?_)
  refine v_aload_n F dL_law_461 rfl 3 rfl ?_
  refine v_iconst F (v := 0) dL_law_462 (by decide) ?_
  refine v_lald F ⟨by decide, by decide, by decide⟩ dL_law_463 ?_
  refine v_toprl ((nI tc).toInt64) pk_uLs ?_
  refine v_iload F dL_law_464 0 rfl ?_
  refine v_i2l F dL_law_466 ?_
  refine v_lcmp F dL_law_467 ?_
  refine v_if_eq F (tgt := 473) dL_law_468 (by decide) (fun c468 => ?_) (fun h => absurd ((lg_self _)) h)
  refine v_goto F (tgt := 1183) dL_law_473 (by decide) ?_
  refine v_locs [2, 3, 4, 5, 6] rfl ?_
  refine v_widen (k := cells + 122) (n := slots + 871) (by omega) (by omega) ?_
  exact K _ _ ⟨_, _, _, _, Inv_make (Inv_q I 0) hk (nI n), by omega⟩
set_option maxHeartbeats 4000000 in
set_option maxRecDepth 100000 in
theorem w_make_a (F : Fx p l s m #[Value.ref b] meth c cL_law 9 RL X) (hX : va_X b L xs s s.heap) (hbl : b < s.heap.size) (hbase : X.2.2.2 = s.heap.size) {i kk jc tc bt : Nat} {ln : Nat → Nat} (hi : i + 3 < L) (hL : L ≤ 2048) (hc : cells + 122 ≤ 601024) (hs : slots + 871 ≤ 7293034) (I : Inv (M 0) (M 2) (M 3) jc tc bt ln) (hbk : bt ≤ 200 * kk) (hkk : kk ≤ 512) (hx : (xs (i + 1) < 0 ∨ nI 3 ≤ xs (i + 1)))  (K : ∀ (M' : Mem) (lf' : Lf), LInv M' (kk + 1) → V p l e room_1 s m #[Value.ref b] below meth c Q X 9 [] (M') (lf') (cells + 122) (slots + 871) 1183 [(4, .int (nI i)), (3, .ref (X.2.1 6 0 0)), (2, .ref (X.2.1 2 0 0)), (1, .ref (X.2.1 5 0 0)), (0, .ref b)] []) : V p l e room_1 s m #[Value.ref b] below meth c Q X 9 [] (M) (lf) (cells) (slots) 420 [(4, .int (nI i)), (3, .ref (X.2.1 6 0 0)), (2, .ref (X.2.1 2 0 0)), (1, .ref (X.2.1 5 0 0)), (0, .ref b)] [] := by
  have G : Gx X l := ⟨F.2.2.1, F.2.2.2.2⟩
  refine v_aload_n F dL_law_420 rfl 3 rfl ?_
  refine v_aload_n F dL_law_421 rfl 4 rfl ?_
  refine v_iload F dL_law_422 0 rfl ?_
  refine v_iconst F (v := nI 1) dL_law_424 (by decide) ?_
  refine v_iadd F dL_law_425 ?_
  refine v_topr (nI (i + 1)) (nI_add i 1) ?_
  refine v_sld F hX hbl hbase (i + 1) (Ix_nI (by omega) (by omega)) dL_law_426 ?_
  refine v_aload_n F dL_law_427 rfl 1 rfl ?_
  refine v_callSHi F (n := 3) (As := [_, _, _]) (rest := []) rfl (x_L_make_a G hx) wc_L_make wml_L_88 wst_L_make wini_L (by decide +kernel) rfl ⟨rfl, rfl, Nat.le_of_ble_eq_true rfl, Nat.le_of_ble_eq_true rfl, rm1 hc (by exact Nat.le_of_ble_eq_true rfl), rm1 hs (by exact Nat.le_of_ble_eq_true rfl), Nat.le_of_ble_eq_true rfl⟩ dL_law_428 ?_
  refine v_istore F dL_law_431 (by decide) (lv' := [(5, .int _), (4, .int _), (3, .ref _), (2, .ref _), (1, .ref _), (0, .ref _)]) rfl ?_
  refine v_aload_n F dL_law_433 rfl 3 rfl ?_
  refine v_aload_n F dL_law_434 rfl 5 rfl ?_
  refine v_iload F dL_law_435 1 rfl ?_
  refine v_iconst F (v := nI 1) dL_law_437 (by decide) ?_
  refine v_iadd F dL_law_438 ?_
  refine v_topr (nI (i + 1)) (nI_add i 1) ?_
  refine v_sld F hX hbl hbase (i + 1) (Ix_nI (by omega) (by omega)) dL_law_439 ?_
  refine v_callVi F (As := [_]) (rest := []) rfl (c_X6_make_a (M := M) G hx) Rv_Q wm_L_90 rfl ⟨rfl, rfl, Nat.le_of_ble_eq_true rfl, Nat.le_of_ble_eq_true rfl, rm2 hc (by exact Nat.le_of_ble_eq_true rfl), rm2 hs (by exact Nat.le_of_ble_eq_true rfl), Nat.le_of_ble_eq_true rfl⟩ dL_law_440 ?_
  refine v_istore F dL_law_443 (by decide) (lv' := [(6, .int _), (5, .int _), (4, .int _), (3, .ref _), (2, .ref _), (1, .ref _), (0, .ref _)]) rfl ?_
  refine v_aload_n F dL_law_445 rfl 4 rfl ?_
  refine v_callVi F (As := []) (rest := []) rfl (c_X6_thrown G) Rv_Q wm_L_74 rfl ⟨rfl, rfl, Nat.le_of_ble_eq_true rfl, Nat.le_of_ble_eq_true rfl, rm3 hc (by exact Nat.le_of_ble_eq_true rfl), rm3 hs (by exact Nat.le_of_ble_eq_true rfl), Nat.le_of_ble_eq_true rfl⟩ dL_law_446 ?_
  refine v_topr (1) (show u3 (u3 (M 2) 0 0 0 0) 0 0 0 1 0 0 0 = 1 from u3_at _ _ _ _ _) ?_
  refine v_iload F dL_law_449 1 rfl ?_
  refine v_icmp_eq F (tgt := 456) dL_law_451 (by decide) (fun c451 => ?_) (fun h => absurd (rfl) h)
  refine v_iload F dL_law_456 1 rfl ?_
  refine v_if_ne F (tgt := 473) dL_law_458 (by decide) (fun c458 => ?_) (fun h => absurd h ((by decide)))
  refine v_goto F (tgt := 1183) dL_law_473 (by decide) ?_
  refine v_locs [2, 3, 4, 5, 6] rfl ?_
  refine v_widen (k := cells + 122) (n := slots + 871) (by omega) (by omega) ?_
  exact K _ _ ⟨_, _, _, _, Inv_q (Inv_q I 0) 1, by omega⟩
set_option maxHeartbeats 4000000 in
set_option maxRecDepth 100000 in
theorem w_make_s (F : Fx p l s m #[Value.ref b] meth c cL_law 9 RL X) (hX : va_X b L xs s s.heap) (hbl : b < s.heap.size) (hbase : X.2.2.2 = s.heap.size) {i kk jc tc bt : Nat} {ln : Nat → Nat} (hi : i + 3 < L) (hL : L ≤ 2048) (hc : cells + 122 ≤ 601024) (hs : slots + 871 ≤ 7293034) (I : Inv (M 0) (M 2) (M 3) jc tc bt ln) (hbk : bt ≤ 200 * kk) (hkk : kk ≤ 512) {n : Nat} (hk : tc = 12) (h3 : n < 3) (e1 : xs (i + 1) = nI n)  (K : ∀ (M' : Mem) (lf' : Lf), LInv M' (kk + 1) → V p l e room_1 s m #[Value.ref b] below meth c Q X 9 [] (M') (lf') (cells + 122) (slots + 871) 1183 [(4, .int (nI i)), (3, .ref (X.2.1 6 0 0)), (2, .ref (X.2.1 2 0 0)), (1, .ref (X.2.1 5 0 0)), (0, .ref b)] []) : V p l e room_1 s m #[Value.ref b] below meth c Q X 9 [] (M) (lf) (cells) (slots) 420 [(4, .int (nI i)), (3, .ref (X.2.1 6 0 0)), (2, .ref (X.2.1 2 0 0)), (1, .ref (X.2.1 5 0 0)), (0, .ref b)] [] := by
  have G : Gx X l := ⟨F.2.2.1, F.2.2.2.2⟩
  refine v_aload_n F dL_law_420 rfl 3 rfl ?_
  refine v_aload_n F dL_law_421 rfl 4 rfl ?_
  refine v_iload F dL_law_422 0 rfl ?_
  refine v_iconst F (v := nI 1) dL_law_424 (by decide) ?_
  refine v_iadd F dL_law_425 ?_
  refine v_topr (nI (i + 1)) (nI_add i 1) ?_
  refine v_sld F hX hbl hbase (i + 1) (Ix_nI (by omega) (by omega)) dL_law_426 ?_
  refine v_topr (nI n) e1 ?_
  refine v_aload_n F dL_law_427 rfl 1 rfl ?_
  refine v_callSHi F (n := 3) (As := [_, _, _]) (rest := []) rfl (x_L_make_s G (by rw [← hk]; exact I.1.1.1.2.2.2.1) h3) wc_L_make wml_L_88 wst_L_make wini_L (by decide +kernel) rfl ⟨rfl, rfl, Nat.le_of_ble_eq_true rfl, Nat.le_of_ble_eq_true rfl, rm1 hc (by exact Nat.le_of_ble_eq_true rfl), rm1 hs (by exact Nat.le_of_ble_eq_true rfl), Nat.le_of_ble_eq_true rfl⟩ dL_law_428 ?_
  refine v_istore F dL_law_431 (by decide) (lv' := [(5, .int _), (4, .int _), (3, .ref _), (2, .ref _), (1, .ref _), (0, .ref _)]) rfl ?_
  refine v_aload_n F dL_law_433 rfl 3 rfl ?_
  refine v_aload_n F dL_law_434 rfl 5 rfl ?_
  refine v_iload F dL_law_435 1 rfl ?_
  refine v_iconst F (v := nI 1) dL_law_437 (by decide) ?_
  refine v_iadd F dL_law_438 ?_
  refine v_topr (nI (i + 1)) (nI_add i 1) ?_
  refine v_sld F hX hbl hbase (i + 1) (Ix_nI (by omega) (by omega)) dL_law_439 ?_
  refine v_topr (nI n) e1 ?_
  refine v_callVi F (As := [_]) (rest := []) rfl (c_X6_make_s (M := M) G (by rw [← hk]; exact I.1.1.2.2.1) h3) Rv_Q wm_L_90 rfl ⟨rfl, rfl, Nat.le_of_ble_eq_true rfl, Nat.le_of_ble_eq_true rfl, rm2 hc (by exact Nat.le_of_ble_eq_true rfl), rm2 hs (by exact Nat.le_of_ble_eq_true rfl), Nat.le_of_ble_eq_true rfl⟩ dL_law_440 ?_
  refine v_istore F dL_law_443 (by decide) (lv' := [(6, .int _), (5, .int _), (4, .int _), (3, .ref _), (2, .ref _), (1, .ref _), (0, .ref _)]) rfl ?_
  refine v_aload_n F dL_law_445 rfl 4 rfl ?_
  refine v_callVi F (As := []) (rest := []) rfl (c_X6_thrown G) Rv_Q wm_L_74 rfl ⟨rfl, rfl, Nat.le_of_ble_eq_true rfl, Nat.le_of_ble_eq_true rfl, rm3 hc (by exact Nat.le_of_ble_eq_true rfl), rm3 hs (by exact Nat.le_of_ble_eq_true rfl), Nat.le_of_ble_eq_true rfl⟩ dL_law_446 ?_
  refine v_topr (2) (show u3 (u3 (M 2) 0 0 0 0) 0 0 0 2 0 0 0 = 2 from u3_at _ _ _ _ _) ?_
  refine v_iload F dL_law_449 1 rfl ?_
  refine v_icmp_eq F (tgt := 456) dL_law_451 (by decide) (fun c451 => ?_) (fun h => absurd (rfl) h)
  refine v_iload F dL_law_456 1 rfl ?_
  refine v_if_ne F (tgt := 473) dL_law_458 (by decide) (fun c458 => ?_) (fun h => absurd h ((by decide)))
  refine v_goto F (tgt := 1183) dL_law_473 (by decide) ?_
  refine v_locs [2, 3, 4, 5, 6] rfl ?_
  refine v_widen (k := cells + 122) (n := slots + 871) (by omega) (by omega) ?_
  exact K _ _ ⟨_, _, _, _, Inv_q (Inv_q I 0) 2, by omega⟩
set_option maxHeartbeats 4000000 in
set_option maxRecDepth 100000 in
theorem w_give (F : Fx p l s m #[Value.ref b] meth c cL_law 9 RL X) (hX : va_X b L xs s s.heap) (hbl : b < s.heap.size) (hbase : X.2.2.2 = s.heap.size) {i kk jc tc bt : Nat} {ln : Nat → Nat} (hi : i + 3 < L) (hL : L ≤ 2048) (hc : cells + 122 ≤ 601024) (hs : slots + 871 ≤ 7293034) (I : Inv (M 0) (M 2) (M 3) jc tc bt ln) (hbk : bt ≤ 200 * kk) (hkk : kk ≤ 512) {k j hd : Nat} (hk : k < tc) (hj : j < jc) (hh : hd < 2) (e1 : xs (i + 1) = nI k) (e2 : xs (i + 2) = nI j) (e3 : xs (i + 3) = nI hd) (hst : M 0 8 k 1 = 0) (hhd : M 0 6 j hd = -1)  (K : ∀ (M' : Mem) (lf' : Lf), LInv M' (kk + 1) → V p l e room_1 s m #[Value.ref b] below meth c Q X 9 [] (M') (lf') (cells + 122) (slots + 871) 1183 [(4, .int (nI i)), (3, .ref (X.2.1 6 0 0)), (2, .ref (X.2.1 2 0 0)), (1, .ref (X.2.1 5 0 0)), (0, .ref b)] []) : V p l e room_1 s m #[Value.ref b] below meth c Q X 9 [] (M) (lf) (cells) (slots) 476 [(4, .int (nI i)), (3, .ref (X.2.1 6 0 0)), (2, .ref (X.2.1 2 0 0)), (1, .ref (X.2.1 5 0 0)), (0, .ref b)] [] := by
  have G : Gx X l := ⟨F.2.2.1, F.2.2.2.2⟩
  refine v_aload_n F dL_law_476 rfl 3 rfl ?_
  refine v_aload_n F dL_law_477 rfl 4 rfl ?_
  refine v_iload F dL_law_478 0 rfl ?_
  refine v_iconst F (v := nI 1) dL_law_480 (by decide) ?_
  refine v_iadd F dL_law_481 ?_
  refine v_topr (nI (i + 1)) (nI_add i 1) ?_
  refine v_sld F hX hbl hbase (i + 1) (Ix_nI (by omega) (by omega)) dL_law_482 ?_
  refine v_topr (nI k) e1 ?_
  refine v_aload_n F dL_law_483 rfl 4 rfl ?_
  refine v_iload F dL_law_484 0 rfl ?_
  refine v_iconst F (v := nI 2) dL_law_486 (by decide) ?_
  refine v_iadd F dL_law_487 ?_
  refine v_topr (nI (i + 2)) (nI_add i 2) ?_
  refine v_sld F hX hbl hbase (i + 2) (Ix_nI (by omega) (by omega)) dL_law_488 ?_
  refine v_topr (nI j) e2 ?_
  refine v_aload_n F dL_law_489 rfl 4 rfl ?_
  refine v_iload F dL_law_490 0 rfl ?_
  refine v_iconst F (v := nI 3) dL_law_492 (by decide) ?_
  refine v_iadd F dL_law_493 ?_
  refine v_topr (nI (i + 3)) (nI_add i 3) ?_
  refine v_sld F hX hbl hbase (i + 3) (Ix_nI (by omega) (by omega)) dL_law_494 ?_
  refine v_topr (nI hd) e3 ?_
  refine v_aload_n F dL_law_495 rfl 1 rfl ?_
  refine v_callSHi F (n := 5) (As := [_, _, _, _, _]) (rest := []) rfl (c_L_give G I.1.1.1 hk hj hh hst hhd) wc_L_give wml_L_91 wst_L_give wini_L (by decide +kernel) rfl ⟨rfl, rfl, Nat.le_of_ble_eq_true rfl, Nat.le_of_ble_eq_true rfl, rm1 hc (by exact Nat.le_of_ble_eq_true rfl), rm1 hs (by exact Nat.le_of_ble_eq_true rfl), Nat.le_of_ble_eq_true rfl⟩ dL_law_496 ?_
  refine v_istore F dL_law_499 (by decide) (lv' := [(5, .int _), (4, .int _), (3, .ref _), (2, .ref _), (1, .ref _), (0, .ref _)]) rfl ?_
  refine v_aload_n F dL_law_501 rfl 3 rfl ?_
  refine v_aload_n F dL_law_502 rfl 5 rfl ?_
  refine v_iload F dL_law_503 1 rfl ?_
  refine v_iconst F (v := nI 1) dL_law_505 (by decide) ?_
  refine v_iadd F dL_law_506 ?_
  refine v_topr (nI (i + 1)) (nI_add i 1) ?_
  refine v_sld F hX hbl hbase (i + 1) (Ix_nI (by omega) (by omega)) dL_law_507 ?_
  refine v_topr (nI k) e1 ?_
  refine v_aload_n F dL_law_508 rfl 5 rfl ?_
  refine v_iload F dL_law_509 1 rfl ?_
  refine v_iconst F (v := nI 2) dL_law_511 (by decide) ?_
  refine v_iadd F dL_law_512 ?_
  refine v_topr (nI (i + 2)) (nI_add i 2) ?_
  refine v_sld F hX hbl hbase (i + 2) (Ix_nI (by omega) (by omega)) dL_law_513 ?_
  refine v_topr (nI j) e2 ?_
  refine v_aload_n F dL_law_514 rfl 5 rfl ?_
  refine v_iload F dL_law_515 1 rfl ?_
  refine v_iconst F (v := nI 3) dL_law_517 (by decide) ?_
  refine v_iadd F dL_law_518 ?_
  refine v_topr (nI (i + 3)) (nI_add i 3) ?_
  refine v_sld F hX hbl hbase (i + 3) (Ix_nI (by omega) (by omega)) dL_law_519 ?_
  refine v_topr (nI hd) e3 ?_
  refine v_callVi F (As := [_, _, _]) (rest := []) rfl (c_X6_give (M := uC M 0 _) G I.1 hk hj hh hst hhd (Inv_give I hk hj hh hst hhd).1) Rv_Q wm_L_93 rfl ⟨rfl, rfl, Nat.le_of_ble_eq_true rfl, Nat.le_of_ble_eq_true rfl, rm2 hc (by exact Nat.le_of_ble_eq_true rfl), rm2 hs (by exact Nat.le_of_ble_eq_true rfl), Nat.le_of_ble_eq_true rfl⟩ dL_law_520 ?_
  refine v_istore F dL_law_523 (by decide) (lv' := [(6, .int _), (5, .int _), (4, .int _), (3, .ref _), (2, .ref _), (1, .ref _), (0, .ref _)]) rfl ?_
  refine v_aload_n F dL_law_525 rfl 4 rfl ?_
  refine v_callVi F (As := []) (rest := []) rfl (c_X6_thrown G) Rv_Q wm_L_74 rfl ⟨rfl, rfl, Nat.le_of_ble_eq_true rfl, Nat.le_of_ble_eq_true rfl, rm3 hc (by exact Nat.le_of_ble_eq_true rfl), rm3 hs (by exact Nat.le_of_ble_eq_true rfl), Nat.le_of_ble_eq_true rfl⟩ dL_law_526 ?_
  refine v_topr (0) (show (u3 (M 2) 0 0 0 0) 0 0 0 = 0 from u3_at _ _ _ _ _) ?_
  refine v_iload F dL_law_529 1 rfl ?_
  refine v_icmp_eq F (tgt := 536) dL_law_531 (by decide) (fun c531 => ?_) (fun h => absurd (rfl) h)
  refine v_iload F dL_law_536 1 rfl ?_
  refine v_if_ne F (tgt := 553) dL_law_538 (by decide) (fun h => absurd (rfl) h) (fun c538 => ?_)
  refine v_aload_n F dL_law_541 rfl 3 rfl ?_
  refine v_iconst F (v := 0) dL_law_542 (by decide) ?_
  refine v_lald F ⟨by decide, by decide, by decide⟩ dL_law_543 ?_
  refine v_toprl ((fHeld (fPut (M 0) k (nI j) j hd) j).toInt64) pk_uLs ?_
  refine v_iload F dL_law_544 0 rfl ?_
  refine v_i2l F dL_law_546 ?_
  refine v_lcmp F dL_law_547 ?_
  refine v_if_eq F (tgt := 553) dL_law_548 (by decide) (fun c548 => ?_) (fun h => absurd ((lg_self _)) h)
  refine v_goto F (tgt := 1183) dL_law_553 (by decide) ?_
  refine v_locs [2, 3, 4, 5, 6] rfl ?_
  refine v_widen (k := cells + 122) (n := slots + 871) (by omega) (by omega) ?_
  exact K _ _ ⟨_, _, _, _, Inv_give (Inv_q I 0) hk hj hh hst hhd, by omega⟩
set_option maxHeartbeats 4000000 in
set_option maxRecDepth 100000 in
theorem w_give_k (F : Fx p l s m #[Value.ref b] meth c cL_law 9 RL X) (hX : va_X b L xs s s.heap) (hbl : b < s.heap.size) (hbase : X.2.2.2 = s.heap.size) {i kk jc tc bt : Nat} {ln : Nat → Nat} (hi : i + 3 < L) (hL : L ≤ 2048) (hc : cells + 122 ≤ 601024) (hs : slots + 871 ≤ 7293034) (I : Inv (M 0) (M 2) (M 3) jc tc bt ln) (hbk : bt ≤ 200 * kk) (hkk : kk ≤ 512) (hx : (xs (i + 1) < 0 ∨ nI tc ≤ xs (i + 1)))  (K : ∀ (M' : Mem) (lf' : Lf), LInv M' (kk + 1) → V p l e room_1 s m #[Value.ref b] below meth c Q X 9 [] (M') (lf') (cells + 122) (slots + 871) 1183 [(4, .int (nI i)), (3, .ref (X.2.1 6 0 0)), (2, .ref (X.2.1 2 0 0)), (1, .ref (X.2.1 5 0 0)), (0, .ref b)] []) : V p l e room_1 s m #[Value.ref b] below meth c Q X 9 [] (M) (lf) (cells) (slots) 476 [(4, .int (nI i)), (3, .ref (X.2.1 6 0 0)), (2, .ref (X.2.1 2 0 0)), (1, .ref (X.2.1 5 0 0)), (0, .ref b)] [] := by
  have G : Gx X l := ⟨F.2.2.1, F.2.2.2.2⟩
  refine v_aload_n F dL_law_476 rfl 3 rfl ?_
  refine v_aload_n F dL_law_477 rfl 4 rfl ?_
  refine v_iload F dL_law_478 0 rfl ?_
  refine v_iconst F (v := nI 1) dL_law_480 (by decide) ?_
  refine v_iadd F dL_law_481 ?_
  refine v_topr (nI (i + 1)) (nI_add i 1) ?_
  refine v_sld F hX hbl hbase (i + 1) (Ix_nI (by omega) (by omega)) dL_law_482 ?_
  refine v_aload_n F dL_law_483 rfl 4 rfl ?_
  refine v_iload F dL_law_484 0 rfl ?_
  refine v_iconst F (v := nI 2) dL_law_486 (by decide) ?_
  refine v_iadd F dL_law_487 ?_
  refine v_topr (nI (i + 2)) (nI_add i 2) ?_
  refine v_sld F hX hbl hbase (i + 2) (Ix_nI (by omega) (by omega)) dL_law_488 ?_
  refine v_aload_n F dL_law_489 rfl 4 rfl ?_
  refine v_iload F dL_law_490 0 rfl ?_
  refine v_iconst F (v := nI 3) dL_law_492 (by decide) ?_
  refine v_iadd F dL_law_493 ?_
  refine v_topr (nI (i + 3)) (nI_add i 3) ?_
  refine v_sld F hX hbl hbase (i + 3) (Ix_nI (by omega) (by omega)) dL_law_494 ?_
  refine v_aload_n F dL_law_495 rfl 1 rfl ?_
  refine v_callSHi F (n := 5) (As := [_, _, _, _, _]) (rest := []) rfl (x_L_give_k G I.1.1.1 hx) wc_L_give wml_L_91 wst_L_give wini_L (by decide +kernel) rfl ⟨rfl, rfl, Nat.le_of_ble_eq_true rfl, Nat.le_of_ble_eq_true rfl, rm1 hc (by exact Nat.le_of_ble_eq_true rfl), rm1 hs (by exact Nat.le_of_ble_eq_true rfl), Nat.le_of_ble_eq_true rfl⟩ dL_law_496 ?_
  refine v_istore F dL_law_499 (by decide) (lv' := [(5, .int _), (4, .int _), (3, .ref _), (2, .ref _), (1, .ref _), (0, .ref _)]) rfl ?_
  refine v_aload_n F dL_law_501 rfl 3 rfl ?_
  refine v_aload_n F dL_law_502 rfl 5 rfl ?_
  refine v_iload F dL_law_503 1 rfl ?_
  refine v_iconst F (v := nI 1) dL_law_505 (by decide) ?_
  refine v_iadd F dL_law_506 ?_
  refine v_topr (nI (i + 1)) (nI_add i 1) ?_
  refine v_sld F hX hbl hbase (i + 1) (Ix_nI (by omega) (by omega)) dL_law_507 ?_
  refine v_aload_n F dL_law_508 rfl 5 rfl ?_
  refine v_iload F dL_law_509 1 rfl ?_
  refine v_iconst F (v := nI 2) dL_law_511 (by decide) ?_
  refine v_iadd F dL_law_512 ?_
  refine v_topr (nI (i + 2)) (nI_add i 2) ?_
  refine v_sld F hX hbl hbase (i + 2) (Ix_nI (by omega) (by omega)) dL_law_513 ?_
  refine v_aload_n F dL_law_514 rfl 5 rfl ?_
  refine v_iload F dL_law_515 1 rfl ?_
  refine v_iconst F (v := nI 3) dL_law_517 (by decide) ?_
  refine v_iadd F dL_law_518 ?_
  refine v_topr (nI (i + 3)) (nI_add i 3) ?_
  refine v_sld F hX hbl hbase (i + 3) (Ix_nI (by omega) (by omega)) dL_law_519 ?_
  refine v_callVi F (As := [_, _, _]) (rest := []) rfl (c_X6_give_k (M := M) G I.1 hx) Rv_Q wm_L_93 rfl ⟨rfl, rfl, Nat.le_of_ble_eq_true rfl, Nat.le_of_ble_eq_true rfl, rm2 hc (by exact Nat.le_of_ble_eq_true rfl), rm2 hs (by exact Nat.le_of_ble_eq_true rfl), Nat.le_of_ble_eq_true rfl⟩ dL_law_520 ?_
  refine v_istore F dL_law_523 (by decide) (lv' := [(6, .int _), (5, .int _), (4, .int _), (3, .ref _), (2, .ref _), (1, .ref _), (0, .ref _)]) rfl ?_
  refine v_aload_n F dL_law_525 rfl 4 rfl ?_
  refine v_callVi F (As := []) (rest := []) rfl (c_X6_thrown G) Rv_Q wm_L_74 rfl ⟨rfl, rfl, Nat.le_of_ble_eq_true rfl, Nat.le_of_ble_eq_true rfl, rm3 hc (by exact Nat.le_of_ble_eq_true rfl), rm3 hs (by exact Nat.le_of_ble_eq_true rfl), Nat.le_of_ble_eq_true rfl⟩ dL_law_526 ?_
  refine v_topr (1) (show u3 (u3 (M 2) 0 0 0 0) 0 0 0 1 0 0 0 = 1 from u3_at _ _ _ _ _) ?_
  refine v_iload F dL_law_529 1 rfl ?_
  refine v_icmp_eq F (tgt := 536) dL_law_531 (by decide) (fun c531 => ?_) (fun h => absurd (rfl) h)
  refine v_iload F dL_law_536 1 rfl ?_
  refine v_if_ne F (tgt := 553) dL_law_538 (by decide) (fun c538 => ?_) (fun h => absurd h ((by decide)))
  refine v_goto F (tgt := 1183) dL_law_553 (by decide) ?_
  refine v_locs [2, 3, 4, 5, 6] rfl ?_
  refine v_widen (k := cells + 122) (n := slots + 871) (by omega) (by omega) ?_
  exact K _ _ ⟨_, _, _, _, Inv_q (Inv_q I 0) 1, by omega⟩
set_option maxHeartbeats 4000000 in
set_option maxRecDepth 100000 in
theorem w_give_j (F : Fx p l s m #[Value.ref b] meth c cL_law 9 RL X) (hX : va_X b L xs s s.heap) (hbl : b < s.heap.size) (hbase : X.2.2.2 = s.heap.size) {i kk jc tc bt : Nat} {ln : Nat → Nat} (hi : i + 3 < L) (hL : L ≤ 2048) (hc : cells + 122 ≤ 601024) (hs : slots + 871 ≤ 7293034) (I : Inv (M 0) (M 2) (M 3) jc tc bt ln) (hbk : bt ≤ 200 * kk) (hkk : kk ≤ 512) {k : Nat} (hk : k < tc) (e1 : xs (i + 1) = nI k) (hx : (xs (i + 2) < 0 ∨ nI jc ≤ xs (i + 2)))  (K : ∀ (M' : Mem) (lf' : Lf), LInv M' (kk + 1) → V p l e room_1 s m #[Value.ref b] below meth c Q X 9 [] (M') (lf') (cells + 122) (slots + 871) 1183 [(4, .int (nI i)), (3, .ref (X.2.1 6 0 0)), (2, .ref (X.2.1 2 0 0)), (1, .ref (X.2.1 5 0 0)), (0, .ref b)] []) : V p l e room_1 s m #[Value.ref b] below meth c Q X 9 [] (M) (lf) (cells) (slots) 476 [(4, .int (nI i)), (3, .ref (X.2.1 6 0 0)), (2, .ref (X.2.1 2 0 0)), (1, .ref (X.2.1 5 0 0)), (0, .ref b)] [] := by
  have G : Gx X l := ⟨F.2.2.1, F.2.2.2.2⟩
  refine v_aload_n F dL_law_476 rfl 3 rfl ?_
  refine v_aload_n F dL_law_477 rfl 4 rfl ?_
  refine v_iload F dL_law_478 0 rfl ?_
  refine v_iconst F (v := nI 1) dL_law_480 (by decide) ?_
  refine v_iadd F dL_law_481 ?_
  refine v_topr (nI (i + 1)) (nI_add i 1) ?_
  refine v_sld F hX hbl hbase (i + 1) (Ix_nI (by omega) (by omega)) dL_law_482 ?_
  refine v_topr (nI k) e1 ?_
  refine v_aload_n F dL_law_483 rfl 4 rfl ?_
  refine v_iload F dL_law_484 0 rfl ?_
  refine v_iconst F (v := nI 2) dL_law_486 (by decide) ?_
  refine v_iadd F dL_law_487 ?_
  refine v_topr (nI (i + 2)) (nI_add i 2) ?_
  refine v_sld F hX hbl hbase (i + 2) (Ix_nI (by omega) (by omega)) dL_law_488 ?_
  refine v_aload_n F dL_law_489 rfl 4 rfl ?_
  refine v_iload F dL_law_490 0 rfl ?_
  refine v_iconst F (v := nI 3) dL_law_492 (by decide) ?_
  refine v_iadd F dL_law_493 ?_
  refine v_topr (nI (i + 3)) (nI_add i 3) ?_
  refine v_sld F hX hbl hbase (i + 3) (Ix_nI (by omega) (by omega)) dL_law_494 ?_
  refine v_aload_n F dL_law_495 rfl 1 rfl ?_
  refine v_callSHi F (n := 5) (As := [_, _, _, _, _]) (rest := []) rfl (x_L_give_j G I.1.1.1 hk hx) wc_L_give wml_L_91 wst_L_give wini_L (by decide +kernel) rfl ⟨rfl, rfl, Nat.le_of_ble_eq_true rfl, Nat.le_of_ble_eq_true rfl, rm1 hc (by exact Nat.le_of_ble_eq_true rfl), rm1 hs (by exact Nat.le_of_ble_eq_true rfl), Nat.le_of_ble_eq_true rfl⟩ dL_law_496 ?_
  refine v_istore F dL_law_499 (by decide) (lv' := [(5, .int _), (4, .int _), (3, .ref _), (2, .ref _), (1, .ref _), (0, .ref _)]) rfl ?_
  refine v_aload_n F dL_law_501 rfl 3 rfl ?_
  refine v_aload_n F dL_law_502 rfl 5 rfl ?_
  refine v_iload F dL_law_503 1 rfl ?_
  refine v_iconst F (v := nI 1) dL_law_505 (by decide) ?_
  refine v_iadd F dL_law_506 ?_
  refine v_topr (nI (i + 1)) (nI_add i 1) ?_
  refine v_sld F hX hbl hbase (i + 1) (Ix_nI (by omega) (by omega)) dL_law_507 ?_
  refine v_topr (nI k) e1 ?_
  refine v_aload_n F dL_law_508 rfl 5 rfl ?_
  refine v_iload F dL_law_509 1 rfl ?_
  refine v_iconst F (v := nI 2) dL_law_511 (by decide) ?_
  refine v_iadd F dL_law_512 ?_
  refine v_topr (nI (i + 2)) (nI_add i 2) ?_
  refine v_sld F hX hbl hbase (i + 2) (Ix_nI (by omega) (by omega)) dL_law_513 ?_
  refine v_aload_n F dL_law_514 rfl 5 rfl ?_
  refine v_iload F dL_law_515 1 rfl ?_
  refine v_iconst F (v := nI 3) dL_law_517 (by decide) ?_
  refine v_iadd F dL_law_518 ?_
  refine v_topr (nI (i + 3)) (nI_add i 3) ?_
  refine v_sld F hX hbl hbase (i + 3) (Ix_nI (by omega) (by omega)) dL_law_519 ?_
  refine v_callVi F (As := [_, _, _]) (rest := []) rfl (c_X6_give_j (M := M) G I.1 hk hx) Rv_Q wm_L_93 rfl ⟨rfl, rfl, Nat.le_of_ble_eq_true rfl, Nat.le_of_ble_eq_true rfl, rm2 hc (by exact Nat.le_of_ble_eq_true rfl), rm2 hs (by exact Nat.le_of_ble_eq_true rfl), Nat.le_of_ble_eq_true rfl⟩ dL_law_520 ?_
  refine v_istore F dL_law_523 (by decide) (lv' := [(6, .int _), (5, .int _), (4, .int _), (3, .ref _), (2, .ref _), (1, .ref _), (0, .ref _)]) rfl ?_
  refine v_aload_n F dL_law_525 rfl 4 rfl ?_
  refine v_callVi F (As := []) (rest := []) rfl (c_X6_thrown G) Rv_Q wm_L_74 rfl ⟨rfl, rfl, Nat.le_of_ble_eq_true rfl, Nat.le_of_ble_eq_true rfl, rm3 hc (by exact Nat.le_of_ble_eq_true rfl), rm3 hs (by exact Nat.le_of_ble_eq_true rfl), Nat.le_of_ble_eq_true rfl⟩ dL_law_526 ?_
  refine v_topr (1) (show u3 (u3 (M 2) 0 0 0 0) 0 0 0 1 0 0 0 = 1 from u3_at _ _ _ _ _) ?_
  refine v_iload F dL_law_529 1 rfl ?_
  refine v_icmp_eq F (tgt := 536) dL_law_531 (by decide) (fun c531 => ?_) (fun h => absurd (rfl) h)
  refine v_iload F dL_law_536 1 rfl ?_
  refine v_if_ne F (tgt := 553) dL_law_538 (by decide) (fun c538 => ?_) (fun h => absurd h ((by decide)))
  refine v_goto F (tgt := 1183) dL_law_553 (by decide) ?_
  refine v_locs [2, 3, 4, 5, 6] rfl ?_
  refine v_widen (k := cells + 122) (n := slots + 871) (by omega) (by omega) ?_
  exact K _ _ ⟨_, _, _, _, Inv_q (Inv_q I 0) 1, by omega⟩
set_option maxHeartbeats 4000000 in
set_option maxRecDepth 100000 in
theorem w_give_h (F : Fx p l s m #[Value.ref b] meth c cL_law 9 RL X) (hX : va_X b L xs s s.heap) (hbl : b < s.heap.size) (hbase : X.2.2.2 = s.heap.size) {i kk jc tc bt : Nat} {ln : Nat → Nat} (hi : i + 3 < L) (hL : L ≤ 2048) (hc : cells + 122 ≤ 601024) (hs : slots + 871 ≤ 7293034) (I : Inv (M 0) (M 2) (M 3) jc tc bt ln) (hbk : bt ≤ 200 * kk) (hkk : kk ≤ 512) {k j : Nat} (hk : k < tc) (hj : j < jc) (e1 : xs (i + 1) = nI k) (e2 : xs (i + 2) = nI j) (hx : (xs (i + 3) < 0 ∨ nI 2 ≤ xs (i + 3)))  (K : ∀ (M' : Mem) (lf' : Lf), LInv M' (kk + 1) → V p l e room_1 s m #[Value.ref b] below meth c Q X 9 [] (M') (lf') (cells + 122) (slots + 871) 1183 [(4, .int (nI i)), (3, .ref (X.2.1 6 0 0)), (2, .ref (X.2.1 2 0 0)), (1, .ref (X.2.1 5 0 0)), (0, .ref b)] []) : V p l e room_1 s m #[Value.ref b] below meth c Q X 9 [] (M) (lf) (cells) (slots) 476 [(4, .int (nI i)), (3, .ref (X.2.1 6 0 0)), (2, .ref (X.2.1 2 0 0)), (1, .ref (X.2.1 5 0 0)), (0, .ref b)] [] := by
  have G : Gx X l := ⟨F.2.2.1, F.2.2.2.2⟩
  refine v_aload_n F dL_law_476 rfl 3 rfl ?_
  refine v_aload_n F dL_law_477 rfl 4 rfl ?_
  refine v_iload F dL_law_478 0 rfl ?_
  refine v_iconst F (v := nI 1) dL_law_480 (by decide) ?_
  refine v_iadd F dL_law_481 ?_
  refine v_topr (nI (i + 1)) (nI_add i 1) ?_
  refine v_sld F hX hbl hbase (i + 1) (Ix_nI (by omega) (by omega)) dL_law_482 ?_
  refine v_topr (nI k) e1 ?_
  refine v_aload_n F dL_law_483 rfl 4 rfl ?_
  refine v_iload F dL_law_484 0 rfl ?_
  refine v_iconst F (v := nI 2) dL_law_486 (by decide) ?_
  refine v_iadd F dL_law_487 ?_
  refine v_topr (nI (i + 2)) (nI_add i 2) ?_
  refine v_sld F hX hbl hbase (i + 2) (Ix_nI (by omega) (by omega)) dL_law_488 ?_
  refine v_topr (nI j) e2 ?_
  refine v_aload_n F dL_law_489 rfl 4 rfl ?_
  refine v_iload F dL_law_490 0 rfl ?_
  refine v_iconst F (v := nI 3) dL_law_492 (by decide) ?_
  refine v_iadd F dL_law_493 ?_
  refine v_topr (nI (i + 3)) (nI_add i 3) ?_
  refine v_sld F hX hbl hbase (i + 3) (Ix_nI (by omega) (by omega)) dL_law_494 ?_
  refine v_aload_n F dL_law_495 rfl 1 rfl ?_
  refine v_callSHi F (n := 5) (As := [_, _, _, _, _]) (rest := []) rfl (x_L_give_h G I.1.1.1 hk hj hx) wc_L_give wml_L_91 wst_L_give wini_L (by decide +kernel) rfl ⟨rfl, rfl, Nat.le_of_ble_eq_true rfl, Nat.le_of_ble_eq_true rfl, rm1 hc (by exact Nat.le_of_ble_eq_true rfl), rm1 hs (by exact Nat.le_of_ble_eq_true rfl), Nat.le_of_ble_eq_true rfl⟩ dL_law_496 ?_
  refine v_istore F dL_law_499 (by decide) (lv' := [(5, .int _), (4, .int _), (3, .ref _), (2, .ref _), (1, .ref _), (0, .ref _)]) rfl ?_
  refine v_aload_n F dL_law_501 rfl 3 rfl ?_
  refine v_aload_n F dL_law_502 rfl 5 rfl ?_
  refine v_iload F dL_law_503 1 rfl ?_
  refine v_iconst F (v := nI 1) dL_law_505 (by decide) ?_
  refine v_iadd F dL_law_506 ?_
  refine v_topr (nI (i + 1)) (nI_add i 1) ?_
  refine v_sld F hX hbl hbase (i + 1) (Ix_nI (by omega) (by omega)) dL_law_507 ?_
  refine v_topr (nI k) e1 ?_
  refine v_aload_n F dL_law_508 rfl 5 rfl ?_
  refine v_iload F dL_law_509 1 rfl ?_
  refine v_iconst F (v := nI 2) dL_law_511 (by decide) ?_
  refine v_iadd F dL_law_512 ?_
  refine v_topr (nI (i + 2)) (nI_add i 2) ?_
  refine v_sld F hX hbl hbase (i + 2) (Ix_nI (by omega) (by omega)) dL_law_513 ?_
  refine v_topr (nI j) e2 ?_
  refine v_aload_n F dL_law_514 rfl 5 rfl ?_
  refine v_iload F dL_law_515 1 rfl ?_
  refine v_iconst F (v := nI 3) dL_law_517 (by decide) ?_
  refine v_iadd F dL_law_518 ?_
  refine v_topr (nI (i + 3)) (nI_add i 3) ?_
  refine v_sld F hX hbl hbase (i + 3) (Ix_nI (by omega) (by omega)) dL_law_519 ?_
  refine v_callVi F (As := [_, _, _]) (rest := []) rfl (c_X6_give_h (M := M) G I.1 hk hj hx) Rv_Q wm_L_93 rfl ⟨rfl, rfl, Nat.le_of_ble_eq_true rfl, Nat.le_of_ble_eq_true rfl, rm2 hc (by exact Nat.le_of_ble_eq_true rfl), rm2 hs (by exact Nat.le_of_ble_eq_true rfl), Nat.le_of_ble_eq_true rfl⟩ dL_law_520 ?_
  refine v_istore F dL_law_523 (by decide) (lv' := [(6, .int _), (5, .int _), (4, .int _), (3, .ref _), (2, .ref _), (1, .ref _), (0, .ref _)]) rfl ?_
  refine v_aload_n F dL_law_525 rfl 4 rfl ?_
  refine v_callVi F (As := []) (rest := []) rfl (c_X6_thrown G) Rv_Q wm_L_74 rfl ⟨rfl, rfl, Nat.le_of_ble_eq_true rfl, Nat.le_of_ble_eq_true rfl, rm3 hc (by exact Nat.le_of_ble_eq_true rfl), rm3 hs (by exact Nat.le_of_ble_eq_true rfl), Nat.le_of_ble_eq_true rfl⟩ dL_law_526 ?_
  refine v_topr (1) (show u3 (u3 (M 2) 0 0 0 0) 0 0 0 1 0 0 0 = 1 from u3_at _ _ _ _ _) ?_
  refine v_iload F dL_law_529 1 rfl ?_
  refine v_icmp_eq F (tgt := 536) dL_law_531 (by decide) (fun c531 => ?_) (fun h => absurd (rfl) h)
  refine v_iload F dL_law_536 1 rfl ?_
  refine v_if_ne F (tgt := 553) dL_law_538 (by decide) (fun c538 => ?_) (fun h => absurd h ((by decide)))
  refine v_goto F (tgt := 1183) dL_law_553 (by decide) ?_
  refine v_locs [2, 3, 4, 5, 6] rfl ?_
  refine v_widen (k := cells + 122) (n := slots + 871) (by omega) (by omega) ?_
  exact K _ _ ⟨_, _, _, _, Inv_q (Inv_q I 0) 1, by omega⟩
set_option maxHeartbeats 4000000 in
set_option maxRecDepth 100000 in
theorem w_give_s (F : Fx p l s m #[Value.ref b] meth c cL_law 9 RL X) (hX : va_X b L xs s s.heap) (hbl : b < s.heap.size) (hbase : X.2.2.2 = s.heap.size) {i kk jc tc bt : Nat} {ln : Nat → Nat} (hi : i + 3 < L) (hL : L ≤ 2048) (hc : cells + 122 ≤ 601024) (hs : slots + 871 ≤ 7293034) (I : Inv (M 0) (M 2) (M 3) jc tc bt ln) (hbk : bt ≤ 200 * kk) (hkk : kk ≤ 512) {k j hd : Nat} (hk : k < tc) (hj : j < jc) (hh : hd < 2) (e1 : xs (i + 1) = nI k) (e2 : xs (i + 2) = nI j) (e3 : xs (i + 3) = nI hd) (hst : ¬ M 0 8 k 1 = 0)  (K : ∀ (M' : Mem) (lf' : Lf), LInv M' (kk + 1) → V p l e room_1 s m #[Value.ref b] below meth c Q X 9 [] (M') (lf') (cells + 122) (slots + 871) 1183 [(4, .int (nI i)), (3, .ref (X.2.1 6 0 0)), (2, .ref (X.2.1 2 0 0)), (1, .ref (X.2.1 5 0 0)), (0, .ref b)] []) : V p l e room_1 s m #[Value.ref b] below meth c Q X 9 [] (M) (lf) (cells) (slots) 476 [(4, .int (nI i)), (3, .ref (X.2.1 6 0 0)), (2, .ref (X.2.1 2 0 0)), (1, .ref (X.2.1 5 0 0)), (0, .ref b)] [] := by
  have G : Gx X l := ⟨F.2.2.1, F.2.2.2.2⟩
  refine v_aload_n F dL_law_476 rfl 3 rfl ?_
  refine v_aload_n F dL_law_477 rfl 4 rfl ?_
  refine v_iload F dL_law_478 0 rfl ?_
  refine v_iconst F (v := nI 1) dL_law_480 (by decide) ?_
  refine v_iadd F dL_law_481 ?_
  refine v_topr (nI (i + 1)) (nI_add i 1) ?_
  refine v_sld F hX hbl hbase (i + 1) (Ix_nI (by omega) (by omega)) dL_law_482 ?_
  refine v_topr (nI k) e1 ?_
  refine v_aload_n F dL_law_483 rfl 4 rfl ?_
  refine v_iload F dL_law_484 0 rfl ?_
  refine v_iconst F (v := nI 2) dL_law_486 (by decide) ?_
  refine v_iadd F dL_law_487 ?_
  refine v_topr (nI (i + 2)) (nI_add i 2) ?_
  refine v_sld F hX hbl hbase (i + 2) (Ix_nI (by omega) (by omega)) dL_law_488 ?_
  refine v_topr (nI j) e2 ?_
  refine v_aload_n F dL_law_489 rfl 4 rfl ?_
  refine v_iload F dL_law_490 0 rfl ?_
  refine v_iconst F (v := nI 3) dL_law_492 (by decide) ?_
  refine v_iadd F dL_law_493 ?_
  refine v_topr (nI (i + 3)) (nI_add i 3) ?_
  refine v_sld F hX hbl hbase (i + 3) (Ix_nI (by omega) (by omega)) dL_law_494 ?_
  refine v_topr (nI hd) e3 ?_
  refine v_aload_n F dL_law_495 rfl 1 rfl ?_
  refine v_callSHi F (n := 5) (As := [_, _, _, _, _]) (rest := []) rfl (x_L_give_s G I.1.1.1 hk hj hh hst) wc_L_give wml_L_91 wst_L_give wini_L (by decide +kernel) rfl ⟨rfl, rfl, Nat.le_of_ble_eq_true rfl, Nat.le_of_ble_eq_true rfl, rm1 hc (by exact Nat.le_of_ble_eq_true rfl), rm1 hs (by exact Nat.le_of_ble_eq_true rfl), Nat.le_of_ble_eq_true rfl⟩ dL_law_496 ?_
  refine v_istore F dL_law_499 (by decide) (lv' := [(5, .int _), (4, .int _), (3, .ref _), (2, .ref _), (1, .ref _), (0, .ref _)]) rfl ?_
  refine v_aload_n F dL_law_501 rfl 3 rfl ?_
  refine v_aload_n F dL_law_502 rfl 5 rfl ?_
  refine v_iload F dL_law_503 1 rfl ?_
  refine v_iconst F (v := nI 1) dL_law_505 (by decide) ?_
  refine v_iadd F dL_law_506 ?_
  refine v_topr (nI (i + 1)) (nI_add i 1) ?_
  refine v_sld F hX hbl hbase (i + 1) (Ix_nI (by omega) (by omega)) dL_law_507 ?_
  refine v_topr (nI k) e1 ?_
  refine v_aload_n F dL_law_508 rfl 5 rfl ?_
  refine v_iload F dL_law_509 1 rfl ?_
  refine v_iconst F (v := nI 2) dL_law_511 (by decide) ?_
  refine v_iadd F dL_law_512 ?_
  refine v_topr (nI (i + 2)) (nI_add i 2) ?_
  refine v_sld F hX hbl hbase (i + 2) (Ix_nI (by omega) (by omega)) dL_law_513 ?_
  refine v_topr (nI j) e2 ?_
  refine v_aload_n F dL_law_514 rfl 5 rfl ?_
  refine v_iload F dL_law_515 1 rfl ?_
  refine v_iconst F (v := nI 3) dL_law_517 (by decide) ?_
  refine v_iadd F dL_law_518 ?_
  refine v_topr (nI (i + 3)) (nI_add i 3) ?_
  refine v_sld F hX hbl hbase (i + 3) (Ix_nI (by omega) (by omega)) dL_law_519 ?_
  refine v_topr (nI hd) e3 ?_
  refine v_callVi F (As := [_, _, _]) (rest := []) rfl (c_X6_give_s (M := M) G I.1 hk hj hh hst) Rv_Q wm_L_93 rfl ⟨rfl, rfl, Nat.le_of_ble_eq_true rfl, Nat.le_of_ble_eq_true rfl, rm2 hc (by exact Nat.le_of_ble_eq_true rfl), rm2 hs (by exact Nat.le_of_ble_eq_true rfl), Nat.le_of_ble_eq_true rfl⟩ dL_law_520 ?_
  refine v_istore F dL_law_523 (by decide) (lv' := [(6, .int _), (5, .int _), (4, .int _), (3, .ref _), (2, .ref _), (1, .ref _), (0, .ref _)]) rfl ?_
  refine v_aload_n F dL_law_525 rfl 4 rfl ?_
  refine v_callVi F (As := []) (rest := []) rfl (c_X6_thrown G) Rv_Q wm_L_74 rfl ⟨rfl, rfl, Nat.le_of_ble_eq_true rfl, Nat.le_of_ble_eq_true rfl, rm3 hc (by exact Nat.le_of_ble_eq_true rfl), rm3 hs (by exact Nat.le_of_ble_eq_true rfl), Nat.le_of_ble_eq_true rfl⟩ dL_law_526 ?_
  refine v_topr (2) (show u3 (u3 (M 2) 0 0 0 0) 0 0 0 2 0 0 0 = 2 from u3_at _ _ _ _ _) ?_
  refine v_iload F dL_law_529 1 rfl ?_
  refine v_icmp_eq F (tgt := 536) dL_law_531 (by decide) (fun c531 => ?_) (fun h => absurd (rfl) h)
  refine v_iload F dL_law_536 1 rfl ?_
  refine v_if_ne F (tgt := 553) dL_law_538 (by decide) (fun c538 => ?_) (fun h => absurd h ((by decide)))
  refine v_goto F (tgt := 1183) dL_law_553 (by decide) ?_
  refine v_locs [2, 3, 4, 5, 6] rfl ?_
  refine v_widen (k := cells + 122) (n := slots + 871) (by omega) (by omega) ?_
  exact K _ _ ⟨_, _, _, _, Inv_q (Inv_q I 0) 2, by omega⟩
set_option maxHeartbeats 4000000 in
set_option maxRecDepth 100000 in
theorem w_give_o (F : Fx p l s m #[Value.ref b] meth c cL_law 9 RL X) (hX : va_X b L xs s s.heap) (hbl : b < s.heap.size) (hbase : X.2.2.2 = s.heap.size) {i kk jc tc bt : Nat} {ln : Nat → Nat} (hi : i + 3 < L) (hL : L ≤ 2048) (hc : cells + 122 ≤ 601024) (hs : slots + 871 ≤ 7293034) (I : Inv (M 0) (M 2) (M 3) jc tc bt ln) (hbk : bt ≤ 200 * kk) (hkk : kk ≤ 512) {k j hd : Nat} (hk : k < tc) (hj : j < jc) (hh : hd < 2) (e1 : xs (i + 1) = nI k) (e2 : xs (i + 2) = nI j) (e3 : xs (i + 3) = nI hd) (hst : M 0 8 k 1 = 0) (hhd : ¬ M 0 6 j hd = -1)  (K : ∀ (M' : Mem) (lf' : Lf), LInv M' (kk + 1) → V p l e room_1 s m #[Value.ref b] below meth c Q X 9 [] (M') (lf') (cells + 122) (slots + 871) 1183 [(4, .int (nI i)), (3, .ref (X.2.1 6 0 0)), (2, .ref (X.2.1 2 0 0)), (1, .ref (X.2.1 5 0 0)), (0, .ref b)] []) : V p l e room_1 s m #[Value.ref b] below meth c Q X 9 [] (M) (lf) (cells) (slots) 476 [(4, .int (nI i)), (3, .ref (X.2.1 6 0 0)), (2, .ref (X.2.1 2 0 0)), (1, .ref (X.2.1 5 0 0)), (0, .ref b)] [] := by
  have G : Gx X l := ⟨F.2.2.1, F.2.2.2.2⟩
  refine v_aload_n F dL_law_476 rfl 3 rfl ?_
  refine v_aload_n F dL_law_477 rfl 4 rfl ?_
  refine v_iload F dL_law_478 0 rfl ?_
  refine v_iconst F (v := nI 1) dL_law_480 (by decide) ?_
  refine v_iadd F dL_law_481 ?_
  refine v_topr (nI (i + 1)) (nI_add i 1) ?_
  refine v_sld F hX hbl hbase (i + 1) (Ix_nI (by omega) (by omega)) dL_law_482 ?_
  refine v_topr (nI k) e1 ?_
  refine v_aload_n F dL_law_483 rfl 4 rfl ?_
  refine v_iload F dL_law_484 0 rfl ?_
  refine v_iconst F (v := nI 2) dL_law_486 (by decide) ?_
  refine v_iadd F dL_law_487 ?_
  refine v_topr (nI (i + 2)) (nI_add i 2) ?_
  refine v_sld F hX hbl hbase (i + 2) (Ix_nI (by omega) (by omega)) dL_law_488 ?_
  refine v_topr (nI j) e2 ?_
  refine v_aload_n F dL_law_489 rfl 4 rfl ?_
  refine v_iload F dL_law_490 0 rfl ?_
  refine v_iconst F (v := nI 3) dL_law_492 (by decide) ?_
  refine v_iadd F dL_law_493 ?_
  refine v_topr (nI (i + 3)) (nI_add i 3) ?_
  refine v_sld F hX hbl hbase (i + 3) (Ix_nI (by omega) (by omega)) dL_law_494 ?_
  refine v_topr (nI hd) e3 ?_
  refine v_aload_n F dL_law_495 rfl 1 rfl ?_
  refine v_callSHi F (n := 5) (As := [_, _, _, _, _]) (rest := []) rfl (x_L_give_o G I.1.1.1 hk hj hh hst hhd) wc_L_give wml_L_91 wst_L_give wini_L (by decide +kernel) rfl ⟨rfl, rfl, Nat.le_of_ble_eq_true rfl, Nat.le_of_ble_eq_true rfl, rm1 hc (by exact Nat.le_of_ble_eq_true rfl), rm1 hs (by exact Nat.le_of_ble_eq_true rfl), Nat.le_of_ble_eq_true rfl⟩ dL_law_496 ?_
  refine v_istore F dL_law_499 (by decide) (lv' := [(5, .int _), (4, .int _), (3, .ref _), (2, .ref _), (1, .ref _), (0, .ref _)]) rfl ?_
  refine v_aload_n F dL_law_501 rfl 3 rfl ?_
  refine v_aload_n F dL_law_502 rfl 5 rfl ?_
  refine v_iload F dL_law_503 1 rfl ?_
  refine v_iconst F (v := nI 1) dL_law_505 (by decide) ?_
  refine v_iadd F dL_law_506 ?_
  refine v_topr (nI (i + 1)) (nI_add i 1) ?_
  refine v_sld F hX hbl hbase (i + 1) (Ix_nI (by omega) (by omega)) dL_law_507 ?_
  refine v_topr (nI k) e1 ?_
  refine v_aload_n F dL_law_508 rfl 5 rfl ?_
  refine v_iload F dL_law_509 1 rfl ?_
  refine v_iconst F (v := nI 2) dL_law_511 (by decide) ?_
  refine v_iadd F dL_law_512 ?_
  refine v_topr (nI (i + 2)) (nI_add i 2) ?_
  refine v_sld F hX hbl hbase (i + 2) (Ix_nI (by omega) (by omega)) dL_law_513 ?_
  refine v_topr (nI j) e2 ?_
  refine v_aload_n F dL_law_514 rfl 5 rfl ?_
  refine v_iload F dL_law_515 1 rfl ?_
  refine v_iconst F (v := nI 3) dL_law_517 (by decide) ?_
  refine v_iadd F dL_law_518 ?_
  refine v_topr (nI (i + 3)) (nI_add i 3) ?_
  refine v_sld F hX hbl hbase (i + 3) (Ix_nI (by omega) (by omega)) dL_law_519 ?_
  refine v_topr (nI hd) e3 ?_
  refine v_callVi F (As := [_, _, _]) (rest := []) rfl (c_X6_give_o (M := M) G I.1 hk hj hh hst hhd) Rv_Q wm_L_93 rfl ⟨rfl, rfl, Nat.le_of_ble_eq_true rfl, Nat.le_of_ble_eq_true rfl, rm2 hc (by exact Nat.le_of_ble_eq_true rfl), rm2 hs (by exact Nat.le_of_ble_eq_true rfl), Nat.le_of_ble_eq_true rfl⟩ dL_law_520 ?_
  refine v_istore F dL_law_523 (by decide) (lv' := [(6, .int _), (5, .int _), (4, .int _), (3, .ref _), (2, .ref _), (1, .ref _), (0, .ref _)]) rfl ?_
  refine v_aload_n F dL_law_525 rfl 4 rfl ?_
  refine v_callVi F (As := []) (rest := []) rfl (c_X6_thrown G) Rv_Q wm_L_74 rfl ⟨rfl, rfl, Nat.le_of_ble_eq_true rfl, Nat.le_of_ble_eq_true rfl, rm3 hc (by exact Nat.le_of_ble_eq_true rfl), rm3 hs (by exact Nat.le_of_ble_eq_true rfl), Nat.le_of_ble_eq_true rfl⟩ dL_law_526 ?_
  refine v_topr (2) (show u3 (u3 (M 2) 0 0 0 0) 0 0 0 2 0 0 0 = 2 from u3_at _ _ _ _ _) ?_
  refine v_iload F dL_law_529 1 rfl ?_
  refine v_icmp_eq F (tgt := 536) dL_law_531 (by decide) (fun c531 => ?_) (fun h => absurd (rfl) h)
  refine v_iload F dL_law_536 1 rfl ?_
  refine v_if_ne F (tgt := 553) dL_law_538 (by decide) (fun c538 => ?_) (fun h => absurd h ((by decide)))
  refine v_goto F (tgt := 1183) dL_law_553 (by decide) ?_
  refine v_locs [2, 3, 4, 5, 6] rfl ?_
  refine v_widen (k := cells + 122) (n := slots + 871) (by omega) (by omega) ?_
  exact K _ _ ⟨_, _, _, _, Inv_q (Inv_q I 0) 2, by omega⟩
set_option maxHeartbeats 4000000 in
set_option maxRecDepth 100000 in
theorem w_thing (F : Fx p l s m #[Value.ref b] meth c cL_law 9 RL X) (hX : va_X b L xs s s.heap) (hbl : b < s.heap.size) (hbase : X.2.2.2 = s.heap.size) {i kk jc tc bt : Nat} {ln : Nat → Nat} (hi : i + 3 < L) (hL : L ≤ 2048) (hc : cells + 122 ≤ 601024) (hs : slots + 871 ≤ 7293034) (I : Inv (M 0) (M 2) (M 3) jc tc bt ln) (hbk : bt ≤ 200 * kk) (hkk : kk ≤ 512) {k w : Nat} (hk : k < tc) (hw : w < 7) (e1 : xs (i + 1) = nI k) (e2 : xs (i + 2) = nI w)  (K : ∀ (M' : Mem) (lf' : Lf), LInv M' (kk + 1) → V p l e room_1 s m #[Value.ref b] below meth c Q X 9 [] (M') (lf') (cells + 122) (slots + 871) 1183 [(4, .int (nI i)), (3, .ref (X.2.1 6 0 0)), (2, .ref (X.2.1 2 0 0)), (1, .ref (X.2.1 5 0 0)), (0, .ref b)] []) : V p l e room_1 s m #[Value.ref b] below meth c Q X 9 [] (M) (lf) (cells) (slots) 556 [(4, .int (nI i)), (3, .ref (X.2.1 6 0 0)), (2, .ref (X.2.1 2 0 0)), (1, .ref (X.2.1 5 0 0)), (0, .ref b)] [] := by
  have G : Gx X l := ⟨F.2.2.1, F.2.2.2.2⟩
  refine v_aload_n F dL_law_556 rfl 3 rfl ?_
  refine v_aload_n F dL_law_557 rfl 4 rfl ?_
  refine v_iload F dL_law_558 0 rfl ?_
  refine v_iconst F (v := nI 1) dL_law_560 (by decide) ?_
  refine v_iadd F dL_law_561 ?_
  refine v_topr (nI (i + 1)) (nI_add i 1) ?_
  refine v_sld F hX hbl hbase (i + 1) (Ix_nI (by omega) (by omega)) dL_law_562 ?_
  refine v_topr (nI k) e1 ?_
  refine v_aload_n F dL_law_563 rfl 4 rfl ?_
  refine v_iload F dL_law_564 0 rfl ?_
  refine v_iconst F (v := nI 2) dL_law_566 (by decide) ?_
  refine v_iadd F dL_law_567 ?_
  refine v_topr (nI (i + 2)) (nI_add i 2) ?_
  refine v_sld F hX hbl hbase (i + 2) (Ix_nI (by omega) (by omega)) dL_law_568 ?_
  refine v_topr (nI w) e2 ?_
  refine v_aload_n F dL_law_569 rfl 1 rfl ?_
  refine v_callSHi F (n := 4) (As := [_, _, _, _]) (rest := []) rfl (c_L_thing G I.1.1.1 hk hw) wc_L_thing wml_L_94 wst_L_thing wini_L (by decide +kernel) rfl ⟨rfl, rfl, Nat.le_of_ble_eq_true rfl, Nat.le_of_ble_eq_true rfl, rm1 hc (by exact Nat.le_of_ble_eq_true rfl), rm1 hs (by exact Nat.le_of_ble_eq_true rfl), Nat.le_of_ble_eq_true rfl⟩ dL_law_570 ?_
  refine v_istore F dL_law_573 (by decide) (lv' := [(5, .int _), (4, .int _), (3, .ref _), (2, .ref _), (1, .ref _), (0, .ref _)]) rfl ?_
  refine v_aload_n F dL_law_575 rfl 3 rfl ?_
  refine v_aload_n F dL_law_576 rfl 5 rfl ?_
  refine v_iload F dL_law_577 1 rfl ?_
  refine v_iconst F (v := nI 1) dL_law_579 (by decide) ?_
  refine v_iadd F dL_law_580 ?_
  refine v_topr (nI (i + 1)) (nI_add i 1) ?_
  refine v_sld F hX hbl hbase (i + 1) (Ix_nI (by omega) (by omega)) dL_law_581 ?_
  refine v_topr (nI k) e1 ?_
  refine v_aload_n F dL_law_582 rfl 5 rfl ?_
  refine v_iload F dL_law_583 1 rfl ?_
  refine v_iconst F (v := nI 2) dL_law_585 (by decide) ?_
  refine v_iadd F dL_law_586 ?_
  refine v_topr (nI (i + 2)) (nI_add i 2) ?_
  refine v_sld F hX hbl hbase (i + 2) (Ix_nI (by omega) (by omega)) dL_law_587 ?_
  refine v_topr (nI w) e2 ?_
  refine v_callVi F (As := [_, _]) (rest := []) rfl (c_X6_thing (M := M) G I.1 hk hw) Rv_Q wm_L_97 rfl ⟨rfl, rfl, Nat.le_of_ble_eq_true rfl, Nat.le_of_ble_eq_true rfl, rm2 hc (by exact Nat.le_of_ble_eq_true rfl), rm2 hs (by exact Nat.le_of_ble_eq_true rfl), Nat.le_of_ble_eq_true rfl⟩ dL_law_588 ?_
  refine v_istore F dL_law_591 (by decide) (lv' := [(6, .int _), (5, .int _), (4, .int _), (3, .ref _), (2, .ref _), (1, .ref _), (0, .ref _)]) rfl ?_
  refine v_aload_n F dL_law_593 rfl 4 rfl ?_
  refine v_callVi F (As := []) (rest := []) rfl (c_X6_thrown G) Rv_Q wm_L_74 rfl ⟨rfl, rfl, Nat.le_of_ble_eq_true rfl, Nat.le_of_ble_eq_true rfl, rm3 hc (by exact Nat.le_of_ble_eq_true rfl), rm3 hs (by exact Nat.le_of_ble_eq_true rfl), Nat.le_of_ble_eq_true rfl⟩ dL_law_594 ?_
  refine v_topr (0) (show (u3 (M 2) 0 0 0 0) 0 0 0 = 0 from u3_at _ _ _ _ _) ?_
  refine v_iload F dL_law_597 1 rfl ?_
  refine v_icmp_eq F (tgt := 604) dL_law_599 (by decide) (fun c599 => ?_) (fun h => absurd (rfl) h)
  refine v_iload F dL_law_604 1 rfl ?_
  refine v_if_ne F (tgt := 621) dL_law_606 (by decide) (fun h => absurd (rfl) h) (fun c606 => ?_)
  refine v_aload_n F dL_law_609 rfl 3 rfl ?_
  refine v_iconst F (v := 0) dL_law_610 (by decide) ?_
  refine v_lald F ⟨by decide, by decide, by decide⟩ dL_law_611 ?_
  refine v_toprl ((fTellT (M 0) k w).toInt64) pk_uLs ?_
  refine v_iload F dL_law_612 0 rfl ?_
  refine v_i2l F dL_law_614 ?_
  refine v_lcmp F dL_law_615 ?_
  refine v_if_eq F (tgt := 621) dL_law_616 (by decide) (fun c616 => ?_) (fun h => absurd ((lg_self _)) h)
  refine v_goto F (tgt := 1183) dL_law_621 (by decide) ?_
  refine v_locs [2, 3, 4, 5, 6] rfl ?_
  refine v_widen (k := cells + 122) (n := slots + 871) (by omega) (by omega) ?_
  exact K _ _ ⟨_, _, _, _, Inv_q I 0, by omega⟩
set_option maxHeartbeats 4000000 in
set_option maxRecDepth 100000 in
theorem w_thing_k (F : Fx p l s m #[Value.ref b] meth c cL_law 9 RL X) (hX : va_X b L xs s s.heap) (hbl : b < s.heap.size) (hbase : X.2.2.2 = s.heap.size) {i kk jc tc bt : Nat} {ln : Nat → Nat} (hi : i + 3 < L) (hL : L ≤ 2048) (hc : cells + 122 ≤ 601024) (hs : slots + 871 ≤ 7293034) (I : Inv (M 0) (M 2) (M 3) jc tc bt ln) (hbk : bt ≤ 200 * kk) (hkk : kk ≤ 512) (hx : (xs (i + 1) < 0 ∨ nI tc ≤ xs (i + 1)))  (K : ∀ (M' : Mem) (lf' : Lf), LInv M' (kk + 1) → V p l e room_1 s m #[Value.ref b] below meth c Q X 9 [] (M') (lf') (cells + 122) (slots + 871) 1183 [(4, .int (nI i)), (3, .ref (X.2.1 6 0 0)), (2, .ref (X.2.1 2 0 0)), (1, .ref (X.2.1 5 0 0)), (0, .ref b)] []) : V p l e room_1 s m #[Value.ref b] below meth c Q X 9 [] (M) (lf) (cells) (slots) 556 [(4, .int (nI i)), (3, .ref (X.2.1 6 0 0)), (2, .ref (X.2.1 2 0 0)), (1, .ref (X.2.1 5 0 0)), (0, .ref b)] [] := by
  have G : Gx X l := ⟨F.2.2.1, F.2.2.2.2⟩
  refine v_aload_n F dL_law_556 rfl 3 rfl ?_
  refine v_aload_n F dL_law_557 rfl 4 rfl ?_
  refine v_iload F dL_law_558 0 rfl ?_
  refine v_iconst F (v := nI 1) dL_law_560 (by decide) ?_
  refine v_iadd F dL_law_561 ?_
  refine v_topr (nI (i + 1)) (nI_add i 1) ?_
  refine v_sld F hX hbl hbase (i + 1) (Ix_nI (by omega) (by omega)) dL_law_562 ?_
  refine v_aload_n F dL_law_563 rfl 4 rfl ?_
  refine v_iload F dL_law_564 0 rfl ?_
  refine v_iconst F (v := nI 2) dL_law_566 (by decide) ?_
  refine v_iadd F dL_law_567 ?_
  refine v_topr (nI (i + 2)) (nI_add i 2) ?_
  refine v_sld F hX hbl hbase (i + 2) (Ix_nI (by omega) (by omega)) dL_law_568 ?_
  refine v_aload_n F dL_law_569 rfl 1 rfl ?_
  refine v_callSHi F (n := 4) (As := [_, _, _, _]) (rest := []) rfl (x_L_thing_k G I.1.1.1 hx) wc_L_thing wml_L_94 wst_L_thing wini_L (by decide +kernel) rfl ⟨rfl, rfl, Nat.le_of_ble_eq_true rfl, Nat.le_of_ble_eq_true rfl, rm1 hc (by exact Nat.le_of_ble_eq_true rfl), rm1 hs (by exact Nat.le_of_ble_eq_true rfl), Nat.le_of_ble_eq_true rfl⟩ dL_law_570 ?_
  refine v_istore F dL_law_573 (by decide) (lv' := [(5, .int _), (4, .int _), (3, .ref _), (2, .ref _), (1, .ref _), (0, .ref _)]) rfl ?_
  refine v_aload_n F dL_law_575 rfl 3 rfl ?_
  refine v_aload_n F dL_law_576 rfl 5 rfl ?_
  refine v_iload F dL_law_577 1 rfl ?_
  refine v_iconst F (v := nI 1) dL_law_579 (by decide) ?_
  refine v_iadd F dL_law_580 ?_
  refine v_topr (nI (i + 1)) (nI_add i 1) ?_
  refine v_sld F hX hbl hbase (i + 1) (Ix_nI (by omega) (by omega)) dL_law_581 ?_
  refine v_aload_n F dL_law_582 rfl 5 rfl ?_
  refine v_iload F dL_law_583 1 rfl ?_
  refine v_iconst F (v := nI 2) dL_law_585 (by decide) ?_
  refine v_iadd F dL_law_586 ?_
  refine v_topr (nI (i + 2)) (nI_add i 2) ?_
  refine v_sld F hX hbl hbase (i + 2) (Ix_nI (by omega) (by omega)) dL_law_587 ?_
  refine v_callVi F (As := [_, _]) (rest := []) rfl (c_X6R_thing_k (M := M) G I.1 hx) Rv_Q wm_L_97 rfl ⟨rfl, rfl, Nat.le_of_ble_eq_true rfl, Nat.le_of_ble_eq_true rfl, rm2 hc (by exact Nat.le_of_ble_eq_true rfl), rm2 hs (by exact Nat.le_of_ble_eq_true rfl), Nat.le_of_ble_eq_true rfl⟩ dL_law_588 ?_
  refine v_istore F dL_law_591 (by decide) (lv' := [(6, .int _), (5, .int _), (4, .int _), (3, .ref _), (2, .ref _), (1, .ref _), (0, .ref _)]) rfl ?_
  refine v_aload_n F dL_law_593 rfl 4 rfl ?_
  refine v_callVi F (As := []) (rest := []) rfl (c_X6_thrown G) Rv_Q wm_L_74 rfl ⟨rfl, rfl, Nat.le_of_ble_eq_true rfl, Nat.le_of_ble_eq_true rfl, rm3 hc (by exact Nat.le_of_ble_eq_true rfl), rm3 hs (by exact Nat.le_of_ble_eq_true rfl), Nat.le_of_ble_eq_true rfl⟩ dL_law_594 ?_
  refine v_topr (1) (show u3 (u3 (M 2) 0 0 0 0) 0 0 0 1 0 0 0 = 1 from u3_at _ _ _ _ _) ?_
  refine v_iload F dL_law_597 1 rfl ?_
  refine v_icmp_eq F (tgt := 604) dL_law_599 (by decide) (fun c599 => ?_) (fun h => absurd (rfl) h)
  refine v_iload F dL_law_604 1 rfl ?_
  refine v_if_ne F (tgt := 621) dL_law_606 (by decide) (fun c606 => ?_) (fun h => absurd h ((by decide)))
  refine v_goto F (tgt := 1183) dL_law_621 (by decide) ?_
  refine v_locs [2, 3, 4, 5, 6] rfl ?_
  refine v_widen (k := cells + 122) (n := slots + 871) (by omega) (by omega) ?_
  exact K _ _ ⟨_, _, _, _, Inv_q (Inv_q I 0) 1, by omega⟩
set_option maxHeartbeats 4000000 in
set_option maxRecDepth 100000 in
theorem w_thing_w (F : Fx p l s m #[Value.ref b] meth c cL_law 9 RL X) (hX : va_X b L xs s s.heap) (hbl : b < s.heap.size) (hbase : X.2.2.2 = s.heap.size) {i kk jc tc bt : Nat} {ln : Nat → Nat} (hi : i + 3 < L) (hL : L ≤ 2048) (hc : cells + 122 ≤ 601024) (hs : slots + 871 ≤ 7293034) (I : Inv (M 0) (M 2) (M 3) jc tc bt ln) (hbk : bt ≤ 200 * kk) (hkk : kk ≤ 512) {k : Nat} (hk : k < tc) (e1 : xs (i + 1) = nI k) (hx : (xs (i + 2) < 0 ∨ nI 7 ≤ xs (i + 2)))  (K : ∀ (M' : Mem) (lf' : Lf), LInv M' (kk + 1) → V p l e room_1 s m #[Value.ref b] below meth c Q X 9 [] (M') (lf') (cells + 122) (slots + 871) 1183 [(4, .int (nI i)), (3, .ref (X.2.1 6 0 0)), (2, .ref (X.2.1 2 0 0)), (1, .ref (X.2.1 5 0 0)), (0, .ref b)] []) : V p l e room_1 s m #[Value.ref b] below meth c Q X 9 [] (M) (lf) (cells) (slots) 556 [(4, .int (nI i)), (3, .ref (X.2.1 6 0 0)), (2, .ref (X.2.1 2 0 0)), (1, .ref (X.2.1 5 0 0)), (0, .ref b)] [] := by
  have G : Gx X l := ⟨F.2.2.1, F.2.2.2.2⟩
  refine v_aload_n F dL_law_556 rfl 3 rfl ?_
  refine v_aload_n F dL_law_557 rfl 4 rfl ?_
  refine v_iload F dL_law_558 0 rfl ?_
  refine v_iconst F (v := nI 1) dL_law_560 (by decide) ?_
  refine v_iadd F dL_law_561 ?_
  refine v_topr (nI (i + 1)) (nI_add i 1) ?_
  refine v_sld F hX hbl hbase (i + 1) (Ix_nI (by omega) (by omega)) dL_law_562 ?_
  refine v_topr (nI k) e1 ?_
  refine v_aload_n F dL_law_563 rfl 4 rfl ?_
  refine v_iload F dL_law_564 0 rfl ?_
  refine v_iconst F (v := nI 2) dL_law_566 (by decide) ?_
  refine v_iadd F dL_law_567 ?_
  refine v_topr (nI (i + 2)) (nI_add i 2) ?_
  refine v_sld F hX hbl hbase (i + 2) (Ix_nI (by omega) (by omega)) dL_law_568 ?_
  refine v_aload_n F dL_law_569 rfl 1 rfl ?_
  refine v_callSHi F (n := 4) (As := [_, _, _, _]) (rest := []) rfl (x_L_thing_w G I.1.1.1 hk hx) wc_L_thing wml_L_94 wst_L_thing wini_L (by decide +kernel) rfl ⟨rfl, rfl, Nat.le_of_ble_eq_true rfl, Nat.le_of_ble_eq_true rfl, rm1 hc (by exact Nat.le_of_ble_eq_true rfl), rm1 hs (by exact Nat.le_of_ble_eq_true rfl), Nat.le_of_ble_eq_true rfl⟩ dL_law_570 ?_
  refine v_istore F dL_law_573 (by decide) (lv' := [(5, .int _), (4, .int _), (3, .ref _), (2, .ref _), (1, .ref _), (0, .ref _)]) rfl ?_
  refine v_aload_n F dL_law_575 rfl 3 rfl ?_
  refine v_aload_n F dL_law_576 rfl 5 rfl ?_
  refine v_iload F dL_law_577 1 rfl ?_
  refine v_iconst F (v := nI 1) dL_law_579 (by decide) ?_
  refine v_iadd F dL_law_580 ?_
  refine v_topr (nI (i + 1)) (nI_add i 1) ?_
  refine v_sld F hX hbl hbase (i + 1) (Ix_nI (by omega) (by omega)) dL_law_581 ?_
  refine v_topr (nI k) e1 ?_
  refine v_aload_n F dL_law_582 rfl 5 rfl ?_
  refine v_iload F dL_law_583 1 rfl ?_
  refine v_iconst F (v := nI 2) dL_law_585 (by decide) ?_
  refine v_iadd F dL_law_586 ?_
  refine v_topr (nI (i + 2)) (nI_add i 2) ?_
  refine v_sld F hX hbl hbase (i + 2) (Ix_nI (by omega) (by omega)) dL_law_587 ?_
  refine v_callVi F (As := [_, _]) (rest := []) rfl (c_X6R_thing_w (M := M) G I.1 hk hx) Rv_Q wm_L_97 rfl ⟨rfl, rfl, Nat.le_of_ble_eq_true rfl, Nat.le_of_ble_eq_true rfl, rm2 hc (by exact Nat.le_of_ble_eq_true rfl), rm2 hs (by exact Nat.le_of_ble_eq_true rfl), Nat.le_of_ble_eq_true rfl⟩ dL_law_588 ?_
  refine v_istore F dL_law_591 (by decide) (lv' := [(6, .int _), (5, .int _), (4, .int _), (3, .ref _), (2, .ref _), (1, .ref _), (0, .ref _)]) rfl ?_
  refine v_aload_n F dL_law_593 rfl 4 rfl ?_
  refine v_callVi F (As := []) (rest := []) rfl (c_X6_thrown G) Rv_Q wm_L_74 rfl ⟨rfl, rfl, Nat.le_of_ble_eq_true rfl, Nat.le_of_ble_eq_true rfl, rm3 hc (by exact Nat.le_of_ble_eq_true rfl), rm3 hs (by exact Nat.le_of_ble_eq_true rfl), Nat.le_of_ble_eq_true rfl⟩ dL_law_594 ?_
  refine v_topr (1) (show u3 (u3 (M 2) 0 0 0 0) 0 0 0 1 0 0 0 = 1 from u3_at _ _ _ _ _) ?_
  refine v_iload F dL_law_597 1 rfl ?_
  refine v_icmp_eq F (tgt := 604) dL_law_599 (by decide) (fun c599 => ?_) (fun h => absurd (rfl) h)
  refine v_iload F dL_law_604 1 rfl ?_
  refine v_if_ne F (tgt := 621) dL_law_606 (by decide) (fun c606 => ?_) (fun h => absurd h ((by decide)))
  refine v_goto F (tgt := 1183) dL_law_621 (by decide) ?_
  refine v_locs [2, 3, 4, 5, 6] rfl ?_
  refine v_widen (k := cells + 122) (n := slots + 871) (by omega) (by omega) ?_
  exact K _ _ ⟨_, _, _, _, Inv_q (Inv_q I 0) 1, by omega⟩
set_option maxHeartbeats 4000000 in
set_option maxRecDepth 100000 in
theorem w_juggler (F : Fx p l s m #[Value.ref b] meth c cL_law 9 RL X) (hX : va_X b L xs s s.heap) (hbl : b < s.heap.size) (hbase : X.2.2.2 = s.heap.size) {i kk jc tc bt : Nat} {ln : Nat → Nat} (hi : i + 3 < L) (hL : L ≤ 2048) (hc : cells + 122 ≤ 601024) (hs : slots + 871 ≤ 7293034) (I : Inv (M 0) (M 2) (M 3) jc tc bt ln) (hbk : bt ≤ 200 * kk) (hkk : kk ≤ 512) {j w : Nat} (hj : j < jc) (hw : w < 7) (e1 : xs (i + 1) = nI j) (e2 : xs (i + 2) = nI w)  (K : ∀ (M' : Mem) (lf' : Lf), LInv M' (kk + 1) → V p l e room_1 s m #[Value.ref b] below meth c Q X 9 [] (M') (lf') (cells + 122) (slots + 871) 1183 [(4, .int (nI i)), (3, .ref (X.2.1 6 0 0)), (2, .ref (X.2.1 2 0 0)), (1, .ref (X.2.1 5 0 0)), (0, .ref b)] []) : V p l e room_1 s m #[Value.ref b] below meth c Q X 9 [] (M) (lf) (cells) (slots) 624 [(4, .int (nI i)), (3, .ref (X.2.1 6 0 0)), (2, .ref (X.2.1 2 0 0)), (1, .ref (X.2.1 5 0 0)), (0, .ref b)] [] := by
  have G : Gx X l := ⟨F.2.2.1, F.2.2.2.2⟩
  refine v_aload_n F dL_law_624 rfl 3 rfl ?_
  refine v_aload_n F dL_law_625 rfl 4 rfl ?_
  refine v_iload F dL_law_626 0 rfl ?_
  refine v_iconst F (v := nI 1) dL_law_628 (by decide) ?_
  refine v_iadd F dL_law_629 ?_
  refine v_topr (nI (i + 1)) (nI_add i 1) ?_
  refine v_sld F hX hbl hbase (i + 1) (Ix_nI (by omega) (by omega)) dL_law_630 ?_
  refine v_topr (nI j) e1 ?_
  refine v_aload_n F dL_law_631 rfl 4 rfl ?_
  refine v_iload F dL_law_632 0 rfl ?_
  refine v_iconst F (v := nI 2) dL_law_634 (by decide) ?_
  refine v_iadd F dL_law_635 ?_
  refine v_topr (nI (i + 2)) (nI_add i 2) ?_
  refine v_sld F hX hbl hbase (i + 2) (Ix_nI (by omega) (by omega)) dL_law_636 ?_
  refine v_topr (nI w) e2 ?_
  refine v_aload_n F dL_law_637 rfl 1 rfl ?_
  refine v_callSHi F (n := 4) (As := [_, _, _, _]) (rest := []) rfl (c_L_juggler G I.1.1.1 hj hw) wc_L_juggler wml_L_98 wst_L_juggler wini_L (by decide +kernel) rfl ⟨rfl, rfl, Nat.le_of_ble_eq_true rfl, Nat.le_of_ble_eq_true rfl, rm1 hc (by exact Nat.le_of_ble_eq_true rfl), rm1 hs (by exact Nat.le_of_ble_eq_true rfl), Nat.le_of_ble_eq_true rfl⟩ dL_law_638 ?_
  refine v_istore F dL_law_641 (by decide) (lv' := [(5, .int _), (4, .int _), (3, .ref _), (2, .ref _), (1, .ref _), (0, .ref _)]) rfl ?_
  refine v_aload_n F dL_law_643 rfl 3 rfl ?_
  refine v_aload_n F dL_law_644 rfl 5 rfl ?_
  refine v_iload F dL_law_645 1 rfl ?_
  refine v_iconst F (v := nI 1) dL_law_647 (by decide) ?_
  refine v_iadd F dL_law_648 ?_
  refine v_topr (nI (i + 1)) (nI_add i 1) ?_
  refine v_sld F hX hbl hbase (i + 1) (Ix_nI (by omega) (by omega)) dL_law_649 ?_
  refine v_topr (nI j) e1 ?_
  refine v_aload_n F dL_law_650 rfl 5 rfl ?_
  refine v_iload F dL_law_651 1 rfl ?_
  refine v_iconst F (v := nI 2) dL_law_653 (by decide) ?_
  refine v_iadd F dL_law_654 ?_
  refine v_topr (nI (i + 2)) (nI_add i 2) ?_
  refine v_sld F hX hbl hbase (i + 2) (Ix_nI (by omega) (by omega)) dL_law_655 ?_
  refine v_topr (nI w) e2 ?_
  refine v_callVi F (As := [_, _]) (rest := []) rfl (c_X6_juggler (M := M) G I.1 hj hw) Rv_Q wm_L_100 rfl ⟨rfl, rfl, Nat.le_of_ble_eq_true rfl, Nat.le_of_ble_eq_true rfl, rm2 hc (by exact Nat.le_of_ble_eq_true rfl), rm2 hs (by exact Nat.le_of_ble_eq_true rfl), Nat.le_of_ble_eq_true rfl⟩ dL_law_656 ?_
  refine v_istore F dL_law_659 (by decide) (lv' := [(6, .int _), (5, .int _), (4, .int _), (3, .ref _), (2, .ref _), (1, .ref _), (0, .ref _)]) rfl ?_
  refine v_aload_n F dL_law_661 rfl 4 rfl ?_
  refine v_callVi F (As := []) (rest := []) rfl (c_X6_thrown G) Rv_Q wm_L_74 rfl ⟨rfl, rfl, Nat.le_of_ble_eq_true rfl, Nat.le_of_ble_eq_true rfl, rm3 hc (by exact Nat.le_of_ble_eq_true rfl), rm3 hs (by exact Nat.le_of_ble_eq_true rfl), Nat.le_of_ble_eq_true rfl⟩ dL_law_662 ?_
  refine v_topr (0) (show (u3 (M 2) 0 0 0 0) 0 0 0 = 0 from u3_at _ _ _ _ _) ?_
  refine v_iload F dL_law_665 1 rfl ?_
  refine v_icmp_eq F (tgt := 672) dL_law_667 (by decide) (fun c667 => ?_) (fun h => absurd (rfl) h)
  refine v_iload F dL_law_672 1 rfl ?_
  refine v_if_ne F (tgt := 689) dL_law_674 (by decide) (fun h => absurd (rfl) h) (fun c674 => ?_)
  refine v_aload_n F dL_law_677 rfl 3 rfl ?_
  refine v_iconst F (v := 0) dL_law_678 (by decide) ?_
  refine v_lald F ⟨by decide, by decide, by decide⟩ dL_law_679 ?_
  refine v_toprl ((fTellJ (M 0) tc j w).toInt64) pk_uLs ?_
  refine v_iload F dL_law_680 0 rfl ?_
  refine v_i2l F dL_law_682 ?_
  refine v_lcmp F dL_law_683 ?_
  refine v_if_eq F (tgt := 689) dL_law_684 (by decide) (fun c684 => ?_) (fun h => absurd ((lg_self _)) h)
  refine v_goto F (tgt := 1183) dL_law_689 (by decide) ?_
  refine v_locs [2, 3, 4, 5, 6] rfl ?_
  refine v_widen (k := cells + 122) (n := slots + 871) (by omega) (by omega) ?_
  exact K _ _ ⟨_, _, _, _, Inv_q I 0, by omega⟩
set_option maxHeartbeats 4000000 in
set_option maxRecDepth 100000 in
theorem w_juggler_j (F : Fx p l s m #[Value.ref b] meth c cL_law 9 RL X) (hX : va_X b L xs s s.heap) (hbl : b < s.heap.size) (hbase : X.2.2.2 = s.heap.size) {i kk jc tc bt : Nat} {ln : Nat → Nat} (hi : i + 3 < L) (hL : L ≤ 2048) (hc : cells + 122 ≤ 601024) (hs : slots + 871 ≤ 7293034) (I : Inv (M 0) (M 2) (M 3) jc tc bt ln) (hbk : bt ≤ 200 * kk) (hkk : kk ≤ 512) (hx : (xs (i + 1) < 0 ∨ nI jc ≤ xs (i + 1)))  (K : ∀ (M' : Mem) (lf' : Lf), LInv M' (kk + 1) → V p l e room_1 s m #[Value.ref b] below meth c Q X 9 [] (M') (lf') (cells + 122) (slots + 871) 1183 [(4, .int (nI i)), (3, .ref (X.2.1 6 0 0)), (2, .ref (X.2.1 2 0 0)), (1, .ref (X.2.1 5 0 0)), (0, .ref b)] []) : V p l e room_1 s m #[Value.ref b] below meth c Q X 9 [] (M) (lf) (cells) (slots) 624 [(4, .int (nI i)), (3, .ref (X.2.1 6 0 0)), (2, .ref (X.2.1 2 0 0)), (1, .ref (X.2.1 5 0 0)), (0, .ref b)] [] := by
  have G : Gx X l := ⟨F.2.2.1, F.2.2.2.2⟩
  refine v_aload_n F dL_law_624 rfl 3 rfl ?_
  refine v_aload_n F dL_law_625 rfl 4 rfl ?_
  refine v_iload F dL_law_626 0 rfl ?_
  refine v_iconst F (v := nI 1) dL_law_628 (by decide) ?_
  refine v_iadd F dL_law_629 ?_
  refine v_topr (nI (i + 1)) (nI_add i 1) ?_
  refine v_sld F hX hbl hbase (i + 1) (Ix_nI (by omega) (by omega)) dL_law_630 ?_
  refine v_aload_n F dL_law_631 rfl 4 rfl ?_
  refine v_iload F dL_law_632 0 rfl ?_
  refine v_iconst F (v := nI 2) dL_law_634 (by decide) ?_
  refine v_iadd F dL_law_635 ?_
  refine v_topr (nI (i + 2)) (nI_add i 2) ?_
  refine v_sld F hX hbl hbase (i + 2) (Ix_nI (by omega) (by omega)) dL_law_636 ?_
  refine v_aload_n F dL_law_637 rfl 1 rfl ?_
  refine v_callSHi F (n := 4) (As := [_, _, _, _]) (rest := []) rfl (x_L_juggler_j G I.1.1.1 hx) wc_L_juggler wml_L_98 wst_L_juggler wini_L (by decide +kernel) rfl ⟨rfl, rfl, Nat.le_of_ble_eq_true rfl, Nat.le_of_ble_eq_true rfl, rm1 hc (by exact Nat.le_of_ble_eq_true rfl), rm1 hs (by exact Nat.le_of_ble_eq_true rfl), Nat.le_of_ble_eq_true rfl⟩ dL_law_638 ?_
  refine v_istore F dL_law_641 (by decide) (lv' := [(5, .int _), (4, .int _), (3, .ref _), (2, .ref _), (1, .ref _), (0, .ref _)]) rfl ?_
  refine v_aload_n F dL_law_643 rfl 3 rfl ?_
  refine v_aload_n F dL_law_644 rfl 5 rfl ?_
  refine v_iload F dL_law_645 1 rfl ?_
  refine v_iconst F (v := nI 1) dL_law_647 (by decide) ?_
  refine v_iadd F dL_law_648 ?_
  refine v_topr (nI (i + 1)) (nI_add i 1) ?_
  refine v_sld F hX hbl hbase (i + 1) (Ix_nI (by omega) (by omega)) dL_law_649 ?_
  refine v_aload_n F dL_law_650 rfl 5 rfl ?_
  refine v_iload F dL_law_651 1 rfl ?_
  refine v_iconst F (v := nI 2) dL_law_653 (by decide) ?_
  refine v_iadd F dL_law_654 ?_
  refine v_topr (nI (i + 2)) (nI_add i 2) ?_
  refine v_sld F hX hbl hbase (i + 2) (Ix_nI (by omega) (by omega)) dL_law_655 ?_
  refine v_callVi F (As := [_, _]) (rest := []) rfl (c_X6R_juggler_j (M := M) G I.1 hx) Rv_Q wm_L_100 rfl ⟨rfl, rfl, Nat.le_of_ble_eq_true rfl, Nat.le_of_ble_eq_true rfl, rm2 hc (by exact Nat.le_of_ble_eq_true rfl), rm2 hs (by exact Nat.le_of_ble_eq_true rfl), Nat.le_of_ble_eq_true rfl⟩ dL_law_656 ?_
  refine v_istore F dL_law_659 (by decide) (lv' := [(6, .int _), (5, .int _), (4, .int _), (3, .ref _), (2, .ref _), (1, .ref _), (0, .ref _)]) rfl ?_
  refine v_aload_n F dL_law_661 rfl 4 rfl ?_
  refine v_callVi F (As := []) (rest := []) rfl (c_X6_thrown G) Rv_Q wm_L_74 rfl ⟨rfl, rfl, Nat.le_of_ble_eq_true rfl, Nat.le_of_ble_eq_true rfl, rm3 hc (by exact Nat.le_of_ble_eq_true rfl), rm3 hs (by exact Nat.le_of_ble_eq_true rfl), Nat.le_of_ble_eq_true rfl⟩ dL_law_662 ?_
  refine v_topr (1) (show u3 (u3 (M 2) 0 0 0 0) 0 0 0 1 0 0 0 = 1 from u3_at _ _ _ _ _) ?_
  refine v_iload F dL_law_665 1 rfl ?_
  refine v_icmp_eq F (tgt := 672) dL_law_667 (by decide) (fun c667 => ?_) (fun h => absurd (rfl) h)
  refine v_iload F dL_law_672 1 rfl ?_
  refine v_if_ne F (tgt := 689) dL_law_674 (by decide) (fun c674 => ?_) (fun h => absurd h ((by decide)))
  refine v_goto F (tgt := 1183) dL_law_689 (by decide) ?_
  refine v_locs [2, 3, 4, 5, 6] rfl ?_
  refine v_widen (k := cells + 122) (n := slots + 871) (by omega) (by omega) ?_
  exact K _ _ ⟨_, _, _, _, Inv_q (Inv_q I 0) 1, by omega⟩
set_option maxHeartbeats 4000000 in
set_option maxRecDepth 100000 in
theorem w_juggler_w (F : Fx p l s m #[Value.ref b] meth c cL_law 9 RL X) (hX : va_X b L xs s s.heap) (hbl : b < s.heap.size) (hbase : X.2.2.2 = s.heap.size) {i kk jc tc bt : Nat} {ln : Nat → Nat} (hi : i + 3 < L) (hL : L ≤ 2048) (hc : cells + 122 ≤ 601024) (hs : slots + 871 ≤ 7293034) (I : Inv (M 0) (M 2) (M 3) jc tc bt ln) (hbk : bt ≤ 200 * kk) (hkk : kk ≤ 512) {j : Nat} (hj : j < jc) (e1 : xs (i + 1) = nI j) (hx : (xs (i + 2) < 0 ∨ nI 7 ≤ xs (i + 2)))  (K : ∀ (M' : Mem) (lf' : Lf), LInv M' (kk + 1) → V p l e room_1 s m #[Value.ref b] below meth c Q X 9 [] (M') (lf') (cells + 122) (slots + 871) 1183 [(4, .int (nI i)), (3, .ref (X.2.1 6 0 0)), (2, .ref (X.2.1 2 0 0)), (1, .ref (X.2.1 5 0 0)), (0, .ref b)] []) : V p l e room_1 s m #[Value.ref b] below meth c Q X 9 [] (M) (lf) (cells) (slots) 624 [(4, .int (nI i)), (3, .ref (X.2.1 6 0 0)), (2, .ref (X.2.1 2 0 0)), (1, .ref (X.2.1 5 0 0)), (0, .ref b)] [] := by
  have G : Gx X l := ⟨F.2.2.1, F.2.2.2.2⟩
  refine v_aload_n F dL_law_624 rfl 3 rfl ?_
  refine v_aload_n F dL_law_625 rfl 4 rfl ?_
  refine v_iload F dL_law_626 0 rfl ?_
  refine v_iconst F (v := nI 1) dL_law_628 (by decide) ?_
  refine v_iadd F dL_law_629 ?_
  refine v_topr (nI (i + 1)) (nI_add i 1) ?_
  refine v_sld F hX hbl hbase (i + 1) (Ix_nI (by omega) (by omega)) dL_law_630 ?_
  refine v_topr (nI j) e1 ?_
  refine v_aload_n F dL_law_631 rfl 4 rfl ?_
  refine v_iload F dL_law_632 0 rfl ?_
  refine v_iconst F (v := nI 2) dL_law_634 (by decide) ?_
  refine v_iadd F dL_law_635 ?_
  refine v_topr (nI (i + 2)) (nI_add i 2) ?_
  refine v_sld F hX hbl hbase (i + 2) (Ix_nI (by omega) (by omega)) dL_law_636 ?_
  refine v_aload_n F dL_law_637 rfl 1 rfl ?_
  refine v_callSHi F (n := 4) (As := [_, _, _, _]) (rest := []) rfl (x_L_juggler_w G I.1.1.1 hj hx) wc_L_juggler wml_L_98 wst_L_juggler wini_L (by decide +kernel) rfl ⟨rfl, rfl, Nat.le_of_ble_eq_true rfl, Nat.le_of_ble_eq_true rfl, rm1 hc (by exact Nat.le_of_ble_eq_true rfl), rm1 hs (by exact Nat.le_of_ble_eq_true rfl), Nat.le_of_ble_eq_true rfl⟩ dL_law_638 ?_
  refine v_istore F dL_law_641 (by decide) (lv' := [(5, .int _), (4, .int _), (3, .ref _), (2, .ref _), (1, .ref _), (0, .ref _)]) rfl ?_
  refine v_aload_n F dL_law_643 rfl 3 rfl ?_
  refine v_aload_n F dL_law_644 rfl 5 rfl ?_
  refine v_iload F dL_law_645 1 rfl ?_
  refine v_iconst F (v := nI 1) dL_law_647 (by decide) ?_
  refine v_iadd F dL_law_648 ?_
  refine v_topr (nI (i + 1)) (nI_add i 1) ?_
  refine v_sld F hX hbl hbase (i + 1) (Ix_nI (by omega) (by omega)) dL_law_649 ?_
  refine v_topr (nI j) e1 ?_
  refine v_aload_n F dL_law_650 rfl 5 rfl ?_
  refine v_iload F dL_law_651 1 rfl ?_
  refine v_iconst F (v := nI 2) dL_law_653 (by decide) ?_
  refine v_iadd F dL_law_654 ?_
  refine v_topr (nI (i + 2)) (nI_add i 2) ?_
  refine v_sld F hX hbl hbase (i + 2) (Ix_nI (by omega) (by omega)) dL_law_655 ?_
  refine v_callVi F (As := [_, _]) (rest := []) rfl (c_X6R_juggler_w (M := M) G I.1 hj hx) Rv_Q wm_L_100 rfl ⟨rfl, rfl, Nat.le_of_ble_eq_true rfl, Nat.le_of_ble_eq_true rfl, rm2 hc (by exact Nat.le_of_ble_eq_true rfl), rm2 hs (by exact Nat.le_of_ble_eq_true rfl), Nat.le_of_ble_eq_true rfl⟩ dL_law_656 ?_
  refine v_istore F dL_law_659 (by decide) (lv' := [(6, .int _), (5, .int _), (4, .int _), (3, .ref _), (2, .ref _), (1, .ref _), (0, .ref _)]) rfl ?_
  refine v_aload_n F dL_law_661 rfl 4 rfl ?_
  refine v_callVi F (As := []) (rest := []) rfl (c_X6_thrown G) Rv_Q wm_L_74 rfl ⟨rfl, rfl, Nat.le_of_ble_eq_true rfl, Nat.le_of_ble_eq_true rfl, rm3 hc (by exact Nat.le_of_ble_eq_true rfl), rm3 hs (by exact Nat.le_of_ble_eq_true rfl), Nat.le_of_ble_eq_true rfl⟩ dL_law_662 ?_
  refine v_topr (1) (show u3 (u3 (M 2) 0 0 0 0) 0 0 0 1 0 0 0 = 1 from u3_at _ _ _ _ _) ?_
  refine v_iload F dL_law_665 1 rfl ?_
  refine v_icmp_eq F (tgt := 672) dL_law_667 (by decide) (fun c667 => ?_) (fun h => absurd (rfl) h)
  refine v_iload F dL_law_672 1 rfl ?_
  refine v_if_ne F (tgt := 689) dL_law_674 (by decide) (fun c674 => ?_) (fun h => absurd h ((by decide)))
  refine v_goto F (tgt := 1183) dL_law_689 (by decide) ?_
  refine v_locs [2, 3, 4, 5, 6] rfl ?_
  refine v_widen (k := cells + 122) (n := slots + 871) (by omega) (by omega) ?_
  exact K _ _ ⟨_, _, _, _, Inv_q (Inv_q I 0) 1, by omega⟩
set_option maxHeartbeats 4000000 in
set_option maxRecDepth 100000 in
theorem w_lasts (F : Fx p l s m #[Value.ref b] meth c cL_law 9 RL X) (hX : va_X b L xs s s.heap) (hbl : b < s.heap.size) (hbase : X.2.2.2 = s.heap.size) {i kk jc tc bt : Nat} {ln : Nat → Nat} (hi : i + 3 < L) (hL : L ≤ 2048) (hc : cells + 122 ≤ 601024) (hs : slots + 871 ≤ 7293034) (I : Inv (M 0) (M 2) (M 3) jc tc bt ln) (hbk : bt ≤ 200 * kk) (hkk : kk ≤ 512) {j : Nat} (hj : j < jc) (e1 : xs (i + 1) = nI j)  (K : ∀ (M' : Mem) (lf' : Lf), LInv M' (kk + 1) → V p l e room_1 s m #[Value.ref b] below meth c Q X 9 [] (M') (lf') (cells + 122) (slots + 871) 1183 [(4, .int (nI i)), (3, .ref (X.2.1 6 0 0)), (2, .ref (X.2.1 2 0 0)), (1, .ref (X.2.1 5 0 0)), (0, .ref b)] []) : V p l e room_1 s m #[Value.ref b] below meth c Q X 9 [] (M) (lf) (cells) (slots) 692 [(4, .int (nI i)), (3, .ref (X.2.1 6 0 0)), (2, .ref (X.2.1 2 0 0)), (1, .ref (X.2.1 5 0 0)), (0, .ref b)] [] := by
  have G : Gx X l := ⟨F.2.2.1, F.2.2.2.2⟩
  refine v_aload_n F dL_law_692 rfl 3 rfl ?_
  refine v_aload_n F dL_law_693 rfl 4 rfl ?_
  refine v_iload F dL_law_694 0 rfl ?_
  refine v_iconst F (v := nI 1) dL_law_696 (by decide) ?_
  refine v_iadd F dL_law_697 ?_
  refine v_topr (nI (i + 1)) (nI_add i 1) ?_
  refine v_sld F hX hbl hbase (i + 1) (Ix_nI (by omega) (by omega)) dL_law_698 ?_
  refine v_topr (nI j) e1 ?_
  refine v_aload_n F dL_law_699 rfl 1 rfl ?_
  refine v_callSHi F (n := 3) (As := [_, _, _]) (rest := []) rfl (c_L_lasts G I.1.1.1 hj) wc_L_lasts wml_L_101 wst_L_lasts wini_L (by decide +kernel) rfl ⟨rfl, rfl, Nat.le_of_ble_eq_true rfl, Nat.le_of_ble_eq_true rfl, rm1 hc (by exact Nat.le_of_ble_eq_true rfl), rm1 hs (by exact Nat.le_of_ble_eq_true rfl), Nat.le_of_ble_eq_true rfl⟩ dL_law_700 ?_
  refine v_istore F dL_law_703 (by decide) (lv' := [(5, .int _), (4, .int _), (3, .ref _), (2, .ref _), (1, .ref _), (0, .ref _)]) rfl ?_
  refine v_aload_n F dL_law_705 rfl 3 rfl ?_
  refine v_aload_n F dL_law_706 rfl 5 rfl ?_
  refine v_iload F dL_law_707 1 rfl ?_
  refine v_iconst F (v := nI 1) dL_law_709 (by decide) ?_
  refine v_iadd F dL_law_710 ?_
  refine v_topr (nI (i + 1)) (nI_add i 1) ?_
  refine v_sld F hX hbl hbase (i + 1) (Ix_nI (by omega) (by omega)) dL_law_711 ?_
  refine v_topr (nI j) e1 ?_
  refine v_callVi F (As := [_]) (rest := []) rfl (c_X6_lasts (M := M) G I.1 hj) Rv_Q wm_L_103 rfl ⟨rfl, rfl, Nat.le_of_ble_eq_true rfl, Nat.le_of_ble_eq_true rfl, rm2 hc (by exact Nat.le_of_ble_eq_true rfl), rm2 hs (by exact Nat.le_of_ble_eq_true rfl), Nat.le_of_ble_eq_true rfl⟩ dL_law_712 ?_
  refine v_istore F dL_law_715 (by decide) (lv' := [(6, .int _), (5, .int _), (4, .int _), (3, .ref _), (2, .ref _), (1, .ref _), (0, .ref _)]) rfl ?_
  refine v_aload_n F dL_law_717 rfl 4 rfl ?_
  refine v_callVi F (As := []) (rest := []) rfl (c_X6_thrown G) Rv_Q wm_L_74 rfl ⟨rfl, rfl, Nat.le_of_ble_eq_true rfl, Nat.le_of_ble_eq_true rfl, rm3 hc (by exact Nat.le_of_ble_eq_true rfl), rm3 hs (by exact Nat.le_of_ble_eq_true rfl), Nat.le_of_ble_eq_true rfl⟩ dL_law_718 ?_
  refine v_topr (0) (show (u3 (M 2) 0 0 0 0) 0 0 0 = 0 from u3_at _ _ _ _ _) ?_
  refine v_iload F dL_law_721 1 rfl ?_
  refine v_icmp_eq F (tgt := 728) dL_law_723 (by decide) (fun c723 => ?_) (fun h => absurd (rfl) h)
  refine v_iload F dL_law_728 1 rfl ?_
  refine v_if_ne F (tgt := 752) dL_law_730 (by decide) (fun h => absurd (rfl) h) (fun c730 => ?_)
  refine v_aload_n F dL_law_733 rfl 3 rfl ?_
  refine v_iconst F (v := 0) dL_law_734 (by decide) ?_
  refine v_lald F ⟨by decide, by decide, by decide⟩ dL_law_735 ?_
  refine v_toprl ((fLands (M 0) j (ln j)).toInt64) pk_uLs ?_
  refine v_iload F dL_law_736 0 rfl ?_
  refine v_if_eq F (tgt := 745) dL_law_738 (by decide) (fun c738 => ?_) (fun c738 => ?_)
  · have := c738
    refine v_lconst F (v := 0) dL_law_745 (by decide) ?_
    refine v_toprl ((fLands (M 0) j (ln j)).toInt64) (by rw [c738]; rfl) ?_
    refine v_lcmp F dL_law_746 ?_
    refine v_if_eq F (tgt := 752) dL_law_747 (by decide) (fun c747 => ?_) (fun h => absurd ((lg_self _)) h)
    refine v_goto F (tgt := 1183) dL_law_752 (by decide) ?_
    refine v_locs [2, 3, 4, 5, 6] rfl ?_
    refine v_widen (k := cells + 122) (n := slots + 871) (by omega) (by omega) ?_
    exact K _ _ ⟨_, _, _, _, Inv_q I 0, by omega⟩
  · have := c738
    have hv : (1 : Int64) = (fLands (M 0) j (ln j)).toInt64 := by rw [show fLands (M 0) j (ln j) = 1 from (laL_01 (M 0) j (ln j) (ln j) 0 0).resolve_left c738]; rfl
    refine v_lconst F (v := 1) dL_law_741 (by decide) ?_
    refine v_toprl _ hv ?_
    refine v_goto F (tgt := 746) dL_law_742 (by decide) ?_
    refine v_lcmp F dL_law_746 ?_
    refine v_if_eq F (tgt := 752) dL_law_747 (by decide) (fun c747 => ?_) (fun h => absurd ((lg_self _)) h)
    refine v_goto F (tgt := 1183) dL_law_752 (by decide) ?_
    refine v_locs [2, 3, 4, 5, 6] rfl ?_
    refine v_widen (k := cells + 122) (n := slots + 871) (by omega) (by omega) ?_
    exact K _ _ ⟨_, _, _, _, Inv_q I 0, by omega⟩
set_option maxHeartbeats 4000000 in
set_option maxRecDepth 100000 in
theorem w_lasts_j (F : Fx p l s m #[Value.ref b] meth c cL_law 9 RL X) (hX : va_X b L xs s s.heap) (hbl : b < s.heap.size) (hbase : X.2.2.2 = s.heap.size) {i kk jc tc bt : Nat} {ln : Nat → Nat} (hi : i + 3 < L) (hL : L ≤ 2048) (hc : cells + 122 ≤ 601024) (hs : slots + 871 ≤ 7293034) (I : Inv (M 0) (M 2) (M 3) jc tc bt ln) (hbk : bt ≤ 200 * kk) (hkk : kk ≤ 512) (hx : (xs (i + 1) < 0 ∨ nI jc ≤ xs (i + 1)))  (K : ∀ (M' : Mem) (lf' : Lf), LInv M' (kk + 1) → V p l e room_1 s m #[Value.ref b] below meth c Q X 9 [] (M') (lf') (cells + 122) (slots + 871) 1183 [(4, .int (nI i)), (3, .ref (X.2.1 6 0 0)), (2, .ref (X.2.1 2 0 0)), (1, .ref (X.2.1 5 0 0)), (0, .ref b)] []) : V p l e room_1 s m #[Value.ref b] below meth c Q X 9 [] (M) (lf) (cells) (slots) 692 [(4, .int (nI i)), (3, .ref (X.2.1 6 0 0)), (2, .ref (X.2.1 2 0 0)), (1, .ref (X.2.1 5 0 0)), (0, .ref b)] [] := by
  have G : Gx X l := ⟨F.2.2.1, F.2.2.2.2⟩
  refine v_aload_n F dL_law_692 rfl 3 rfl ?_
  refine v_aload_n F dL_law_693 rfl 4 rfl ?_
  refine v_iload F dL_law_694 0 rfl ?_
  refine v_iconst F (v := nI 1) dL_law_696 (by decide) ?_
  refine v_iadd F dL_law_697 ?_
  refine v_topr (nI (i + 1)) (nI_add i 1) ?_
  refine v_sld F hX hbl hbase (i + 1) (Ix_nI (by omega) (by omega)) dL_law_698 ?_
  refine v_aload_n F dL_law_699 rfl 1 rfl ?_
  refine v_callSHi F (n := 3) (As := [_, _, _]) (rest := []) rfl (x_L_lasts G I.1.1.1 hx) wc_L_lasts wml_L_101 wst_L_lasts wini_L (by decide +kernel) rfl ⟨rfl, rfl, Nat.le_of_ble_eq_true rfl, Nat.le_of_ble_eq_true rfl, rm1 hc (by exact Nat.le_of_ble_eq_true rfl), rm1 hs (by exact Nat.le_of_ble_eq_true rfl), Nat.le_of_ble_eq_true rfl⟩ dL_law_700 ?_
  refine v_istore F dL_law_703 (by decide) (lv' := [(5, .int _), (4, .int _), (3, .ref _), (2, .ref _), (1, .ref _), (0, .ref _)]) rfl ?_
  refine v_aload_n F dL_law_705 rfl 3 rfl ?_
  refine v_aload_n F dL_law_706 rfl 5 rfl ?_
  refine v_iload F dL_law_707 1 rfl ?_
  refine v_iconst F (v := nI 1) dL_law_709 (by decide) ?_
  refine v_iadd F dL_law_710 ?_
  refine v_topr (nI (i + 1)) (nI_add i 1) ?_
  refine v_sld F hX hbl hbase (i + 1) (Ix_nI (by omega) (by omega)) dL_law_711 ?_
  refine v_callVi F (As := [_]) (rest := []) rfl (c_X6_lasts_j (M := M) G I.1 hx) Rv_Q wm_L_103 rfl ⟨rfl, rfl, Nat.le_of_ble_eq_true rfl, Nat.le_of_ble_eq_true rfl, rm2 hc (by exact Nat.le_of_ble_eq_true rfl), rm2 hs (by exact Nat.le_of_ble_eq_true rfl), Nat.le_of_ble_eq_true rfl⟩ dL_law_712 ?_
  refine v_istore F dL_law_715 (by decide) (lv' := [(6, .int _), (5, .int _), (4, .int _), (3, .ref _), (2, .ref _), (1, .ref _), (0, .ref _)]) rfl ?_
  refine v_aload_n F dL_law_717 rfl 4 rfl ?_
  refine v_callVi F (As := []) (rest := []) rfl (c_X6_thrown G) Rv_Q wm_L_74 rfl ⟨rfl, rfl, Nat.le_of_ble_eq_true rfl, Nat.le_of_ble_eq_true rfl, rm3 hc (by exact Nat.le_of_ble_eq_true rfl), rm3 hs (by exact Nat.le_of_ble_eq_true rfl), Nat.le_of_ble_eq_true rfl⟩ dL_law_718 ?_
  refine v_topr (1) (show u3 (u3 (M 2) 0 0 0 0) 0 0 0 1 0 0 0 = 1 from u3_at _ _ _ _ _) ?_
  refine v_iload F dL_law_721 1 rfl ?_
  refine v_icmp_eq F (tgt := 728) dL_law_723 (by decide) (fun c723 => ?_) (fun h => absurd (rfl) h)
  refine v_iload F dL_law_728 1 rfl ?_
  refine v_if_ne F (tgt := 752) dL_law_730 (by decide) (fun c730 => ?_) (fun h => absurd h ((by decide)))
  refine v_goto F (tgt := 1183) dL_law_752 (by decide) ?_
  refine v_locs [2, 3, 4, 5, 6] rfl ?_
  refine v_widen (k := cells + 122) (n := slots + 871) (by omega) (by omega) ?_
  exact K _ _ ⟨_, _, _, _, Inv_q (Inv_q I 0) 1, by omega⟩
set_option maxHeartbeats 4000000 in
set_option maxRecDepth 100000 in
theorem w_asks (F : Fx p l s m #[Value.ref b] meth c cL_law 9 RL X) (hX : va_X b L xs s s.heap) (hbl : b < s.heap.size) (hbase : X.2.2.2 = s.heap.size) {i kk jc tc bt : Nat} {ln : Nat → Nat} (hi : i + 3 < L) (hL : L ≤ 2048) (hc : cells + 122 ≤ 601024) (hs : slots + 871 ≤ 7293034) (I : Inv (M 0) (M 2) (M 3) jc tc bt ln) (hbk : bt ≤ 200 * kk) (hkk : kk ≤ 512) {j : Nat} (hj : j < jc) (e1 : xs (i + 1) = nI j)  (K : ∀ (M' : Mem) (lf' : Lf), LInv M' (kk + 1) → V p l e room_1 s m #[Value.ref b] below meth c Q X 9 [] (M') (lf') (cells + 122) (slots + 871) 1183 [(4, .int (nI i)), (3, .ref (X.2.1 6 0 0)), (2, .ref (X.2.1 2 0 0)), (1, .ref (X.2.1 5 0 0)), (0, .ref b)] []) : V p l e room_1 s m #[Value.ref b] below meth c Q X 9 [] (M) (lf) (cells) (slots) 755 [(4, .int (nI i)), (3, .ref (X.2.1 6 0 0)), (2, .ref (X.2.1 2 0 0)), (1, .ref (X.2.1 5 0 0)), (0, .ref b)] [] := by
  have G : Gx X l := ⟨F.2.2.1, F.2.2.2.2⟩
  refine v_aload_n F dL_law_755 rfl 3 rfl ?_
  refine v_aload_n F dL_law_756 rfl 4 rfl ?_
  refine v_iload F dL_law_757 0 rfl ?_
  refine v_iconst F (v := nI 1) dL_law_759 (by decide) ?_
  refine v_iadd F dL_law_760 ?_
  refine v_topr (nI (i + 1)) (nI_add i 1) ?_
  refine v_sld F hX hbl hbase (i + 1) (Ix_nI (by omega) (by omega)) dL_law_761 ?_
  refine v_topr (nI j) e1 ?_
  refine v_aload_n F dL_law_762 rfl 1 rfl ?_
  refine v_callSHi F (n := 3) (As := [_, _, _]) (rest := []) rfl (c_L_asks G I.1.1.1 hj) wc_L_asks wml_L_104 wst_L_asks wini_L (by decide +kernel) rfl ⟨rfl, rfl, Nat.le_of_ble_eq_true rfl, Nat.le_of_ble_eq_true rfl, rm1 hc (by exact Nat.le_of_ble_eq_true rfl), rm1 hs (by exact Nat.le_of_ble_eq_true rfl), Nat.le_of_ble_eq_true rfl⟩ dL_law_763 ?_
  refine v_istore F dL_law_766 (by decide) (lv' := [(5, .int _), (4, .int _), (3, .ref _), (2, .ref _), (1, .ref _), (0, .ref _)]) rfl ?_
  refine v_aload_n F dL_law_768 rfl 3 rfl ?_
  refine v_aload_n F dL_law_769 rfl 5 rfl ?_
  refine v_iload F dL_law_770 1 rfl ?_
  refine v_iconst F (v := nI 1) dL_law_772 (by decide) ?_
  refine v_iadd F dL_law_773 ?_
  refine v_topr (nI (i + 1)) (nI_add i 1) ?_
  refine v_sld F hX hbl hbase (i + 1) (Ix_nI (by omega) (by omega)) dL_law_774 ?_
  refine v_topr (nI j) e1 ?_
  refine v_callVi F (As := [_]) (rest := []) rfl (c_X6_asks (M := M) G I.1 hj) Rv_Q wm_L_106 rfl ⟨rfl, rfl, Nat.le_of_ble_eq_true rfl, Nat.le_of_ble_eq_true rfl, rm2 hc (by exact Nat.le_of_ble_eq_true rfl), rm2 hs (by exact Nat.le_of_ble_eq_true rfl), Nat.le_of_ble_eq_true rfl⟩ dL_law_775 ?_
  refine v_istore F dL_law_778 (by decide) (lv' := [(6, .int _), (5, .int _), (4, .int _), (3, .ref _), (2, .ref _), (1, .ref _), (0, .ref _)]) rfl ?_
  refine v_aload_n F dL_law_780 rfl 4 rfl ?_
  refine v_callVi F (As := []) (rest := []) rfl (c_X6_thrown G) Rv_Q wm_L_74 rfl ⟨rfl, rfl, Nat.le_of_ble_eq_true rfl, Nat.le_of_ble_eq_true rfl, rm3 hc (by exact Nat.le_of_ble_eq_true rfl), rm3 hs (by exact Nat.le_of_ble_eq_true rfl), Nat.le_of_ble_eq_true rfl⟩ dL_law_781 ?_
  refine v_topr (0) (show (u3 (M 2) 0 0 0 0) 0 0 0 = 0 from u3_at _ _ _ _ _) ?_
  refine v_iload F dL_law_784 1 rfl ?_
  refine v_icmp_eq F (tgt := 791) dL_law_786 (by decide) (fun c786 => ?_) (fun h => absurd (rfl) h)
  refine v_iload F dL_law_791 1 rfl ?_
  refine v_if_ne F (tgt := 808) dL_law_793 (by decide) (fun h => absurd (rfl) h) (fun c793 => ?_)
  refine v_aload_n F dL_law_796 rfl 3 rfl ?_
  refine v_iconst F (v := 0) dL_law_797 (by decide) ?_
  refine v_lald F ⟨by decide, by decide, by decide⟩ dL_law_798 ?_
  refine v_toprl ((fAsks (M 0) j (ln j)).toInt64) pk_uLs ?_
  refine v_iload F dL_law_799 0 rfl ?_
  refine v_i2l F dL_law_801 ?_
  refine v_lcmp F dL_law_802 ?_
  refine v_if_eq F (tgt := 808) dL_law_803 (by decide) (fun c803 => ?_) (fun h => absurd ((lg_self _)) h)
  refine v_goto F (tgt := 1183) dL_law_808 (by decide) ?_
  refine v_locs [2, 3, 4, 5, 6] rfl ?_
  refine v_widen (k := cells + 122) (n := slots + 871) (by omega) (by omega) ?_
  exact K _ _ ⟨_, _, _, _, Inv_q I 0, by omega⟩
set_option maxHeartbeats 4000000 in
set_option maxRecDepth 100000 in
theorem w_asks_j (F : Fx p l s m #[Value.ref b] meth c cL_law 9 RL X) (hX : va_X b L xs s s.heap) (hbl : b < s.heap.size) (hbase : X.2.2.2 = s.heap.size) {i kk jc tc bt : Nat} {ln : Nat → Nat} (hi : i + 3 < L) (hL : L ≤ 2048) (hc : cells + 122 ≤ 601024) (hs : slots + 871 ≤ 7293034) (I : Inv (M 0) (M 2) (M 3) jc tc bt ln) (hbk : bt ≤ 200 * kk) (hkk : kk ≤ 512) (hx : (xs (i + 1) < 0 ∨ nI jc ≤ xs (i + 1)))  (K : ∀ (M' : Mem) (lf' : Lf), LInv M' (kk + 1) → V p l e room_1 s m #[Value.ref b] below meth c Q X 9 [] (M') (lf') (cells + 122) (slots + 871) 1183 [(4, .int (nI i)), (3, .ref (X.2.1 6 0 0)), (2, .ref (X.2.1 2 0 0)), (1, .ref (X.2.1 5 0 0)), (0, .ref b)] []) : V p l e room_1 s m #[Value.ref b] below meth c Q X 9 [] (M) (lf) (cells) (slots) 755 [(4, .int (nI i)), (3, .ref (X.2.1 6 0 0)), (2, .ref (X.2.1 2 0 0)), (1, .ref (X.2.1 5 0 0)), (0, .ref b)] [] := by
  have G : Gx X l := ⟨F.2.2.1, F.2.2.2.2⟩
  refine v_aload_n F dL_law_755 rfl 3 rfl ?_
  refine v_aload_n F dL_law_756 rfl 4 rfl ?_
  refine v_iload F dL_law_757 0 rfl ?_
  refine v_iconst F (v := nI 1) dL_law_759 (by decide) ?_
  refine v_iadd F dL_law_760 ?_
  refine v_topr (nI (i + 1)) (nI_add i 1) ?_
  refine v_sld F hX hbl hbase (i + 1) (Ix_nI (by omega) (by omega)) dL_law_761 ?_
  refine v_aload_n F dL_law_762 rfl 1 rfl ?_
  refine v_callSHi F (n := 3) (As := [_, _, _]) (rest := []) rfl (x_L_asks G I.1.1.1 hx) wc_L_asks wml_L_104 wst_L_asks wini_L (by decide +kernel) rfl ⟨rfl, rfl, Nat.le_of_ble_eq_true rfl, Nat.le_of_ble_eq_true rfl, rm1 hc (by exact Nat.le_of_ble_eq_true rfl), rm1 hs (by exact Nat.le_of_ble_eq_true rfl), Nat.le_of_ble_eq_true rfl⟩ dL_law_763 ?_
  refine v_istore F dL_law_766 (by decide) (lv' := [(5, .int _), (4, .int _), (3, .ref _), (2, .ref _), (1, .ref _), (0, .ref _)]) rfl ?_
  refine v_aload_n F dL_law_768 rfl 3 rfl ?_
  refine v_aload_n F dL_law_769 rfl 5 rfl ?_
  refine v_iload F dL_law_770 1 rfl ?_
  refine v_iconst F (v := nI 1) dL_law_772 (by decide) ?_
  refine v_iadd F dL_law_773 ?_
  refine v_topr (nI (i + 1)) (nI_add i 1) ?_
  refine v_sld F hX hbl hbase (i + 1) (Ix_nI (by omega) (by omega)) dL_law_774 ?_
  refine v_callVi F (As := [_]) (rest := []) rfl (c_X6_asks_j (M := M) G I.1 hx) Rv_Q wm_L_106 rfl ⟨rfl, rfl, Nat.le_of_ble_eq_true rfl, Nat.le_of_ble_eq_true rfl, rm2 hc (by exact Nat.le_of_ble_eq_true rfl), rm2 hs (by exact Nat.le_of_ble_eq_true rfl), Nat.le_of_ble_eq_true rfl⟩ dL_law_775 ?_
  refine v_istore F dL_law_778 (by decide) (lv' := [(6, .int _), (5, .int _), (4, .int _), (3, .ref _), (2, .ref _), (1, .ref _), (0, .ref _)]) rfl ?_
  refine v_aload_n F dL_law_780 rfl 4 rfl ?_
  refine v_callVi F (As := []) (rest := []) rfl (c_X6_thrown G) Rv_Q wm_L_74 rfl ⟨rfl, rfl, Nat.le_of_ble_eq_true rfl, Nat.le_of_ble_eq_true rfl, rm3 hc (by exact Nat.le_of_ble_eq_true rfl), rm3 hs (by exact Nat.le_of_ble_eq_true rfl), Nat.le_of_ble_eq_true rfl⟩ dL_law_781 ?_
  refine v_topr (1) (show u3 (u3 (M 2) 0 0 0 0) 0 0 0 1 0 0 0 = 1 from u3_at _ _ _ _ _) ?_
  refine v_iload F dL_law_784 1 rfl ?_
  refine v_icmp_eq F (tgt := 791) dL_law_786 (by decide) (fun c786 => ?_) (fun h => absurd (rfl) h)
  refine v_iload F dL_law_791 1 rfl ?_
  refine v_if_ne F (tgt := 808) dL_law_793 (by decide) (fun c793 => ?_) (fun h => absurd h ((by decide)))
  refine v_goto F (tgt := 1183) dL_law_808 (by decide) ?_
  refine v_locs [2, 3, 4, 5, 6] rfl ?_
  refine v_widen (k := cells + 122) (n := slots + 871) (by omega) (by omega) ?_
  exact K _ _ ⟨_, _, _, _, Inv_q (Inv_q I 0) 1, by omega⟩
set_option maxHeartbeats 4000000 in
set_option maxRecDepth 100000 in
theorem w_shortest (F : Fx p l s m #[Value.ref b] meth c cL_law 9 RL X) (hX : va_X b L xs s s.heap) (hbl : b < s.heap.size) (hbase : X.2.2.2 = s.heap.size) {i kk jc tc bt : Nat} {ln : Nat → Nat} (hi : i + 3 < L) (hL : L ≤ 2048) (hc : cells + 122 ≤ 601024) (hs : slots + 871 ≤ 7293034) (I : Inv (M 0) (M 2) (M 3) jc tc bt ln) (hbk : bt ≤ 200 * kk) (hkk : kk ≤ 512) {j : Nat} (hj : j < jc) (e1 : xs (i + 1) = nI j)  (K : ∀ (M' : Mem) (lf' : Lf), LInv M' (kk + 1) → V p l e room_1 s m #[Value.ref b] below meth c Q X 9 [] (M') (lf') (cells + 122) (slots + 871) 1183 [(4, .int (nI i)), (3, .ref (X.2.1 6 0 0)), (2, .ref (X.2.1 2 0 0)), (1, .ref (X.2.1 5 0 0)), (0, .ref b)] []) : V p l e room_1 s m #[Value.ref b] below meth c Q X 9 [] (M) (lf) (cells) (slots) 811 [(4, .int (nI i)), (3, .ref (X.2.1 6 0 0)), (2, .ref (X.2.1 2 0 0)), (1, .ref (X.2.1 5 0 0)), (0, .ref b)] [] := by
  have G : Gx X l := ⟨F.2.2.1, F.2.2.2.2⟩
  refine v_aload_n F dL_law_811 rfl 3 rfl ?_
  refine v_aload_n F dL_law_812 rfl 4 rfl ?_
  refine v_iload F dL_law_813 0 rfl ?_
  refine v_iconst F (v := nI 1) dL_law_815 (by decide) ?_
  refine v_iadd F dL_law_816 ?_
  refine v_topr (nI (i + 1)) (nI_add i 1) ?_
  refine v_sld F hX hbl hbase (i + 1) (Ix_nI (by omega) (by omega)) dL_law_817 ?_
  refine v_topr (nI j) e1 ?_
  refine v_aload_n F dL_law_818 rfl 1 rfl ?_
  refine v_callSHi F (n := 3) (As := [_, _, _]) (rest := []) rfl (c_L_shortest G I.1.1.1 hj) wc_L_shortest wml_L_107 wst_L_shortest wini_L (by decide +kernel) rfl ⟨rfl, rfl, Nat.le_of_ble_eq_true rfl, Nat.le_of_ble_eq_true rfl, rm1 hc (by exact Nat.le_of_ble_eq_true rfl), rm1 hs (by exact Nat.le_of_ble_eq_true rfl), Nat.le_of_ble_eq_true rfl⟩ dL_law_819 ?_
  refine v_istore F dL_law_822 (by decide) (lv' := [(5, .int _), (4, .int _), (3, .ref _), (2, .ref _), (1, .ref _), (0, .ref _)]) rfl ?_
  refine v_aload_n F dL_law_824 rfl 3 rfl ?_
  refine v_aload_n F dL_law_825 rfl 5 rfl ?_
  refine v_iload F dL_law_826 1 rfl ?_
  refine v_iconst F (v := nI 1) dL_law_828 (by decide) ?_
  refine v_iadd F dL_law_829 ?_
  refine v_topr (nI (i + 1)) (nI_add i 1) ?_
  refine v_sld F hX hbl hbase (i + 1) (Ix_nI (by omega) (by omega)) dL_law_830 ?_
  refine v_topr (nI j) e1 ?_
  refine v_callVi F (As := [_]) (rest := []) rfl (c_X6_shortest (M := M) G I.1 hj) Rv_Q wm_L_109 rfl ⟨rfl, rfl, Nat.le_of_ble_eq_true rfl, Nat.le_of_ble_eq_true rfl, rm2 hc (by exact Nat.le_of_ble_eq_true rfl), rm2 hs (by exact Nat.le_of_ble_eq_true rfl), Nat.le_of_ble_eq_true rfl⟩ dL_law_831 ?_
  refine v_istore F dL_law_834 (by decide) (lv' := [(6, .int _), (5, .int _), (4, .int _), (3, .ref _), (2, .ref _), (1, .ref _), (0, .ref _)]) rfl ?_
  refine v_aload_n F dL_law_836 rfl 4 rfl ?_
  refine v_callVi F (As := []) (rest := []) rfl (c_X6_thrown G) Rv_Q wm_L_74 rfl ⟨rfl, rfl, Nat.le_of_ble_eq_true rfl, Nat.le_of_ble_eq_true rfl, rm3 hc (by exact Nat.le_of_ble_eq_true rfl), rm3 hs (by exact Nat.le_of_ble_eq_true rfl), Nat.le_of_ble_eq_true rfl⟩ dL_law_837 ?_
  refine v_topr (0) (show (u3 (M 2) 0 0 0 0) 0 0 0 = 0 from u3_at _ _ _ _ _) ?_
  refine v_iload F dL_law_840 1 rfl ?_
  refine v_icmp_eq F (tgt := 847) dL_law_842 (by decide) (fun c842 => ?_) (fun h => absurd (rfl) h)
  refine v_iload F dL_law_847 1 rfl ?_
  refine v_if_ne F (tgt := 864) dL_law_849 (by decide) (fun h => absurd (rfl) h) (fun c849 => ?_)
  refine v_aload_n F dL_law_852 rfl 3 rfl ?_
  refine v_iconst F (v := 0) dL_law_853 (by decide) ?_
  refine v_lald F ⟨by decide, by decide, by decide⟩ dL_law_854 ?_
  refine v_toprl ((nI (fShort (M 0) j (ln j))).toInt64) pk_uLs ?_
  refine v_iload F dL_law_855 0 rfl ?_
  refine v_i2l F dL_law_857 ?_
  refine v_lcmp F dL_law_858 ?_
  refine v_if_eq F (tgt := 864) dL_law_859 (by decide) (fun c859 => ?_) (fun h => absurd ((lg_self _)) h)
  refine v_goto F (tgt := 1183) dL_law_864 (by decide) ?_
  refine v_locs [2, 3, 4, 5, 6] rfl ?_
  refine v_widen (k := cells + 122) (n := slots + 871) (by omega) (by omega) ?_
  exact K _ _ ⟨_, _, _, _, Inv_q I 0, by omega⟩
set_option maxHeartbeats 4000000 in
set_option maxRecDepth 100000 in
theorem w_shortest_j (F : Fx p l s m #[Value.ref b] meth c cL_law 9 RL X) (hX : va_X b L xs s s.heap) (hbl : b < s.heap.size) (hbase : X.2.2.2 = s.heap.size) {i kk jc tc bt : Nat} {ln : Nat → Nat} (hi : i + 3 < L) (hL : L ≤ 2048) (hc : cells + 122 ≤ 601024) (hs : slots + 871 ≤ 7293034) (I : Inv (M 0) (M 2) (M 3) jc tc bt ln) (hbk : bt ≤ 200 * kk) (hkk : kk ≤ 512) (hx : (xs (i + 1) < 0 ∨ nI jc ≤ xs (i + 1)))  (K : ∀ (M' : Mem) (lf' : Lf), LInv M' (kk + 1) → V p l e room_1 s m #[Value.ref b] below meth c Q X 9 [] (M') (lf') (cells + 122) (slots + 871) 1183 [(4, .int (nI i)), (3, .ref (X.2.1 6 0 0)), (2, .ref (X.2.1 2 0 0)), (1, .ref (X.2.1 5 0 0)), (0, .ref b)] []) : V p l e room_1 s m #[Value.ref b] below meth c Q X 9 [] (M) (lf) (cells) (slots) 811 [(4, .int (nI i)), (3, .ref (X.2.1 6 0 0)), (2, .ref (X.2.1 2 0 0)), (1, .ref (X.2.1 5 0 0)), (0, .ref b)] [] := by
  have G : Gx X l := ⟨F.2.2.1, F.2.2.2.2⟩
  refine v_aload_n F dL_law_811 rfl 3 rfl ?_
  refine v_aload_n F dL_law_812 rfl 4 rfl ?_
  refine v_iload F dL_law_813 0 rfl ?_
  refine v_iconst F (v := nI 1) dL_law_815 (by decide) ?_
  refine v_iadd F dL_law_816 ?_
  refine v_topr (nI (i + 1)) (nI_add i 1) ?_
  refine v_sld F hX hbl hbase (i + 1) (Ix_nI (by omega) (by omega)) dL_law_817 ?_
  refine v_aload_n F dL_law_818 rfl 1 rfl ?_
  refine v_callSHi F (n := 3) (As := [_, _, _]) (rest := []) rfl (x_L_shortest G I.1.1.1 hx) wc_L_shortest wml_L_107 wst_L_shortest wini_L (by decide +kernel) rfl ⟨rfl, rfl, Nat.le_of_ble_eq_true rfl, Nat.le_of_ble_eq_true rfl, rm1 hc (by exact Nat.le_of_ble_eq_true rfl), rm1 hs (by exact Nat.le_of_ble_eq_true rfl), Nat.le_of_ble_eq_true rfl⟩ dL_law_819 ?_
  refine v_istore F dL_law_822 (by decide) (lv' := [(5, .int _), (4, .int _), (3, .ref _), (2, .ref _), (1, .ref _), (0, .ref _)]) rfl ?_
  refine v_aload_n F dL_law_824 rfl 3 rfl ?_
  refine v_aload_n F dL_law_825 rfl 5 rfl ?_
  refine v_iload F dL_law_826 1 rfl ?_
  refine v_iconst F (v := nI 1) dL_law_828 (by decide) ?_
  refine v_iadd F dL_law_829 ?_
  refine v_topr (nI (i + 1)) (nI_add i 1) ?_
  refine v_sld F hX hbl hbase (i + 1) (Ix_nI (by omega) (by omega)) dL_law_830 ?_
  refine v_callVi F (As := [_]) (rest := []) rfl (c_X6_shortest_j (M := M) G I.1 hx) Rv_Q wm_L_109 rfl ⟨rfl, rfl, Nat.le_of_ble_eq_true rfl, Nat.le_of_ble_eq_true rfl, rm2 hc (by exact Nat.le_of_ble_eq_true rfl), rm2 hs (by exact Nat.le_of_ble_eq_true rfl), Nat.le_of_ble_eq_true rfl⟩ dL_law_831 ?_
  refine v_istore F dL_law_834 (by decide) (lv' := [(6, .int _), (5, .int _), (4, .int _), (3, .ref _), (2, .ref _), (1, .ref _), (0, .ref _)]) rfl ?_
  refine v_aload_n F dL_law_836 rfl 4 rfl ?_
  refine v_callVi F (As := []) (rest := []) rfl (c_X6_thrown G) Rv_Q wm_L_74 rfl ⟨rfl, rfl, Nat.le_of_ble_eq_true rfl, Nat.le_of_ble_eq_true rfl, rm3 hc (by exact Nat.le_of_ble_eq_true rfl), rm3 hs (by exact Nat.le_of_ble_eq_true rfl), Nat.le_of_ble_eq_true rfl⟩ dL_law_837 ?_
  refine v_topr (1) (show u3 (u3 (M 2) 0 0 0 0) 0 0 0 1 0 0 0 = 1 from u3_at _ _ _ _ _) ?_
  refine v_iload F dL_law_840 1 rfl ?_
  refine v_icmp_eq F (tgt := 847) dL_law_842 (by decide) (fun c842 => ?_) (fun h => absurd (rfl) h)
  refine v_iload F dL_law_847 1 rfl ?_
  refine v_if_ne F (tgt := 864) dL_law_849 (by decide) (fun c849 => ?_) (fun h => absurd h ((by decide)))
  refine v_goto F (tgt := 1183) dL_law_864 (by decide) ?_
  refine v_locs [2, 3, 4, 5, 6] rfl ?_
  refine v_widen (k := cells + 122) (n := slots + 871) (by omega) (by omega) ?_
  exact K _ _ ⟨_, _, _, _, Inv_q (Inv_q I 0) 1, by omega⟩
set_option maxHeartbeats 4000000 in
set_option maxRecDepth 100000 in
theorem w_go (F : Fx p l s m #[Value.ref b] meth c cL_law 9 RL X) (hX : va_X b L xs s s.heap) (hbl : b < s.heap.size) (hbase : X.2.2.2 = s.heap.size) {i kk jc tc bt : Nat} {ln : Nat → Nat} (hi : i + 3 < L) (hL : L ≤ 2048) (hc : cells + 122 ≤ 601024) (hs : slots + 871 ≤ 7293034) (I : Inv (M 0) (M 2) (M 3) jc tc bt ln) (hbk : bt ≤ 200 * kk) (hkk : kk ≤ 512) {n : Nat} (h1 : 1 ≤ n) (hn : n ≤ 200) (e1 : xs (i + 1) = nI n)  (K : ∀ (M' : Mem) (lf' : Lf), LInv M' (kk + 1) → V p l e room_1 s m #[Value.ref b] below meth c Q X 9 [] (M') (lf') (cells + 122) (slots + 871) 1183 [(4, .int (nI i)), (3, .ref (X.2.1 6 0 0)), (2, .ref (X.2.1 2 0 0)), (1, .ref (X.2.1 5 0 0)), (0, .ref b)] []) : V p l e room_1 s m #[Value.ref b] below meth c Q X 9 [] (M) (lf) (cells) (slots) 867 [(4, .int (nI i)), (3, .ref (X.2.1 6 0 0)), (2, .ref (X.2.1 2 0 0)), (1, .ref (X.2.1 5 0 0)), (0, .ref b)] [] := by
  have G : Gx X l := ⟨F.2.2.1, F.2.2.2.2⟩
  have hbn : bt + n < 2 ^ 31 := by omega
  refine v_aload_n F dL_law_867 rfl 3 rfl ?_
  refine v_aload_n F dL_law_868 rfl 4 rfl ?_
  refine v_iload F dL_law_869 0 rfl ?_
  refine v_iconst F (v := nI 1) dL_law_871 (by decide) ?_
  refine v_iadd F dL_law_872 ?_
  refine v_topr (nI (i + 1)) (nI_add i 1) ?_
  refine v_sld F hX hbl hbase (i + 1) (Ix_nI (by omega) (by omega)) dL_law_873 ?_
  refine v_topr (nI n) e1 ?_
  refine v_aload_n F dL_law_874 rfl 1 rfl ?_
  refine v_callSHi F (n := 3) (As := [_, _, _]) (rest := []) rfl (c_L_go G I.1.1.1 hbn I.1.2.1 h1 hn) wc_L_go wml_L_110 wst_L_go wini_L (by decide +kernel) rfl ⟨rfl, rfl, Nat.le_of_ble_eq_true rfl, Nat.le_of_ble_eq_true rfl, rm1 hc (by exact Nat.le_of_ble_eq_true rfl), rm1 hs (by exact Nat.le_of_ble_eq_true rfl), Nat.le_of_ble_eq_true rfl⟩ dL_law_875 ?_
  refine v_istore F dL_law_878 (by decide) (lv' := [(5, .int _), (4, .int _), (3, .ref _), (2, .ref _), (1, .ref _), (0, .ref _)]) rfl ?_
  refine v_aload_n F dL_law_880 rfl 3 rfl ?_
  refine v_aload_n F dL_law_881 rfl 5 rfl ?_
  refine v_iload F dL_law_882 1 rfl ?_
  refine v_iconst F (v := nI 1) dL_law_884 (by decide) ?_
  refine v_iadd F dL_law_885 ?_
  refine v_topr (nI (i + 1)) (nI_add i 1) ?_
  refine v_sld F hX hbl hbase (i + 1) (Ix_nI (by omega) (by omega)) dL_law_886 ?_
  refine v_topr (nI n) e1 ?_
  refine v_callVi F (As := [_]) (rest := []) rfl (c_X6_go (M := uC M 0 _) G I.1 h1 hn hbn) Rv_Q wm_L_112 rfl ⟨rfl, rfl, Nat.le_of_ble_eq_true rfl, Nat.le_of_ble_eq_true rfl, rm2 hc (by exact Nat.le_of_ble_eq_true rfl), rm2 hs (by exact Nat.le_of_ble_eq_true rfl), Nat.le_of_ble_eq_true rfl⟩ dL_law_887 ?_
  refine v_istore F dL_law_890 (by decide) (lv' := [(6, .int _), (5, .int _), (4, .int _), (3, .ref _), (2, .ref _), (1, .ref _), (0, .ref _)]) rfl ?_
  refine v_aload_n F dL_law_892 rfl 4 rfl ?_
  refine v_callVi F (As := []) (rest := []) rfl (c_X6_thrown G) Rv_Q wm_L_74 rfl ⟨rfl, rfl, Nat.le_of_ble_eq_true rfl, Nat.le_of_ble_eq_true rfl, rm3 hc (by exact Nat.le_of_ble_eq_true rfl), rm3 hs (by exact Nat.le_of_ble_eq_true rfl), Nat.le_of_ble_eq_true rfl⟩ dL_law_893 ?_
  refine v_topr (0) (show (u3 (M 2) 0 0 0 0) 0 0 0 = 0 from u3_at _ _ _ _ _) ?_
  refine v_iload F dL_law_896 1 rfl ?_
  refine v_icmp_eq F (tgt := 903) dL_law_898 (by decide) (fun c898 => ?_) (fun h => absurd (rfl) h)
  refine v_iload F dL_law_903 1 rfl ?_
  refine v_if_ne F (tgt := 920) dL_law_905 (by decide) (fun h => absurd (rfl) h) (fun c905 => ?_)
  refine v_aload_n F dL_law_908 rfl 3 rfl ?_
  refine v_iconst F (v := 0) dL_law_909 (by decide) ?_
  refine v_lald F ⟨by decide, by decide, by decide⟩ dL_law_910 ?_
  refine v_toprl ((plR bt jc tc ln (M 0) n).toInt64) pk_uLs ?_
  refine v_iload F dL_law_911 0 rfl ?_
  refine v_i2l F dL_law_913 ?_
  refine v_lcmp F dL_law_914 ?_
  refine v_if_eq F (tgt := 920) dL_law_915 (by decide) (fun c915 => ?_) (fun h => absurd ((lg_self _)) h)
  refine v_goto F (tgt := 1183) dL_law_920 (by decide) ?_
  refine v_locs [2, 3, 4, 5, 6] rfl ?_
  refine v_widen (k := cells + 122) (n := slots + 871) (by omega) (by omega) ?_
  exact K _ _ ⟨_, _, _, _, Inv_go (Inv_q I 0) n, by omega⟩
set_option maxHeartbeats 4000000 in
set_option maxRecDepth 100000 in
theorem w_go_b (F : Fx p l s m #[Value.ref b] meth c cL_law 9 RL X) (hX : va_X b L xs s s.heap) (hbl : b < s.heap.size) (hbase : X.2.2.2 = s.heap.size) {i kk jc tc bt : Nat} {ln : Nat → Nat} (hi : i + 3 < L) (hL : L ≤ 2048) (hc : cells + 122 ≤ 601024) (hs : slots + 871 ≤ 7293034) (I : Inv (M 0) (M 2) (M 3) jc tc bt ln) (hbk : bt ≤ 200 * kk) (hkk : kk ≤ 512) (hx : xs (i + 1) < 1 ∨ nI 200 < xs (i + 1))  (K : ∀ (M' : Mem) (lf' : Lf), LInv M' (kk + 1) → V p l e room_1 s m #[Value.ref b] below meth c Q X 9 [] (M') (lf') (cells + 122) (slots + 871) 1183 [(4, .int (nI i)), (3, .ref (X.2.1 6 0 0)), (2, .ref (X.2.1 2 0 0)), (1, .ref (X.2.1 5 0 0)), (0, .ref b)] []) : V p l e room_1 s m #[Value.ref b] below meth c Q X 9 [] (M) (lf) (cells) (slots) 867 [(4, .int (nI i)), (3, .ref (X.2.1 6 0 0)), (2, .ref (X.2.1 2 0 0)), (1, .ref (X.2.1 5 0 0)), (0, .ref b)] [] := by
  have G : Gx X l := ⟨F.2.2.1, F.2.2.2.2⟩
  refine v_aload_n F dL_law_867 rfl 3 rfl ?_
  refine v_aload_n F dL_law_868 rfl 4 rfl ?_
  refine v_iload F dL_law_869 0 rfl ?_
  refine v_iconst F (v := nI 1) dL_law_871 (by decide) ?_
  refine v_iadd F dL_law_872 ?_
  refine v_topr (nI (i + 1)) (nI_add i 1) ?_
  refine v_sld F hX hbl hbase (i + 1) (Ix_nI (by omega) (by omega)) dL_law_873 ?_
  refine v_aload_n F dL_law_874 rfl 1 rfl ?_
  refine v_callSHi F (n := 3) (As := [_, _, _]) (rest := []) rfl (x_L_go G hx) wc_L_go wml_L_110 wst_L_go wini_L (by decide +kernel) rfl ⟨rfl, rfl, Nat.le_of_ble_eq_true rfl, Nat.le_of_ble_eq_true rfl, rm1 hc (by exact Nat.le_of_ble_eq_true rfl), rm1 hs (by exact Nat.le_of_ble_eq_true rfl), Nat.le_of_ble_eq_true rfl⟩ dL_law_875 ?_
  refine v_istore F dL_law_878 (by decide) (lv' := [(5, .int _), (4, .int _), (3, .ref _), (2, .ref _), (1, .ref _), (0, .ref _)]) rfl ?_
  refine v_aload_n F dL_law_880 rfl 3 rfl ?_
  refine v_aload_n F dL_law_881 rfl 5 rfl ?_
  refine v_iload F dL_law_882 1 rfl ?_
  refine v_iconst F (v := nI 1) dL_law_884 (by decide) ?_
  refine v_iadd F dL_law_885 ?_
  refine v_topr (nI (i + 1)) (nI_add i 1) ?_
  refine v_sld F hX hbl hbase (i + 1) (Ix_nI (by omega) (by omega)) dL_law_886 ?_
  refine v_callVi F (As := [_]) (rest := []) rfl (c_X6_go_b (M := M) G hx) Rv_Q wm_L_112 rfl ⟨rfl, rfl, Nat.le_of_ble_eq_true rfl, Nat.le_of_ble_eq_true rfl, rm2 hc (by exact Nat.le_of_ble_eq_true rfl), rm2 hs (by exact Nat.le_of_ble_eq_true rfl), Nat.le_of_ble_eq_true rfl⟩ dL_law_887 ?_
  refine v_istore F dL_law_890 (by decide) (lv' := [(6, .int _), (5, .int _), (4, .int _), (3, .ref _), (2, .ref _), (1, .ref _), (0, .ref _)]) rfl ?_
  refine v_aload_n F dL_law_892 rfl 4 rfl ?_
  refine v_callVi F (As := []) (rest := []) rfl (c_X6_thrown G) Rv_Q wm_L_74 rfl ⟨rfl, rfl, Nat.le_of_ble_eq_true rfl, Nat.le_of_ble_eq_true rfl, rm3 hc (by exact Nat.le_of_ble_eq_true rfl), rm3 hs (by exact Nat.le_of_ble_eq_true rfl), Nat.le_of_ble_eq_true rfl⟩ dL_law_893 ?_
  refine v_topr (1) (show u3 (u3 (M 2) 0 0 0 0) 0 0 0 1 0 0 0 = 1 from u3_at _ _ _ _ _) ?_
  refine v_iload F dL_law_896 1 rfl ?_
  refine v_icmp_eq F (tgt := 903) dL_law_898 (by decide) (fun c898 => ?_) (fun h => absurd (rfl) h)
  refine v_iload F dL_law_903 1 rfl ?_
  refine v_if_ne F (tgt := 920) dL_law_905 (by decide) (fun c905 => ?_) (fun h => absurd h ((by decide)))
  refine v_goto F (tgt := 1183) dL_law_920 (by decide) ?_
  refine v_locs [2, 3, 4, 5, 6] rfl ?_
  refine v_widen (k := cells + 122) (n := slots + 871) (by omega) (by omega) ?_
  exact K _ _ ⟨_, _, _, _, Inv_q (Inv_q I 0) 1, by omega⟩
set_option maxHeartbeats 4000000 in
set_option maxRecDepth 100000 in
theorem w_count (F : Fx p l s m #[Value.ref b] meth c cL_law 9 RL X) (hX : va_X b L xs s s.heap) (hbl : b < s.heap.size) (hbase : X.2.2.2 = s.heap.size) {i kk jc tc bt : Nat} {ln : Nat → Nat} (hi : i + 3 < L) (hL : L ≤ 2048) (hc : cells + 122 ≤ 601024) (hs : slots + 871 ≤ 7293034) (I : Inv (M 0) (M 2) (M 3) jc tc bt ln) (hbk : bt ≤ 200 * kk) (hkk : kk ≤ 512) {w : Nat} (hw : w < 9) (e1 : xs (i + 1) = nI w)  (K : ∀ (M' : Mem) (lf' : Lf), LInv M' (kk + 1) → V p l e room_1 s m #[Value.ref b] below meth c Q X 9 [] (M') (lf') (cells + 122) (slots + 871) 1183 [(4, .int (nI i)), (3, .ref (X.2.1 6 0 0)), (2, .ref (X.2.1 2 0 0)), (1, .ref (X.2.1 5 0 0)), (0, .ref b)] []) : V p l e room_1 s m #[Value.ref b] below meth c Q X 9 [] (M) (lf) (cells) (slots) 923 [(4, .int (nI i)), (3, .ref (X.2.1 6 0 0)), (2, .ref (X.2.1 2 0 0)), (1, .ref (X.2.1 5 0 0)), (0, .ref b)] [] := by
  have G : Gx X l := ⟨F.2.2.1, F.2.2.2.2⟩
  refine v_aload_n F dL_law_923 rfl 3 rfl ?_
  refine v_aload_n F dL_law_924 rfl 4 rfl ?_
  refine v_iload F dL_law_925 0 rfl ?_
  refine v_iconst F (v := nI 1) dL_law_927 (by decide) ?_
  refine v_iadd F dL_law_928 ?_
  refine v_topr (nI (i + 1)) (nI_add i 1) ?_
  refine v_sld F hX hbl hbase (i + 1) (Ix_nI (by omega) (by omega)) dL_law_929 ?_
  refine v_topr (nI w) e1 ?_
  refine v_aload_n F dL_law_930 rfl 1 rfl ?_
  refine v_callSHi F (n := 3) (As := [_, _, _]) (rest := []) rfl (c_L_count G I.1.1.1 hw) wc_L_count wml_L_113 wst_L_count wini_L (by decide +kernel) rfl ⟨rfl, rfl, Nat.le_of_ble_eq_true rfl, Nat.le_of_ble_eq_true rfl, rm1 hc (by exact Nat.le_of_ble_eq_true rfl), rm1 hs (by exact Nat.le_of_ble_eq_true rfl), Nat.le_of_ble_eq_true rfl⟩ dL_law_931 ?_
  refine v_istore F dL_law_934 (by decide) (lv' := [(5, .int _), (4, .int _), (3, .ref _), (2, .ref _), (1, .ref _), (0, .ref _)]) rfl ?_
  refine v_aload_n F dL_law_936 rfl 3 rfl ?_
  refine v_aload_n F dL_law_937 rfl 5 rfl ?_
  refine v_iload F dL_law_938 1 rfl ?_
  refine v_iconst F (v := nI 1) dL_law_940 (by decide) ?_
  refine v_iadd F dL_law_941 ?_
  refine v_topr (nI (i + 1)) (nI_add i 1) ?_
  refine v_sld F hX hbl hbase (i + 1) (Ix_nI (by omega) (by omega)) dL_law_942 ?_
  refine v_topr (nI w) e1 ?_
  refine v_callVi F (As := [_]) (rest := []) rfl (c_X6_count (M := M) G I.1 hw) Rv_Q wm_L_115 rfl ⟨rfl, rfl, Nat.le_of_ble_eq_true rfl, Nat.le_of_ble_eq_true rfl, rm2 hc (by exact Nat.le_of_ble_eq_true rfl), rm2 hs (by exact Nat.le_of_ble_eq_true rfl), Nat.le_of_ble_eq_true rfl⟩ dL_law_943 ?_
  refine v_istore F dL_law_946 (by decide) (lv' := [(6, .int _), (5, .int _), (4, .int _), (3, .ref _), (2, .ref _), (1, .ref _), (0, .ref _)]) rfl ?_
  refine v_aload_n F dL_law_948 rfl 4 rfl ?_
  refine v_callVi F (As := []) (rest := []) rfl (c_X6_thrown G) Rv_Q wm_L_74 rfl ⟨rfl, rfl, Nat.le_of_ble_eq_true rfl, Nat.le_of_ble_eq_true rfl, rm3 hc (by exact Nat.le_of_ble_eq_true rfl), rm3 hs (by exact Nat.le_of_ble_eq_true rfl), Nat.le_of_ble_eq_true rfl⟩ dL_law_949 ?_
  refine v_topr (0) (show (u3 (M 2) 0 0 0 0) 0 0 0 = 0 from u3_at _ _ _ _ _) ?_
  refine v_iload F dL_law_952 1 rfl ?_
  refine v_icmp_eq F (tgt := 959) dL_law_954 (by decide) (fun c954 => ?_) (fun h => absurd (rfl) h)
  refine v_iload F dL_law_959 1 rfl ?_
  refine v_if_ne F (tgt := 976) dL_law_961 (by decide) (fun h => absurd (rfl) h) (fun c961 => ?_)
  refine v_aload_n F dL_law_964 rfl 3 rfl ?_
  refine v_iconst F (v := 0) dL_law_965 (by decide) ?_
  refine v_lald F ⟨by decide, by decide, by decide⟩ dL_law_966 ?_
  refine v_toprl ((fTellC (M 0) tc w).toInt64) pk_uLs ?_
  refine v_iload F dL_law_967 0 rfl ?_
  refine v_i2l F dL_law_969 ?_
  refine v_lcmp F dL_law_970 ?_
  refine v_if_eq F (tgt := 976) dL_law_971 (by decide) (fun c971 => ?_) (fun h => absurd ((lg_self _)) h)
  refine v_goto F (tgt := 1183) dL_law_976 (by decide) ?_
  refine v_locs [2, 3, 4, 5, 6] rfl ?_
  refine v_widen (k := cells + 122) (n := slots + 871) (by omega) (by omega) ?_
  exact K _ _ ⟨_, _, _, _, Inv_q I 0, by omega⟩
set_option maxHeartbeats 4000000 in
set_option maxRecDepth 100000 in
theorem w_count_w (F : Fx p l s m #[Value.ref b] meth c cL_law 9 RL X) (hX : va_X b L xs s s.heap) (hbl : b < s.heap.size) (hbase : X.2.2.2 = s.heap.size) {i kk jc tc bt : Nat} {ln : Nat → Nat} (hi : i + 3 < L) (hL : L ≤ 2048) (hc : cells + 122 ≤ 601024) (hs : slots + 871 ≤ 7293034) (I : Inv (M 0) (M 2) (M 3) jc tc bt ln) (hbk : bt ≤ 200 * kk) (hkk : kk ≤ 512) (hx : (xs (i + 1) < 0 ∨ nI 9 ≤ xs (i + 1)))  (K : ∀ (M' : Mem) (lf' : Lf), LInv M' (kk + 1) → V p l e room_1 s m #[Value.ref b] below meth c Q X 9 [] (M') (lf') (cells + 122) (slots + 871) 1183 [(4, .int (nI i)), (3, .ref (X.2.1 6 0 0)), (2, .ref (X.2.1 2 0 0)), (1, .ref (X.2.1 5 0 0)), (0, .ref b)] []) : V p l e room_1 s m #[Value.ref b] below meth c Q X 9 [] (M) (lf) (cells) (slots) 923 [(4, .int (nI i)), (3, .ref (X.2.1 6 0 0)), (2, .ref (X.2.1 2 0 0)), (1, .ref (X.2.1 5 0 0)), (0, .ref b)] [] := by
  have G : Gx X l := ⟨F.2.2.1, F.2.2.2.2⟩
  refine v_aload_n F dL_law_923 rfl 3 rfl ?_
  refine v_aload_n F dL_law_924 rfl 4 rfl ?_
  refine v_iload F dL_law_925 0 rfl ?_
  refine v_iconst F (v := nI 1) dL_law_927 (by decide) ?_
  refine v_iadd F dL_law_928 ?_
  refine v_topr (nI (i + 1)) (nI_add i 1) ?_
  refine v_sld F hX hbl hbase (i + 1) (Ix_nI (by omega) (by omega)) dL_law_929 ?_
  refine v_aload_n F dL_law_930 rfl 1 rfl ?_
  refine v_callSHi F (n := 3) (As := [_, _, _]) (rest := []) rfl (x_L_count G hx) wc_L_count wml_L_113 wst_L_count wini_L (by decide +kernel) rfl ⟨rfl, rfl, Nat.le_of_ble_eq_true rfl, Nat.le_of_ble_eq_true rfl, rm1 hc (by exact Nat.le_of_ble_eq_true rfl), rm1 hs (by exact Nat.le_of_ble_eq_true rfl), Nat.le_of_ble_eq_true rfl⟩ dL_law_931 ?_
  refine v_istore F dL_law_934 (by decide) (lv' := [(5, .int _), (4, .int _), (3, .ref _), (2, .ref _), (1, .ref _), (0, .ref _)]) rfl ?_
  refine v_aload_n F dL_law_936 rfl 3 rfl ?_
  refine v_aload_n F dL_law_937 rfl 5 rfl ?_
  refine v_iload F dL_law_938 1 rfl ?_
  refine v_iconst F (v := nI 1) dL_law_940 (by decide) ?_
  refine v_iadd F dL_law_941 ?_
  refine v_topr (nI (i + 1)) (nI_add i 1) ?_
  refine v_sld F hX hbl hbase (i + 1) (Ix_nI (by omega) (by omega)) dL_law_942 ?_
  refine v_callVi F (As := [_]) (rest := []) rfl (c_X6R_count_w (M := M) G hx) Rv_Q wm_L_115 rfl ⟨rfl, rfl, Nat.le_of_ble_eq_true rfl, Nat.le_of_ble_eq_true rfl, rm2 hc (by exact Nat.le_of_ble_eq_true rfl), rm2 hs (by exact Nat.le_of_ble_eq_true rfl), Nat.le_of_ble_eq_true rfl⟩ dL_law_943 ?_
  refine v_istore F dL_law_946 (by decide) (lv' := [(6, .int _), (5, .int _), (4, .int _), (3, .ref _), (2, .ref _), (1, .ref _), (0, .ref _)]) rfl ?_
  refine v_aload_n F dL_law_948 rfl 4 rfl ?_
  refine v_callVi F (As := []) (rest := []) rfl (c_X6_thrown G) Rv_Q wm_L_74 rfl ⟨rfl, rfl, Nat.le_of_ble_eq_true rfl, Nat.le_of_ble_eq_true rfl, rm3 hc (by exact Nat.le_of_ble_eq_true rfl), rm3 hs (by exact Nat.le_of_ble_eq_true rfl), Nat.le_of_ble_eq_true rfl⟩ dL_law_949 ?_
  refine v_topr (1) (show u3 (u3 (M 2) 0 0 0 0) 0 0 0 1 0 0 0 = 1 from u3_at _ _ _ _ _) ?_
  refine v_iload F dL_law_952 1 rfl ?_
  refine v_icmp_eq F (tgt := 959) dL_law_954 (by decide) (fun c954 => ?_) (fun h => absurd (rfl) h)
  refine v_iload F dL_law_959 1 rfl ?_
  refine v_if_ne F (tgt := 976) dL_law_961 (by decide) (fun c961 => ?_) (fun h => absurd h ((by decide)))
  refine v_goto F (tgt := 1183) dL_law_976 (by decide) ?_
  refine v_locs [2, 3, 4, 5, 6] rfl ?_
  refine v_widen (k := cells + 122) (n := slots + 871) (by omega) (by omega) ?_
  exact K _ _ ⟨_, _, _, _, Inv_q (Inv_q I 0) 1, by omega⟩
set_option maxHeartbeats 4000000 in
set_option maxRecDepth 100000 in
theorem w_foresee_0 (F : Fx p l s m #[Value.ref b] meth c cL_law 9 RL X) (hX : va_X b L xs s s.heap) (hbl : b < s.heap.size) (hbase : X.2.2.2 = s.heap.size) {i kk jc tc bt : Nat} {ln : Nat → Nat} (hi : i + 3 < L) (hL : L ≤ 2048) (hc : cells + 122 ≤ 601024) (hs : slots + 871 ≤ 7293034) (I : Inv (M 0) (M 2) (M 3) jc tc bt ln) (hbk : bt ≤ 200 * kk) (hkk : kk ≤ 512) {n : Nat} (h1 : 1 ≤ n) (hn : n ≤ 200) (e1 : xs (i + 1) = nI n) (e2 : xs (i + 2) = nI 0)  (K : ∀ (M' : Mem) (lf' : Lf), LInv M' (kk + 1) → V p l e room_1 s m #[Value.ref b] below meth c Q X 9 [] (M') (lf') (cells + 122) (slots + 871) 1183 [(4, .int (nI i)), (3, .ref (X.2.1 6 0 0)), (2, .ref (X.2.1 2 0 0)), (1, .ref (X.2.1 5 0 0)), (0, .ref b)] []) : V p l e room_1 s m #[Value.ref b] below meth c Q X 9 [] (M) (lf) (cells) (slots) 992 [(4, .int (nI i)), (3, .ref (X.2.1 6 0 0)), (2, .ref (X.2.1 2 0 0)), (1, .ref (X.2.1 5 0 0)), (0, .ref b)] [] := by
  have G : Gx X l := ⟨F.2.2.1, F.2.2.2.2⟩
  have CSC : Cp (fCopyR (M 1) (M 0) jc tc ln) (M 2) (M 3) jc tc bt ln := Cp_copy I.1
  have C1 := (Cp_play I.1 n).1
  have C2 := (Cp_play CSC n).1
  have hbn : bt + n < 2 ^ 31 := by omega
  refine v_aload_n F dL_law_992 rfl 3 rfl ?_
  refine v_aload_n F dL_law_993 rfl 4 rfl ?_
  refine v_iload F dL_law_994 0 rfl ?_
  refine v_iconst F (v := nI 1) dL_law_996 (by decide) ?_
  refine v_iadd F dL_law_997 ?_
  refine v_topr (nI (i + 1)) (nI_add i 1) ?_
  refine v_sld F hX hbl hbase (i + 1) (Ix_nI (by omega) (by omega)) dL_law_998 ?_
  refine v_topr (nI n) e1 ?_
  refine v_aload_n F dL_law_999 rfl 4 rfl ?_
  refine v_iload F dL_law_1000 0 rfl ?_
  refine v_iconst F (v := nI 2) dL_law_1002 (by decide) ?_
  refine v_iadd F dL_law_1003 ?_
  refine v_topr (nI (i + 2)) (nI_add i 2) ?_
  refine v_sld F hX hbl hbase (i + 2) (Ix_nI (by omega) (by omega)) dL_law_1004 ?_
  refine v_topr (nI 0) e2 ?_
  refine v_aload_n F dL_law_1005 rfl 1 rfl ?_
  refine v_callSHi F (n := 4) (As := [_, _, _, _]) (rest := []) rfl (c_L_foresee_0 G I.1.1.1 hbn I.1.2.1 h1 hn) wc_L_foresee wml_L_120 wst_L_foresee wini_L (by decide +kernel) rfl ⟨rfl, rfl, Nat.le_of_ble_eq_true rfl, Nat.le_of_ble_eq_true rfl, rm1 hc (by exact Nat.le_of_ble_eq_true rfl), rm1 hs (by exact Nat.le_of_ble_eq_true rfl), Nat.le_of_ble_eq_true rfl⟩ dL_law_1006 ?_
  refine v_istore F dL_law_1009 (by decide) (lv' := [(5, .int _), (4, .int _), (3, .ref _), (2, .ref _), (1, .ref _), (0, .ref _)]) rfl ?_
  refine v_aload_n F dL_law_1011 rfl 3 rfl ?_
  refine v_aload_n F dL_law_1012 rfl 5 rfl ?_
  refine v_iload F dL_law_1013 1 rfl ?_
  refine v_iconst F (v := nI 1) dL_law_1015 (by decide) ?_
  refine v_iadd F dL_law_1016 ?_
  refine v_topr (nI (i + 1)) (nI_add i 1) ?_
  refine v_sld F hX hbl hbase (i + 1) (Ix_nI (by omega) (by omega)) dL_law_1017 ?_
  refine v_topr (nI n) e1 ?_
  refine v_aload_n F dL_law_1018 rfl 5 rfl ?_
  refine v_iload F dL_law_1019 1 rfl ?_
  refine v_iconst F (v := nI 2) dL_law_1021 (by decide) ?_
  refine v_iadd F dL_law_1022 ?_
  refine v_topr (nI (i + 2)) (nI_add i 2) ?_
  refine v_sld F hX hbl hbase (i + 2) (Ix_nI (by omega) (by omega)) dL_law_1023 ?_
  refine v_topr (nI 0) e2 ?_
  refine v_callVi F (As := [_, _]) (rest := []) rfl (c_X6_foresee_0 (M := uC M 1 _) G I.1 h1 hn hbn) Rv_Q wm_L_122 rfl ⟨rfl, rfl, Nat.le_of_ble_eq_true rfl, Nat.le_of_ble_eq_true rfl, rm2 hc (by exact Nat.le_of_ble_eq_true rfl), rm2 hs (by exact Nat.le_of_ble_eq_true rfl), Nat.le_of_ble_eq_true rfl⟩ dL_law_1024 ?_
  refine v_topr (fIn (plL bt jc tc ln (fCopyR (M 1) (M 0) jc tc ln) n) tc 2) ((are_e C1 2).symm.trans (are_e C2 2)) ?_
  refine v_istore F dL_law_1027 (by decide) (lv' := [(6, .int _), (5, .int _), (4, .int _), (3, .ref _), (2, .ref _), (1, .ref _), (0, .ref _)]) rfl ?_
  refine v_aload_n F dL_law_1029 rfl 4 rfl ?_
  refine v_callVi F (As := []) (rest := []) rfl (c_X6_thrown G) Rv_Q wm_L_74 rfl ⟨rfl, rfl, Nat.le_of_ble_eq_true rfl, Nat.le_of_ble_eq_true rfl, rm3 hc (by exact Nat.le_of_ble_eq_true rfl), rm3 hs (by exact Nat.le_of_ble_eq_true rfl), Nat.le_of_ble_eq_true rfl⟩ dL_law_1030 ?_
  refine v_topr (0) (show (u3 (M 2) 0 0 0 0) 0 0 0 = 0 from u3_at _ _ _ _ _) ?_
  refine v_iload F dL_law_1033 1 rfl ?_
  refine v_icmp_eq F (tgt := 1040) dL_law_1035 (by decide) (fun c1035 => ?_) (fun h => absurd (rfl) h)
  refine v_iload F dL_law_1040 1 rfl ?_
  refine v_if_ne F (tgt := 1057) dL_law_1042 (by decide) (fun h => absurd (rfl) h) (fun c1042 => ?_)
  refine v_aload_n F dL_law_1045 rfl 3 rfl ?_
  refine v_iconst F (v := 0) dL_law_1046 (by decide) ?_
  refine v_lald F ⟨by decide, by decide, by decide⟩ dL_law_1047 ?_
  refine v_toprl ((fIn (plL bt jc tc ln (fCopyR (M 1) (M 0) jc tc ln) n) tc 2).toInt64) pk_uLs ?_
  refine v_iload F dL_law_1048 0 rfl ?_
  refine v_i2l F dL_law_1050 ?_
  refine v_lcmp F dL_law_1051 ?_
  refine v_if_eq F (tgt := 1057) dL_law_1052 (by decide) (fun c1052 => ?_) (fun h => absurd ((lg_self _)) h)
  refine v_goto F (tgt := 1183) dL_law_1057 (by decide) ?_
  refine v_locs [2, 3, 4, 5, 6] rfl ?_
  refine v_widen (k := cells + 122) (n := slots + 871) (by omega) (by omega) ?_
  exact K _ _ ⟨_, _, _, _, Inv_q I 0, by omega⟩
set_option maxHeartbeats 4000000 in
set_option maxRecDepth 100000 in
theorem w_foresee_1 (F : Fx p l s m #[Value.ref b] meth c cL_law 9 RL X) (hX : va_X b L xs s s.heap) (hbl : b < s.heap.size) (hbase : X.2.2.2 = s.heap.size) {i kk jc tc bt : Nat} {ln : Nat → Nat} (hi : i + 3 < L) (hL : L ≤ 2048) (hc : cells + 122 ≤ 601024) (hs : slots + 871 ≤ 7293034) (I : Inv (M 0) (M 2) (M 3) jc tc bt ln) (hbk : bt ≤ 200 * kk) (hkk : kk ≤ 512) {n : Nat} (h1 : 1 ≤ n) (hn : n ≤ 200) (e1 : xs (i + 1) = nI n) (e2 : xs (i + 2) = nI 1)  (K : ∀ (M' : Mem) (lf' : Lf), LInv M' (kk + 1) → V p l e room_1 s m #[Value.ref b] below meth c Q X 9 [] (M') (lf') (cells + 122) (slots + 871) 1183 [(4, .int (nI i)), (3, .ref (X.2.1 6 0 0)), (2, .ref (X.2.1 2 0 0)), (1, .ref (X.2.1 5 0 0)), (0, .ref b)] []) : V p l e room_1 s m #[Value.ref b] below meth c Q X 9 [] (M) (lf) (cells) (slots) 992 [(4, .int (nI i)), (3, .ref (X.2.1 6 0 0)), (2, .ref (X.2.1 2 0 0)), (1, .ref (X.2.1 5 0 0)), (0, .ref b)] [] := by
  have G : Gx X l := ⟨F.2.2.1, F.2.2.2.2⟩
  have CSC : Cp (fCopyR (M 1) (M 0) jc tc ln) (M 2) (M 3) jc tc bt ln := Cp_copy I.1
  have C1 := (Cp_play I.1 n).1
  have C2 := (Cp_play CSC n).1
  have hbn : bt + n < 2 ^ 31 := by omega
  refine v_aload_n F dL_law_992 rfl 3 rfl ?_
  refine v_aload_n F dL_law_993 rfl 4 rfl ?_
  refine v_iload F dL_law_994 0 rfl ?_
  refine v_iconst F (v := nI 1) dL_law_996 (by decide) ?_
  refine v_iadd F dL_law_997 ?_
  refine v_topr (nI (i + 1)) (nI_add i 1) ?_
  refine v_sld F hX hbl hbase (i + 1) (Ix_nI (by omega) (by omega)) dL_law_998 ?_
  refine v_topr (nI n) e1 ?_
  refine v_aload_n F dL_law_999 rfl 4 rfl ?_
  refine v_iload F dL_law_1000 0 rfl ?_
  refine v_iconst F (v := nI 2) dL_law_1002 (by decide) ?_
  refine v_iadd F dL_law_1003 ?_
  refine v_topr (nI (i + 2)) (nI_add i 2) ?_
  refine v_sld F hX hbl hbase (i + 2) (Ix_nI (by omega) (by omega)) dL_law_1004 ?_
  refine v_topr (nI 1) e2 ?_
  refine v_aload_n F dL_law_1005 rfl 1 rfl ?_
  refine v_callSHi F (n := 4) (As := [_, _, _, _]) (rest := []) rfl (c_L_foresee_1 G I.1.1.1 hbn I.1.2.1 h1 hn) wc_L_foresee wml_L_120 wst_L_foresee wini_L (by decide +kernel) rfl ⟨rfl, rfl, Nat.le_of_ble_eq_true rfl, Nat.le_of_ble_eq_true rfl, rm1 hc (by exact Nat.le_of_ble_eq_true rfl), rm1 hs (by exact Nat.le_of_ble_eq_true rfl), Nat.le_of_ble_eq_true rfl⟩ dL_law_1006 ?_
  refine v_istore F dL_law_1009 (by decide) (lv' := [(5, .int _), (4, .int _), (3, .ref _), (2, .ref _), (1, .ref _), (0, .ref _)]) rfl ?_
  refine v_aload_n F dL_law_1011 rfl 3 rfl ?_
  refine v_aload_n F dL_law_1012 rfl 5 rfl ?_
  refine v_iload F dL_law_1013 1 rfl ?_
  refine v_iconst F (v := nI 1) dL_law_1015 (by decide) ?_
  refine v_iadd F dL_law_1016 ?_
  refine v_topr (nI (i + 1)) (nI_add i 1) ?_
  refine v_sld F hX hbl hbase (i + 1) (Ix_nI (by omega) (by omega)) dL_law_1017 ?_
  refine v_topr (nI n) e1 ?_
  refine v_aload_n F dL_law_1018 rfl 5 rfl ?_
  refine v_iload F dL_law_1019 1 rfl ?_
  refine v_iconst F (v := nI 2) dL_law_1021 (by decide) ?_
  refine v_iadd F dL_law_1022 ?_
  refine v_topr (nI (i + 2)) (nI_add i 2) ?_
  refine v_sld F hX hbl hbase (i + 2) (Ix_nI (by omega) (by omega)) dL_law_1023 ?_
  refine v_topr (nI 1) e2 ?_
  refine v_callVi F (As := [_, _]) (rest := []) rfl (c_X6_foresee_1 (M := uC M 1 _) G I.1 h1 hn hbn) Rv_Q wm_L_122 rfl ⟨rfl, rfl, Nat.le_of_ble_eq_true rfl, Nat.le_of_ble_eq_true rfl, rm2 hc (by exact Nat.le_of_ble_eq_true rfl), rm2 hs (by exact Nat.le_of_ble_eq_true rfl), Nat.le_of_ble_eq_true rfl⟩ dL_law_1024 ?_
  refine v_topr (plR bt jc tc ln (fCopyR (M 1) (M 0) jc tc ln) n) (plR_e I.1 CSC n) ?_
  refine v_istore F dL_law_1027 (by decide) (lv' := [(6, .int _), (5, .int _), (4, .int _), (3, .ref _), (2, .ref _), (1, .ref _), (0, .ref _)]) rfl ?_
  refine v_aload_n F dL_law_1029 rfl 4 rfl ?_
  refine v_callVi F (As := []) (rest := []) rfl (c_X6_thrown G) Rv_Q wm_L_74 rfl ⟨rfl, rfl, Nat.le_of_ble_eq_true rfl, Nat.le_of_ble_eq_true rfl, rm3 hc (by exact Nat.le_of_ble_eq_true rfl), rm3 hs (by exact Nat.le_of_ble_eq_true rfl), Nat.le_of_ble_eq_true rfl⟩ dL_law_1030 ?_
  refine v_topr (0) (show (u3 (M 2) 0 0 0 0) 0 0 0 = 0 from u3_at _ _ _ _ _) ?_
  refine v_iload F dL_law_1033 1 rfl ?_
  refine v_icmp_eq F (tgt := 1040) dL_law_1035 (by decide) (fun c1035 => ?_) (fun h => absurd (rfl) h)
  refine v_iload F dL_law_1040 1 rfl ?_
  refine v_if_ne F (tgt := 1057) dL_law_1042 (by decide) (fun h => absurd (rfl) h) (fun c1042 => ?_)
  refine v_aload_n F dL_law_1045 rfl 3 rfl ?_
  refine v_iconst F (v := 0) dL_law_1046 (by decide) ?_
  refine v_lald F ⟨by decide, by decide, by decide⟩ dL_law_1047 ?_
  refine v_toprl ((plR bt jc tc ln (fCopyR (M 1) (M 0) jc tc ln) n).toInt64) pk_uLs ?_
  refine v_iload F dL_law_1048 0 rfl ?_
  refine v_i2l F dL_law_1050 ?_
  refine v_lcmp F dL_law_1051 ?_
  refine v_if_eq F (tgt := 1057) dL_law_1052 (by decide) (fun c1052 => ?_) (fun h => absurd ((lg_self _)) h)
  refine v_goto F (tgt := 1183) dL_law_1057 (by decide) ?_
  refine v_locs [2, 3, 4, 5, 6] rfl ?_
  refine v_widen (k := cells + 122) (n := slots + 871) (by omega) (by omega) ?_
  exact K _ _ ⟨_, _, _, _, Inv_q I 0, by omega⟩
set_option maxHeartbeats 4000000 in
set_option maxRecDepth 100000 in
theorem w_foresee_2 (F : Fx p l s m #[Value.ref b] meth c cL_law 9 RL X) (hX : va_X b L xs s s.heap) (hbl : b < s.heap.size) (hbase : X.2.2.2 = s.heap.size) {i kk jc tc bt : Nat} {ln : Nat → Nat} (hi : i + 3 < L) (hL : L ≤ 2048) (hc : cells + 122 ≤ 601024) (hs : slots + 871 ≤ 7293034) (I : Inv (M 0) (M 2) (M 3) jc tc bt ln) (hbk : bt ≤ 200 * kk) (hkk : kk ≤ 512) {n : Nat} (h1 : 1 ≤ n) (hn : n ≤ 200) (e1 : xs (i + 1) = nI n) (e2 : xs (i + 2) = nI 2)  (K : ∀ (M' : Mem) (lf' : Lf), LInv M' (kk + 1) → V p l e room_1 s m #[Value.ref b] below meth c Q X 9 [] (M') (lf') (cells + 122) (slots + 871) 1183 [(4, .int (nI i)), (3, .ref (X.2.1 6 0 0)), (2, .ref (X.2.1 2 0 0)), (1, .ref (X.2.1 5 0 0)), (0, .ref b)] []) : V p l e room_1 s m #[Value.ref b] below meth c Q X 9 [] (M) (lf) (cells) (slots) 992 [(4, .int (nI i)), (3, .ref (X.2.1 6 0 0)), (2, .ref (X.2.1 2 0 0)), (1, .ref (X.2.1 5 0 0)), (0, .ref b)] [] := by
  have G : Gx X l := ⟨F.2.2.1, F.2.2.2.2⟩
  have CSC : Cp (fCopyR (M 1) (M 0) jc tc ln) (M 2) (M 3) jc tc bt ln := Cp_copy I.1
  have C1 := (Cp_play I.1 n).1
  have C2 := (Cp_play CSC n).1
  have hbn : bt + n < 2 ^ 31 := by omega
  refine v_aload_n F dL_law_992 rfl 3 rfl ?_
  refine v_aload_n F dL_law_993 rfl 4 rfl ?_
  refine v_iload F dL_law_994 0 rfl ?_
  refine v_iconst F (v := nI 1) dL_law_996 (by decide) ?_
  refine v_iadd F dL_law_997 ?_
  refine v_topr (nI (i + 1)) (nI_add i 1) ?_
  refine v_sld F hX hbl hbase (i + 1) (Ix_nI (by omega) (by omega)) dL_law_998 ?_
  refine v_topr (nI n) e1 ?_
  refine v_aload_n F dL_law_999 rfl 4 rfl ?_
  refine v_iload F dL_law_1000 0 rfl ?_
  refine v_iconst F (v := nI 2) dL_law_1002 (by decide) ?_
  refine v_iadd F dL_law_1003 ?_
  refine v_topr (nI (i + 2)) (nI_add i 2) ?_
  refine v_sld F hX hbl hbase (i + 2) (Ix_nI (by omega) (by omega)) dL_law_1004 ?_
  refine v_topr (nI 2) e2 ?_
  refine v_aload_n F dL_law_1005 rfl 1 rfl ?_
  refine v_callSHi F (n := 4) (As := [_, _, _, _]) (rest := []) rfl (c_L_foresee_2 G I.1.1.1 hbn I.1.2.1 h1 hn) wc_L_foresee wml_L_120 wst_L_foresee wini_L (by decide +kernel) rfl ⟨rfl, rfl, Nat.le_of_ble_eq_true rfl, Nat.le_of_ble_eq_true rfl, rm1 hc (by exact Nat.le_of_ble_eq_true rfl), rm1 hs (by exact Nat.le_of_ble_eq_true rfl), Nat.le_of_ble_eq_true rfl⟩ dL_law_1006 ?_
  refine v_istore F dL_law_1009 (by decide) (lv' := [(5, .int _), (4, .int _), (3, .ref _), (2, .ref _), (1, .ref _), (0, .ref _)]) rfl ?_
  refine v_aload_n F dL_law_1011 rfl 3 rfl ?_
  refine v_aload_n F dL_law_1012 rfl 5 rfl ?_
  refine v_iload F dL_law_1013 1 rfl ?_
  refine v_iconst F (v := nI 1) dL_law_1015 (by decide) ?_
  refine v_iadd F dL_law_1016 ?_
  refine v_topr (nI (i + 1)) (nI_add i 1) ?_
  refine v_sld F hX hbl hbase (i + 1) (Ix_nI (by omega) (by omega)) dL_law_1017 ?_
  refine v_topr (nI n) e1 ?_
  refine v_aload_n F dL_law_1018 rfl 5 rfl ?_
  refine v_iload F dL_law_1019 1 rfl ?_
  refine v_iconst F (v := nI 2) dL_law_1021 (by decide) ?_
  refine v_iadd F dL_law_1022 ?_
  refine v_topr (nI (i + 2)) (nI_add i 2) ?_
  refine v_sld F hX hbl hbase (i + 2) (Ix_nI (by omega) (by omega)) dL_law_1023 ?_
  refine v_topr (nI 2) e2 ?_
  refine v_callVi F (As := [_, _]) (rest := []) rfl (c_X6_foresee_2 (M := uC M 1 _) G I.1 h1 hn hbn) Rv_Q wm_L_122 rfl ⟨rfl, rfl, Nat.le_of_ble_eq_true rfl, Nat.le_of_ble_eq_true rfl, rm2 hc (by exact Nat.le_of_ble_eq_true rfl), rm2 hs (by exact Nat.le_of_ble_eq_true rfl), Nat.le_of_ble_eq_true rfl⟩ dL_law_1024 ?_
  refine v_topr (sI (fun k => plL bt jc tc ln (fCopyR (M 1) (M 0) jc tc ln) n 2 k 3) jc) ((sum_b C1).symm.trans (sum_b C2)) ?_
  refine v_istore F dL_law_1027 (by decide) (lv' := [(6, .int _), (5, .int _), (4, .int _), (3, .ref _), (2, .ref _), (1, .ref _), (0, .ref _)]) rfl ?_
  refine v_aload_n F dL_law_1029 rfl 4 rfl ?_
  refine v_callVi F (As := []) (rest := []) rfl (c_X6_thrown G) Rv_Q wm_L_74 rfl ⟨rfl, rfl, Nat.le_of_ble_eq_true rfl, Nat.le_of_ble_eq_true rfl, rm3 hc (by exact Nat.le_of_ble_eq_true rfl), rm3 hs (by exact Nat.le_of_ble_eq_true rfl), Nat.le_of_ble_eq_true rfl⟩ dL_law_1030 ?_
  refine v_topr (0) (show (u3 (M 2) 0 0 0 0) 0 0 0 = 0 from u3_at _ _ _ _ _) ?_
  refine v_iload F dL_law_1033 1 rfl ?_
  refine v_icmp_eq F (tgt := 1040) dL_law_1035 (by decide) (fun c1035 => ?_) (fun h => absurd (rfl) h)
  refine v_iload F dL_law_1040 1 rfl ?_
  refine v_if_ne F (tgt := 1057) dL_law_1042 (by decide) (fun h => absurd (rfl) h) (fun c1042 => ?_)
  refine v_aload_n F dL_law_1045 rfl 3 rfl ?_
  refine v_iconst F (v := 0) dL_law_1046 (by decide) ?_
  refine v_lald F ⟨by decide, by decide, by decide⟩ dL_law_1047 ?_
  refine v_toprl ((sI (fun k => plL bt jc tc ln (fCopyR (M 1) (M 0) jc tc ln) n 2 k 3) jc).toInt64) pk_uLs ?_
  refine v_iload F dL_law_1048 0 rfl ?_
  refine v_i2l F dL_law_1050 ?_
  refine v_lcmp F dL_law_1051 ?_
  refine v_if_eq F (tgt := 1057) dL_law_1052 (by decide) (fun c1052 => ?_) (fun h => absurd ((lg_self _)) h)
  refine v_goto F (tgt := 1183) dL_law_1057 (by decide) ?_
  refine v_locs [2, 3, 4, 5, 6] rfl ?_
  refine v_widen (k := cells + 122) (n := slots + 871) (by omega) (by omega) ?_
  exact K _ _ ⟨_, _, _, _, Inv_q I 0, by omega⟩
set_option maxHeartbeats 4000000 in
set_option maxRecDepth 100000 in
theorem w_foresee_b (F : Fx p l s m #[Value.ref b] meth c cL_law 9 RL X) (hX : va_X b L xs s s.heap) (hbl : b < s.heap.size) (hbase : X.2.2.2 = s.heap.size) {i kk jc tc bt : Nat} {ln : Nat → Nat} (hi : i + 3 < L) (hL : L ≤ 2048) (hc : cells + 122 ≤ 601024) (hs : slots + 871 ≤ 7293034) (I : Inv (M 0) (M 2) (M 3) jc tc bt ln) (hbk : bt ≤ 200 * kk) (hkk : kk ≤ 512) (hx : xs (i + 1) < 1 ∨ nI 200 < xs (i + 1))  (K : ∀ (M' : Mem) (lf' : Lf), LInv M' (kk + 1) → V p l e room_1 s m #[Value.ref b] below meth c Q X 9 [] (M') (lf') (cells + 122) (slots + 871) 1183 [(4, .int (nI i)), (3, .ref (X.2.1 6 0 0)), (2, .ref (X.2.1 2 0 0)), (1, .ref (X.2.1 5 0 0)), (0, .ref b)] []) : V p l e room_1 s m #[Value.ref b] below meth c Q X 9 [] (M) (lf) (cells) (slots) 992 [(4, .int (nI i)), (3, .ref (X.2.1 6 0 0)), (2, .ref (X.2.1 2 0 0)), (1, .ref (X.2.1 5 0 0)), (0, .ref b)] [] := by
  have G : Gx X l := ⟨F.2.2.1, F.2.2.2.2⟩
  refine v_aload_n F dL_law_992 rfl 3 rfl ?_
  refine v_aload_n F dL_law_993 rfl 4 rfl ?_
  refine v_iload F dL_law_994 0 rfl ?_
  refine v_iconst F (v := nI 1) dL_law_996 (by decide) ?_
  refine v_iadd F dL_law_997 ?_
  refine v_topr (nI (i + 1)) (nI_add i 1) ?_
  refine v_sld F hX hbl hbase (i + 1) (Ix_nI (by omega) (by omega)) dL_law_998 ?_
  refine v_aload_n F dL_law_999 rfl 4 rfl ?_
  refine v_iload F dL_law_1000 0 rfl ?_
  refine v_iconst F (v := nI 2) dL_law_1002 (by decide) ?_
  refine v_iadd F dL_law_1003 ?_
  refine v_topr (nI (i + 2)) (nI_add i 2) ?_
  refine v_sld F hX hbl hbase (i + 2) (Ix_nI (by omega) (by omega)) dL_law_1004 ?_
  refine v_aload_n F dL_law_1005 rfl 1 rfl ?_
  refine v_callSHi F (n := 4) (As := [_, _, _, _]) (rest := []) rfl (x_L_foresee_b G hx) wc_L_foresee wml_L_120 wst_L_foresee wini_L (by decide +kernel) rfl ⟨rfl, rfl, Nat.le_of_ble_eq_true rfl, Nat.le_of_ble_eq_true rfl, rm1 hc (by exact Nat.le_of_ble_eq_true rfl), rm1 hs (by exact Nat.le_of_ble_eq_true rfl), Nat.le_of_ble_eq_true rfl⟩ dL_law_1006 ?_
  refine v_istore F dL_law_1009 (by decide) (lv' := [(5, .int _), (4, .int _), (3, .ref _), (2, .ref _), (1, .ref _), (0, .ref _)]) rfl ?_
  refine v_aload_n F dL_law_1011 rfl 3 rfl ?_
  refine v_aload_n F dL_law_1012 rfl 5 rfl ?_
  refine v_iload F dL_law_1013 1 rfl ?_
  refine v_iconst F (v := nI 1) dL_law_1015 (by decide) ?_
  refine v_iadd F dL_law_1016 ?_
  refine v_topr (nI (i + 1)) (nI_add i 1) ?_
  refine v_sld F hX hbl hbase (i + 1) (Ix_nI (by omega) (by omega)) dL_law_1017 ?_
  refine v_aload_n F dL_law_1018 rfl 5 rfl ?_
  refine v_iload F dL_law_1019 1 rfl ?_
  refine v_iconst F (v := nI 2) dL_law_1021 (by decide) ?_
  refine v_iadd F dL_law_1022 ?_
  refine v_topr (nI (i + 2)) (nI_add i 2) ?_
  refine v_sld F hX hbl hbase (i + 2) (Ix_nI (by omega) (by omega)) dL_law_1023 ?_
  refine v_callVi F (As := [_, _]) (rest := []) rfl (c_X6_foresee_b (M := M) G hx) Rv_Q wm_L_122 rfl ⟨rfl, rfl, Nat.le_of_ble_eq_true rfl, Nat.le_of_ble_eq_true rfl, rm2 hc (by exact Nat.le_of_ble_eq_true rfl), rm2 hs (by exact Nat.le_of_ble_eq_true rfl), Nat.le_of_ble_eq_true rfl⟩ dL_law_1024 ?_
  refine v_istore F dL_law_1027 (by decide) (lv' := [(6, .int _), (5, .int _), (4, .int _), (3, .ref _), (2, .ref _), (1, .ref _), (0, .ref _)]) rfl ?_
  refine v_aload_n F dL_law_1029 rfl 4 rfl ?_
  refine v_callVi F (As := []) (rest := []) rfl (c_X6_thrown G) Rv_Q wm_L_74 rfl ⟨rfl, rfl, Nat.le_of_ble_eq_true rfl, Nat.le_of_ble_eq_true rfl, rm3 hc (by exact Nat.le_of_ble_eq_true rfl), rm3 hs (by exact Nat.le_of_ble_eq_true rfl), Nat.le_of_ble_eq_true rfl⟩ dL_law_1030 ?_
  refine v_topr (1) (show u3 (u3 (M 2) 0 0 0 0) 0 0 0 1 0 0 0 = 1 from u3_at _ _ _ _ _) ?_
  refine v_iload F dL_law_1033 1 rfl ?_
  refine v_icmp_eq F (tgt := 1040) dL_law_1035 (by decide) (fun c1035 => ?_) (fun h => absurd (rfl) h)
  refine v_iload F dL_law_1040 1 rfl ?_
  refine v_if_ne F (tgt := 1057) dL_law_1042 (by decide) (fun c1042 => ?_) (fun h => absurd h ((by decide)))
  refine v_goto F (tgt := 1183) dL_law_1057 (by decide) ?_
  refine v_locs [2, 3, 4, 5, 6] rfl ?_
  refine v_widen (k := cells + 122) (n := slots + 871) (by omega) (by omega) ?_
  exact K _ _ ⟨_, _, _, _, Inv_q (Inv_q I 0) 1, by omega⟩
set_option maxHeartbeats 4000000 in
set_option maxRecDepth 100000 in
theorem w_foresee_w (F : Fx p l s m #[Value.ref b] meth c cL_law 9 RL X) (hX : va_X b L xs s s.heap) (hbl : b < s.heap.size) (hbase : X.2.2.2 = s.heap.size) {i kk jc tc bt : Nat} {ln : Nat → Nat} (hi : i + 3 < L) (hL : L ≤ 2048) (hc : cells + 122 ≤ 601024) (hs : slots + 871 ≤ 7293034) (I : Inv (M 0) (M 2) (M 3) jc tc bt ln) (hbk : bt ≤ 200 * kk) (hkk : kk ≤ 512) {n : Nat} (h1 : 1 ≤ n) (hn : n ≤ 200) (e1 : xs (i + 1) = nI n) (hx : (xs (i + 2) < 0 ∨ nI 3 ≤ xs (i + 2)))  (K : ∀ (M' : Mem) (lf' : Lf), LInv M' (kk + 1) → V p l e room_1 s m #[Value.ref b] below meth c Q X 9 [] (M') (lf') (cells + 122) (slots + 871) 1183 [(4, .int (nI i)), (3, .ref (X.2.1 6 0 0)), (2, .ref (X.2.1 2 0 0)), (1, .ref (X.2.1 5 0 0)), (0, .ref b)] []) : V p l e room_1 s m #[Value.ref b] below meth c Q X 9 [] (M) (lf) (cells) (slots) 992 [(4, .int (nI i)), (3, .ref (X.2.1 6 0 0)), (2, .ref (X.2.1 2 0 0)), (1, .ref (X.2.1 5 0 0)), (0, .ref b)] [] := by
  have G : Gx X l := ⟨F.2.2.1, F.2.2.2.2⟩
  refine v_aload_n F dL_law_992 rfl 3 rfl ?_
  refine v_aload_n F dL_law_993 rfl 4 rfl ?_
  refine v_iload F dL_law_994 0 rfl ?_
  refine v_iconst F (v := nI 1) dL_law_996 (by decide) ?_
  refine v_iadd F dL_law_997 ?_
  refine v_topr (nI (i + 1)) (nI_add i 1) ?_
  refine v_sld F hX hbl hbase (i + 1) (Ix_nI (by omega) (by omega)) dL_law_998 ?_
  refine v_topr (nI n) e1 ?_
  refine v_aload_n F dL_law_999 rfl 4 rfl ?_
  refine v_iload F dL_law_1000 0 rfl ?_
  refine v_iconst F (v := nI 2) dL_law_1002 (by decide) ?_
  refine v_iadd F dL_law_1003 ?_
  refine v_topr (nI (i + 2)) (nI_add i 2) ?_
  refine v_sld F hX hbl hbase (i + 2) (Ix_nI (by omega) (by omega)) dL_law_1004 ?_
  refine v_aload_n F dL_law_1005 rfl 1 rfl ?_
  refine v_callSHi F (n := 4) (As := [_, _, _, _]) (rest := []) rfl (x_L_foresee_w G h1 hn hx) wc_L_foresee wml_L_120 wst_L_foresee wini_L (by decide +kernel) rfl ⟨rfl, rfl, Nat.le_of_ble_eq_true rfl, Nat.le_of_ble_eq_true rfl, rm1 hc (by exact Nat.le_of_ble_eq_true rfl), rm1 hs (by exact Nat.le_of_ble_eq_true rfl), Nat.le_of_ble_eq_true rfl⟩ dL_law_1006 ?_
  refine v_istore F dL_law_1009 (by decide) (lv' := [(5, .int _), (4, .int _), (3, .ref _), (2, .ref _), (1, .ref _), (0, .ref _)]) rfl ?_
  refine v_aload_n F dL_law_1011 rfl 3 rfl ?_
  refine v_aload_n F dL_law_1012 rfl 5 rfl ?_
  refine v_iload F dL_law_1013 1 rfl ?_
  refine v_iconst F (v := nI 1) dL_law_1015 (by decide) ?_
  refine v_iadd F dL_law_1016 ?_
  refine v_topr (nI (i + 1)) (nI_add i 1) ?_
  refine v_sld F hX hbl hbase (i + 1) (Ix_nI (by omega) (by omega)) dL_law_1017 ?_
  refine v_topr (nI n) e1 ?_
  refine v_aload_n F dL_law_1018 rfl 5 rfl ?_
  refine v_iload F dL_law_1019 1 rfl ?_
  refine v_iconst F (v := nI 2) dL_law_1021 (by decide) ?_
  refine v_iadd F dL_law_1022 ?_
  refine v_topr (nI (i + 2)) (nI_add i 2) ?_
  refine v_sld F hX hbl hbase (i + 2) (Ix_nI (by omega) (by omega)) dL_law_1023 ?_
  refine v_callVi F (As := [_, _]) (rest := []) rfl (c_X6_foresee_w (M := M) G h1 hn hx) Rv_Q wm_L_122 rfl ⟨rfl, rfl, Nat.le_of_ble_eq_true rfl, Nat.le_of_ble_eq_true rfl, rm2 hc (by exact Nat.le_of_ble_eq_true rfl), rm2 hs (by exact Nat.le_of_ble_eq_true rfl), Nat.le_of_ble_eq_true rfl⟩ dL_law_1024 ?_
  refine v_istore F dL_law_1027 (by decide) (lv' := [(6, .int _), (5, .int _), (4, .int _), (3, .ref _), (2, .ref _), (1, .ref _), (0, .ref _)]) rfl ?_
  refine v_aload_n F dL_law_1029 rfl 4 rfl ?_
  refine v_callVi F (As := []) (rest := []) rfl (c_X6_thrown G) Rv_Q wm_L_74 rfl ⟨rfl, rfl, Nat.le_of_ble_eq_true rfl, Nat.le_of_ble_eq_true rfl, rm3 hc (by exact Nat.le_of_ble_eq_true rfl), rm3 hs (by exact Nat.le_of_ble_eq_true rfl), Nat.le_of_ble_eq_true rfl⟩ dL_law_1030 ?_
  refine v_topr (2) (show u3 (u3 (M 2) 0 0 0 0) 0 0 0 2 0 0 0 = 2 from u3_at _ _ _ _ _) ?_
  refine v_iload F dL_law_1033 1 rfl ?_
  refine v_icmp_eq F (tgt := 1040) dL_law_1035 (by decide) (fun c1035 => ?_) (fun h => absurd (rfl) h)
  refine v_iload F dL_law_1040 1 rfl ?_
  refine v_if_ne F (tgt := 1057) dL_law_1042 (by decide) (fun c1042 => ?_) (fun h => absurd h ((by decide)))
  refine v_goto F (tgt := 1183) dL_law_1057 (by decide) ?_
  refine v_locs [2, 3, 4, 5, 6] rfl ?_
  refine v_widen (k := cells + 122) (n := slots + 871) (by omega) (by omega) ?_
  exact K _ _ ⟨_, _, _, _, Inv_q (Inv_q I 0) 2, by omega⟩
set_option maxHeartbeats 4000000 in
set_option maxRecDepth 100000 in
theorem w_advise (F : Fx p l s m #[Value.ref b] meth c cL_law 9 RL X) (hX : va_X b L xs s s.heap) (hbl : b < s.heap.size) (hbase : X.2.2.2 = s.heap.size) {i kk jc tc bt : Nat} {ln : Nat → Nat} (hi : i + 3 < L) (hL : L ≤ 2048) (hc : cells + 122 ≤ 601024) (hs : slots + 871 ≤ 7293034) (I : Inv (M 0) (M 2) (M 3) jc tc bt ln) (hbk : bt ≤ 200 * kk) (hkk : kk ≤ 512) {j n : Nat} (hj : j < jc) (h1 : 1 ≤ n) (hn : n ≤ 60) (e1 : xs (i + 1) = nI j) (e2 : xs (i + 2) = nI n)  (K : ∀ (M' : Mem) (lf' : Lf), LInv M' (kk + 1) → V p l e room_1 s m #[Value.ref b] below meth c Q X 9 [] (M') (lf') (cells + 122) (slots + 871) 1183 [(4, .int (nI i)), (3, .ref (X.2.1 6 0 0)), (2, .ref (X.2.1 2 0 0)), (1, .ref (X.2.1 5 0 0)), (0, .ref b)] []) : V p l e room_1 s m #[Value.ref b] below meth c Q X 9 [] (M) (lf) (cells) (slots) 1060 [(4, .int (nI i)), (3, .ref (X.2.1 6 0 0)), (2, .ref (X.2.1 2 0 0)), (1, .ref (X.2.1 5 0 0)), (0, .ref b)] [] := by
  have G : Gx X l := ⟨F.2.2.1, F.2.2.2.2⟩
  have CSC : Cp (fCopyR (M 1) (M 0) jc tc ln) (M 2) (M 3) jc tc bt ln := Cp_copy I.1
  have C1 := (Cp_play I.1 n).1
  have C2 := (Cp_play CSC n).1
  have hbn : bt + n < 2 ^ 31 := by omega
  refine v_aload_n F dL_law_1060 rfl 3 rfl ?_
  refine v_aload_n F dL_law_1061 rfl 4 rfl ?_
  refine v_iload F dL_law_1062 0 rfl ?_
  refine v_iconst F (v := nI 1) dL_law_1064 (by decide) ?_
  refine v_iadd F dL_law_1065 ?_
  refine v_topr (nI (i + 1)) (nI_add i 1) ?_
  refine v_sld F hX hbl hbase (i + 1) (Ix_nI (by omega) (by omega)) dL_law_1066 ?_
  refine v_topr (nI j) e1 ?_
  refine v_aload_n F dL_law_1067 rfl 4 rfl ?_
  refine v_iload F dL_law_1068 0 rfl ?_
  refine v_iconst F (v := nI 2) dL_law_1070 (by decide) ?_
  refine v_iadd F dL_law_1071 ?_
  refine v_topr (nI (i + 2)) (nI_add i 2) ?_
  refine v_sld F hX hbl hbase (i + 2) (Ix_nI (by omega) (by omega)) dL_law_1072 ?_
  refine v_topr (nI n) e2 ?_
  refine v_aload_n F dL_law_1073 rfl 1 rfl ?_
  refine v_callSHi F (n := 4) (As := [_, _, _, _]) (rest := []) rfl (c_L_advise G I.1.1.1 hbn I.1.2.1 hj h1 hn) wc_L_advise wml_L_123 wst_L_advise wini_L (by decide +kernel) rfl ⟨rfl, rfl, Nat.le_of_ble_eq_true rfl, Nat.le_of_ble_eq_true rfl, rm1 hc (by exact Nat.le_of_ble_eq_true rfl), rm1 hs (by exact Nat.le_of_ble_eq_true rfl), Nat.le_of_ble_eq_true rfl⟩ dL_law_1074 ?_
  refine v_istore F dL_law_1077 (by decide) (lv' := [(5, .int _), (4, .int _), (3, .ref _), (2, .ref _), (1, .ref _), (0, .ref _)]) rfl ?_
  refine v_aload_n F dL_law_1079 rfl 3 rfl ?_
  refine v_aload_n F dL_law_1080 rfl 5 rfl ?_
  refine v_iload F dL_law_1081 1 rfl ?_
  refine v_iconst F (v := nI 1) dL_law_1083 (by decide) ?_
  refine v_iadd F dL_law_1084 ?_
  refine v_topr (nI (i + 1)) (nI_add i 1) ?_
  refine v_sld F hX hbl hbase (i + 1) (Ix_nI (by omega) (by omega)) dL_law_1085 ?_
  refine v_topr (nI j) e1 ?_
  refine v_aload_n F dL_law_1086 rfl 5 rfl ?_
  refine v_iload F dL_law_1087 1 rfl ?_
  refine v_iconst F (v := nI 2) dL_law_1089 (by decide) ?_
  refine v_iadd F dL_law_1090 ?_
  refine v_topr (nI (i + 2)) (nI_add i 2) ?_
  refine v_sld F hX hbl hbase (i + 2) (Ix_nI (by omega) (by omega)) dL_law_1091 ?_
  refine v_topr (nI n) e2 ?_
  refine v_callVi F (As := [_, _]) (rest := []) rfl (c_X6_advise (M := uC M 1 _) G I.1 hj h1 hn hbn) Rv_Q wm_L_125 rfl ⟨rfl, rfl, Nat.le_of_ble_eq_true rfl, Nat.le_of_ble_eq_true rfl, rm2 hc (by exact Nat.le_of_ble_eq_true rfl), rm2 hs (by exact Nat.le_of_ble_eq_true rfl), Nat.le_of_ble_eq_true rfl⟩ dL_law_1092 ?_
  refine v_topr ((adO (M 0) bt jc tc ln n j (ln j) 0 (plR bt jc tc ln (fCopyR (M 1) (M 0) jc tc ln) n) (-1) (plL bt jc tc ln (fCopyR (M 1) (M 0) jc tc ln) n)).1) (by rw [adO_e I.1 hn hj _ _ _ _ _ (Nat.add_zero _), plR_e CSC I.1 n]) ?_
  refine v_istore F dL_law_1095 (by decide) (lv' := [(6, .int _), (5, .int _), (4, .int _), (3, .ref _), (2, .ref _), (1, .ref _), (0, .ref _)]) rfl ?_
  refine v_aload_n F dL_law_1097 rfl 4 rfl ?_
  refine v_callVi F (As := []) (rest := []) rfl (c_X6_thrown G) Rv_Q wm_L_74 rfl ⟨rfl, rfl, Nat.le_of_ble_eq_true rfl, Nat.le_of_ble_eq_true rfl, rm3 hc (by exact Nat.le_of_ble_eq_true rfl), rm3 hs (by exact Nat.le_of_ble_eq_true rfl), Nat.le_of_ble_eq_true rfl⟩ dL_law_1098 ?_
  refine v_topr (0) (show (u3 (M 2) 0 0 0 0) 0 0 0 = 0 from u3_at _ _ _ _ _) ?_
  refine v_iload F dL_law_1101 1 rfl ?_
  refine v_icmp_eq F (tgt := 1108) dL_law_1103 (by decide) (fun c1103 => ?_) (fun h => absurd (rfl) h)
  refine v_iload F dL_law_1108 1 rfl ?_
  refine v_if_ne F (tgt := 1125) dL_law_1110 (by decide) (fun h => absurd (rfl) h) (fun c1110 => ?_)
  refine v_aload_n F dL_law_1113 rfl 3 rfl ?_
  refine v_iconst F (v := 0) dL_law_1114 (by decide) ?_
  refine v_lald F ⟨by decide, by decide, by decide⟩ dL_law_1115 ?_
  refine v_toprl (((adO (M 0) bt jc tc ln n j (ln j) 0 (plR bt jc tc ln (fCopyR (M 1) (M 0) jc tc ln) n) (-1) (plL bt jc tc ln (fCopyR (M 1) (M 0) jc tc ln) n)).1).toInt64) pk_uLs ?_
  refine v_iload F dL_law_1116 0 rfl ?_
  refine v_i2l F dL_law_1118 ?_
  refine v_lcmp F dL_law_1119 ?_
  refine v_if_eq F (tgt := 1125) dL_law_1120 (by decide) (fun c1120 => ?_) (fun h => absurd ((lg_self _)) h)
  refine v_goto F (tgt := 1183) dL_law_1125 (by decide) ?_
  refine v_locs [2, 3, 4, 5, 6] rfl ?_
  refine v_widen (k := cells + 122) (n := slots + 871) (by omega) (by omega) ?_
  exact K _ _ ⟨_, _, _, _, Inv_q I 0, by omega⟩
set_option maxHeartbeats 4000000 in
set_option maxRecDepth 100000 in
theorem w_advise_j (F : Fx p l s m #[Value.ref b] meth c cL_law 9 RL X) (hX : va_X b L xs s s.heap) (hbl : b < s.heap.size) (hbase : X.2.2.2 = s.heap.size) {i kk jc tc bt : Nat} {ln : Nat → Nat} (hi : i + 3 < L) (hL : L ≤ 2048) (hc : cells + 122 ≤ 601024) (hs : slots + 871 ≤ 7293034) (I : Inv (M 0) (M 2) (M 3) jc tc bt ln) (hbk : bt ≤ 200 * kk) (hkk : kk ≤ 512) (hx : (xs (i + 1) < 0 ∨ nI jc ≤ xs (i + 1)))  (K : ∀ (M' : Mem) (lf' : Lf), LInv M' (kk + 1) → V p l e room_1 s m #[Value.ref b] below meth c Q X 9 [] (M') (lf') (cells + 122) (slots + 871) 1183 [(4, .int (nI i)), (3, .ref (X.2.1 6 0 0)), (2, .ref (X.2.1 2 0 0)), (1, .ref (X.2.1 5 0 0)), (0, .ref b)] []) : V p l e room_1 s m #[Value.ref b] below meth c Q X 9 [] (M) (lf) (cells) (slots) 1060 [(4, .int (nI i)), (3, .ref (X.2.1 6 0 0)), (2, .ref (X.2.1 2 0 0)), (1, .ref (X.2.1 5 0 0)), (0, .ref b)] [] := by
  have G : Gx X l := ⟨F.2.2.1, F.2.2.2.2⟩
  refine v_aload_n F dL_law_1060 rfl 3 rfl ?_
  refine v_aload_n F dL_law_1061 rfl 4 rfl ?_
  refine v_iload F dL_law_1062 0 rfl ?_
  refine v_iconst F (v := nI 1) dL_law_1064 (by decide) ?_
  refine v_iadd F dL_law_1065 ?_
  refine v_topr (nI (i + 1)) (nI_add i 1) ?_
  refine v_sld F hX hbl hbase (i + 1) (Ix_nI (by omega) (by omega)) dL_law_1066 ?_
  refine v_aload_n F dL_law_1067 rfl 4 rfl ?_
  refine v_iload F dL_law_1068 0 rfl ?_
  refine v_iconst F (v := nI 2) dL_law_1070 (by decide) ?_
  refine v_iadd F dL_law_1071 ?_
  refine v_topr (nI (i + 2)) (nI_add i 2) ?_
  refine v_sld F hX hbl hbase (i + 2) (Ix_nI (by omega) (by omega)) dL_law_1072 ?_
  refine v_aload_n F dL_law_1073 rfl 1 rfl ?_
  refine v_callSHi F (n := 4) (As := [_, _, _, _]) (rest := []) rfl (x_L_advise_j G I.1.1.1 hx) wc_L_advise wml_L_123 wst_L_advise wini_L (by decide +kernel) rfl ⟨rfl, rfl, Nat.le_of_ble_eq_true rfl, Nat.le_of_ble_eq_true rfl, rm1 hc (by exact Nat.le_of_ble_eq_true rfl), rm1 hs (by exact Nat.le_of_ble_eq_true rfl), Nat.le_of_ble_eq_true rfl⟩ dL_law_1074 ?_
  refine v_istore F dL_law_1077 (by decide) (lv' := [(5, .int _), (4, .int _), (3, .ref _), (2, .ref _), (1, .ref _), (0, .ref _)]) rfl ?_
  refine v_aload_n F dL_law_1079 rfl 3 rfl ?_
  refine v_aload_n F dL_law_1080 rfl 5 rfl ?_
  refine v_iload F dL_law_1081 1 rfl ?_
  refine v_iconst F (v := nI 1) dL_law_1083 (by decide) ?_
  refine v_iadd F dL_law_1084 ?_
  refine v_topr (nI (i + 1)) (nI_add i 1) ?_
  refine v_sld F hX hbl hbase (i + 1) (Ix_nI (by omega) (by omega)) dL_law_1085 ?_
  refine v_aload_n F dL_law_1086 rfl 5 rfl ?_
  refine v_iload F dL_law_1087 1 rfl ?_
  refine v_iconst F (v := nI 2) dL_law_1089 (by decide) ?_
  refine v_iadd F dL_law_1090 ?_
  refine v_topr (nI (i + 2)) (nI_add i 2) ?_
  refine v_sld F hX hbl hbase (i + 2) (Ix_nI (by omega) (by omega)) dL_law_1091 ?_
  refine v_callVi F (As := [_, _]) (rest := []) rfl (c_X6_advise_j (M := M) G I.1 hx) Rv_Q wm_L_125 rfl ⟨rfl, rfl, Nat.le_of_ble_eq_true rfl, Nat.le_of_ble_eq_true rfl, rm2 hc (by exact Nat.le_of_ble_eq_true rfl), rm2 hs (by exact Nat.le_of_ble_eq_true rfl), Nat.le_of_ble_eq_true rfl⟩ dL_law_1092 ?_
  refine v_istore F dL_law_1095 (by decide) (lv' := [(6, .int _), (5, .int _), (4, .int _), (3, .ref _), (2, .ref _), (1, .ref _), (0, .ref _)]) rfl ?_
  refine v_aload_n F dL_law_1097 rfl 4 rfl ?_
  refine v_callVi F (As := []) (rest := []) rfl (c_X6_thrown G) Rv_Q wm_L_74 rfl ⟨rfl, rfl, Nat.le_of_ble_eq_true rfl, Nat.le_of_ble_eq_true rfl, rm3 hc (by exact Nat.le_of_ble_eq_true rfl), rm3 hs (by exact Nat.le_of_ble_eq_true rfl), Nat.le_of_ble_eq_true rfl⟩ dL_law_1098 ?_
  refine v_topr (1) (show u3 (u3 (M 2) 0 0 0 0) 0 0 0 1 0 0 0 = 1 from u3_at _ _ _ _ _) ?_
  refine v_iload F dL_law_1101 1 rfl ?_
  refine v_icmp_eq F (tgt := 1108) dL_law_1103 (by decide) (fun c1103 => ?_) (fun h => absurd (rfl) h)
  refine v_iload F dL_law_1108 1 rfl ?_
  refine v_if_ne F (tgt := 1125) dL_law_1110 (by decide) (fun c1110 => ?_) (fun h => absurd h ((by decide)))
  refine v_goto F (tgt := 1183) dL_law_1125 (by decide) ?_
  refine v_locs [2, 3, 4, 5, 6] rfl ?_
  refine v_widen (k := cells + 122) (n := slots + 871) (by omega) (by omega) ?_
  exact K _ _ ⟨_, _, _, _, Inv_q (Inv_q I 0) 1, by omega⟩
set_option maxHeartbeats 4000000 in
set_option maxRecDepth 100000 in
theorem w_advise_b (F : Fx p l s m #[Value.ref b] meth c cL_law 9 RL X) (hX : va_X b L xs s s.heap) (hbl : b < s.heap.size) (hbase : X.2.2.2 = s.heap.size) {i kk jc tc bt : Nat} {ln : Nat → Nat} (hi : i + 3 < L) (hL : L ≤ 2048) (hc : cells + 122 ≤ 601024) (hs : slots + 871 ≤ 7293034) (I : Inv (M 0) (M 2) (M 3) jc tc bt ln) (hbk : bt ≤ 200 * kk) (hkk : kk ≤ 512) {j : Nat} (hj : j < jc) (e1 : xs (i + 1) = nI j) (hx : xs (i + 2) < 1 ∨ nI 60 < xs (i + 2))  (K : ∀ (M' : Mem) (lf' : Lf), LInv M' (kk + 1) → V p l e room_1 s m #[Value.ref b] below meth c Q X 9 [] (M') (lf') (cells + 122) (slots + 871) 1183 [(4, .int (nI i)), (3, .ref (X.2.1 6 0 0)), (2, .ref (X.2.1 2 0 0)), (1, .ref (X.2.1 5 0 0)), (0, .ref b)] []) : V p l e room_1 s m #[Value.ref b] below meth c Q X 9 [] (M) (lf) (cells) (slots) 1060 [(4, .int (nI i)), (3, .ref (X.2.1 6 0 0)), (2, .ref (X.2.1 2 0 0)), (1, .ref (X.2.1 5 0 0)), (0, .ref b)] [] := by
  have G : Gx X l := ⟨F.2.2.1, F.2.2.2.2⟩
  refine v_aload_n F dL_law_1060 rfl 3 rfl ?_
  refine v_aload_n F dL_law_1061 rfl 4 rfl ?_
  refine v_iload F dL_law_1062 0 rfl ?_
  refine v_iconst F (v := nI 1) dL_law_1064 (by decide) ?_
  refine v_iadd F dL_law_1065 ?_
  refine v_topr (nI (i + 1)) (nI_add i 1) ?_
  refine v_sld F hX hbl hbase (i + 1) (Ix_nI (by omega) (by omega)) dL_law_1066 ?_
  refine v_topr (nI j) e1 ?_
  refine v_aload_n F dL_law_1067 rfl 4 rfl ?_
  refine v_iload F dL_law_1068 0 rfl ?_
  refine v_iconst F (v := nI 2) dL_law_1070 (by decide) ?_
  refine v_iadd F dL_law_1071 ?_
  refine v_topr (nI (i + 2)) (nI_add i 2) ?_
  refine v_sld F hX hbl hbase (i + 2) (Ix_nI (by omega) (by omega)) dL_law_1072 ?_
  refine v_aload_n F dL_law_1073 rfl 1 rfl ?_
  refine v_callSHi F (n := 4) (As := [_, _, _, _]) (rest := []) rfl (x_L_advise_b G I.1.1.1 hj hx) wc_L_advise wml_L_123 wst_L_advise wini_L (by decide +kernel) rfl ⟨rfl, rfl, Nat.le_of_ble_eq_true rfl, Nat.le_of_ble_eq_true rfl, rm1 hc (by exact Nat.le_of_ble_eq_true rfl), rm1 hs (by exact Nat.le_of_ble_eq_true rfl), Nat.le_of_ble_eq_true rfl⟩ dL_law_1074 ?_
  refine v_istore F dL_law_1077 (by decide) (lv' := [(5, .int _), (4, .int _), (3, .ref _), (2, .ref _), (1, .ref _), (0, .ref _)]) rfl ?_
  refine v_aload_n F dL_law_1079 rfl 3 rfl ?_
  refine v_aload_n F dL_law_1080 rfl 5 rfl ?_
  refine v_iload F dL_law_1081 1 rfl ?_
  refine v_iconst F (v := nI 1) dL_law_1083 (by decide) ?_
  refine v_iadd F dL_law_1084 ?_
  refine v_topr (nI (i + 1)) (nI_add i 1) ?_
  refine v_sld F hX hbl hbase (i + 1) (Ix_nI (by omega) (by omega)) dL_law_1085 ?_
  refine v_topr (nI j) e1 ?_
  refine v_aload_n F dL_law_1086 rfl 5 rfl ?_
  refine v_iload F dL_law_1087 1 rfl ?_
  refine v_iconst F (v := nI 2) dL_law_1089 (by decide) ?_
  refine v_iadd F dL_law_1090 ?_
  refine v_topr (nI (i + 2)) (nI_add i 2) ?_
  refine v_sld F hX hbl hbase (i + 2) (Ix_nI (by omega) (by omega)) dL_law_1091 ?_
  refine v_callVi F (As := [_, _]) (rest := []) rfl (c_X6_advise_b (M := M) G I.1 hj hx) Rv_Q wm_L_125 rfl ⟨rfl, rfl, Nat.le_of_ble_eq_true rfl, Nat.le_of_ble_eq_true rfl, rm2 hc (by exact Nat.le_of_ble_eq_true rfl), rm2 hs (by exact Nat.le_of_ble_eq_true rfl), Nat.le_of_ble_eq_true rfl⟩ dL_law_1092 ?_
  refine v_istore F dL_law_1095 (by decide) (lv' := [(6, .int _), (5, .int _), (4, .int _), (3, .ref _), (2, .ref _), (1, .ref _), (0, .ref _)]) rfl ?_
  refine v_aload_n F dL_law_1097 rfl 4 rfl ?_
  refine v_callVi F (As := []) (rest := []) rfl (c_X6_thrown G) Rv_Q wm_L_74 rfl ⟨rfl, rfl, Nat.le_of_ble_eq_true rfl, Nat.le_of_ble_eq_true rfl, rm3 hc (by exact Nat.le_of_ble_eq_true rfl), rm3 hs (by exact Nat.le_of_ble_eq_true rfl), Nat.le_of_ble_eq_true rfl⟩ dL_law_1098 ?_
  refine v_topr (2) (show u3 (u3 (M 2) 0 0 0 0) 0 0 0 2 0 0 0 = 2 from u3_at _ _ _ _ _) ?_
  refine v_iload F dL_law_1101 1 rfl ?_
  refine v_icmp_eq F (tgt := 1108) dL_law_1103 (by decide) (fun c1103 => ?_) (fun h => absurd (rfl) h)
  refine v_iload F dL_law_1108 1 rfl ?_
  refine v_if_ne F (tgt := 1125) dL_law_1110 (by decide) (fun c1110 => ?_) (fun h => absurd h ((by decide)))
  refine v_goto F (tgt := 1183) dL_law_1125 (by decide) ?_
  refine v_locs [2, 3, 4, 5, 6] rfl ?_
  refine v_widen (k := cells + 122) (n := slots + 871) (by omega) (by omega) ?_
  exact K _ _ ⟨_, _, _, _, Inv_q (Inv_q I 0) 2, by omega⟩
set_option maxHeartbeats 4000000 in
set_option maxRecDepth 100000 in
theorem w_falls (F : Fx p l s m #[Value.ref b] meth c cL_law 9 RL X) (hX : va_X b L xs s s.heap) (hbl : b < s.heap.size) (hbase : X.2.2.2 = s.heap.size) {i kk jc tc bt : Nat} {ln : Nat → Nat} (hi : i + 3 < L) (hL : L ≤ 2048) (hc : cells + 122 ≤ 601024) (hs : slots + 871 ≤ 7293034) (I : Inv (M 0) (M 2) (M 3) jc tc bt ln) (hbk : bt ≤ 200 * kk) (hkk : kk ≤ 512) (K : ∀ (M' : Mem) (lf' : Lf), LInv M' (kk + 1) → V p l e room_1 s m #[Value.ref b] below meth c Q X 9 [] (M') (lf') (cells + 122) (slots + 871) 1183 [(4, .int (nI i)), (3, .ref (X.2.1 6 0 0)), (2, .ref (X.2.1 2 0 0)), (1, .ref (X.2.1 5 0 0)), (0, .ref b)] []) : V p l e room_1 s m #[Value.ref b] below meth c Q X 9 [] (M) (lf) (cells) (slots) 979 [(4, .int (nI i)), (3, .ref (X.2.1 6 0 0)), (2, .ref (X.2.1 2 0 0)), (1, .ref (X.2.1 5 0 0)), (0, .ref b)] [] := by
  have G : Gx X l := ⟨F.2.2.1, F.2.2.2.2⟩
  have hbn : bt + 201 < 2 ^ 31 := by omega
  have CSC : Cp (fCopyR (M 1) (M 0) jc tc ln) (M 2) (M 3) jc tc bt ln := Cp_copy I.1
  obtain ⟨f, hf1, hf⟩ := I.2.2.2
  have hf2 : f + 12 < 2 ^ 31 := by omega
  refine v_aload_n F dL_law_979 rfl 3 rfl ?_
  refine v_callVi F (As := []) (rest := []) rfl (c_X4_falls G I.1.1.1 hbn I.1.2.1) Rv_H wm_L_116 rfl ⟨rfl, rfl, Nat.le_of_ble_eq_true rfl, Nat.le_of_ble_eq_true rfl, rm1 hc (by exact Nat.le_of_ble_eq_true rfl), rm1 hs (by exact Nat.le_of_ble_eq_true rfl), Nat.le_of_ble_eq_true rfl⟩ dL_law_980 ?_
  refine v_aload_n F dL_law_983 rfl 2 rfl ?_
  refine v_callVi F (As := []) (rest := [.int _]) rfl (c_X6_falls (M := uC M 1 _) G I.1 hbn hf hf2) Rv_Q wm_L_119 rfl ⟨rfl, rfl, Nat.le_of_ble_eq_true rfl, Nat.le_of_ble_eq_true rfl, rm2 hc (by exact Nat.le_of_ble_eq_true rfl), rm2 hs (by exact Nat.le_of_ble_eq_true rfl), Nat.le_of_ble_eq_true rfl⟩ dL_law_984 ?_
  refine v_topr (flF (fFall1 (fCopyR (M 1) (M 0) jc tc ln) bt jc tc ln) 200 1) (by rw [fFall1_e I.1 CSC]) ?_
  refine v_icmp_eq F (tgt := 1183) dL_law_987 (by decide) (fun c987 => ?_) (fun h => absurd (rfl) h)
  refine v_widen (k := cells + 122) (n := slots + 871) (by omega) (by omega) ?_
  exact K _ _ ⟨_, _, _, _, Inv_q I 0, by omega⟩
set_option maxHeartbeats 4000000 in
set_option maxRecDepth 100000 in
theorem w_mean (F : Fx p l s m #[Value.ref b] meth c cL_law 9 RL X) (hX : va_X b L xs s s.heap) (hbl : b < s.heap.size) (hbase : X.2.2.2 = s.heap.size) {i kk jc tc bt : Nat} {ln : Nat → Nat} (hi : i + 3 < L) (hL : L ≤ 2048) (hc : cells + 122 ≤ 601024) (hs : slots + 871 ≤ 7293034) (I : Inv (M 0) (M 2) (M 3) jc tc bt ln) (hbk : bt ≤ 200 * kk) (hkk : kk ≤ 512) (K : ∀ (M' : Mem) (lf' : Lf), LInv M' (kk + 1) → V p l e room_1 s m #[Value.ref b] below meth c Q X 9 [] (M') (lf') (cells + 122) (slots + 871) 1183 [(4, .int (nI i)), (3, .ref (X.2.1 6 0 0)), (2, .ref (X.2.1 2 0 0)), (1, .ref (X.2.1 5 0 0)), (0, .ref b)] []) : V p l e room_1 s m #[Value.ref b] below meth c Q X 9 [] (M) (lf) (cells) (slots) 1128 [(4, .int (nI i)), (3, .ref (X.2.1 6 0 0)), (2, .ref (X.2.1 2 0 0)), (1, .ref (X.2.1 5 0 0)), (0, .ref b)] [] := by
  have G : Gx X l := ⟨F.2.2.1, F.2.2.2.2⟩
  refine v_aload_n F dL_law_1128 rfl 3 rfl ?_
  refine v_callVd F (As := []) (rest := []) rfl (c_X4_mean G I.1.1.1) Rv_H wm_L_126 rfl ⟨rfl, rfl, Nat.le_of_ble_eq_true rfl, Nat.le_of_ble_eq_true rfl, rm1 hc (by exact Nat.le_of_ble_eq_true rfl), rm1 hs (by exact Nat.le_of_ble_eq_true rfl), Nat.le_of_ble_eq_true rfl⟩ dL_law_1129 ?_
  refine v_dstore F dL_law_1132 (by decide) (lv' := [(5, .double _), (4, .int _), (3, .ref _), (2, .ref _), (1, .ref _), (0, .ref _)]) rfl ?_
  refine v_aload_n F dL_law_1134 rfl 3 rfl ?_
  refine v_callVd F (As := []) (rest := []) rfl (c_X6_mean (M := M) G I.1) Rv_Q wm_L_130 rfl ⟨rfl, rfl, Nat.le_of_ble_eq_true rfl, Nat.le_of_ble_eq_true rfl, rm2 hc (by exact Nat.le_of_ble_eq_true rfl), rm2 hs (by exact Nat.le_of_ble_eq_true rfl), Nat.le_of_ble_eq_true rfl⟩ dL_law_1135 ?_
  refine v_dstore F dL_law_1138 (by decide) (lv' := [(7, .double _), (5, .double _), (4, .int _), (3, .ref _), (2, .ref _), (1, .ref _), (0, .ref _)]) rfl ?_
  refine v_dload F dL_law_1140 1 rfl ?_
  refine v_dload F dL_law_1142 0 rfl ?_
  refine v_dcmp F dL_law_1144 ?_
  refine v_if_eq F (tgt := 1166) dL_law_1145 (by decide) (fun c1145 => ?_) (fun c1145 => ?_)
  · have := c1145
    refine v_goto F (tgt := 1183) dL_law_1166 (by decide) ?_
    refine v_locs [2, 3, 4, 5, 6] rfl ?_
    refine v_widen (k := cells + 122) (n := slots + 871) (by omega) (by omega) ?_
    exact K _ _ ⟨_, _, _, _, Inv_q I 0, by omega⟩
  · have := c1145
    refine v_dload F dL_law_1148 1 rfl ?_
    refine v_dload F dL_law_1150 1 rfl ?_
    refine v_dcmp F dL_law_1152 ?_
    refine v_if_eq F (tgt := 1164) dL_law_1153 (by decide) (fun h => absurd h (c1145)) (fun c1153 => ?_)
    refine v_dload F dL_law_1156 0 rfl ?_
    refine v_dload F dL_law_1158 0 rfl ?_
    refine v_dcmp F dL_law_1160 ?_
    refine v_if_ne F (tgt := 1166) dL_law_1161 (by decide) (fun c1161 => ?_) (fun h => absurd h (c1145))
    refine v_goto F (tgt := 1183) dL_law_1166 (by decide) ?_
    refine v_locs [2, 3, 4, 5, 6] rfl ?_
    refine v_widen (k := cells + 122) (n := slots + 871) (by omega) (by omega) ?_
    exact K _ _ ⟨_, _, _, _, Inv_q I 0, by omega⟩
set_option maxHeartbeats 4000000 in
set_option maxRecDepth 100000 in
theorem w_digest (F : Fx p l s m #[Value.ref b] meth c cL_law 9 RL X) (hX : va_X b L xs s s.heap) (hbl : b < s.heap.size) (hbase : X.2.2.2 = s.heap.size) {i kk jc tc bt : Nat} {ln : Nat → Nat} (hi : i + 3 < L) (hL : L ≤ 2048) (hc : cells + 122 ≤ 601024) (hs : slots + 871 ≤ 7293034) (I : Inv (M 0) (M 2) (M 3) jc tc bt ln) (hbk : bt ≤ 200 * kk) (hkk : kk ≤ 512) (K : ∀ (M' : Mem) (lf' : Lf), LInv M' (kk + 1) → V p l e room_1 s m #[Value.ref b] below meth c Q X 9 [] (M') (lf') (cells + 122) (slots + 871) 1183 [(4, .int (nI i)), (3, .ref (X.2.1 6 0 0)), (2, .ref (X.2.1 2 0 0)), (1, .ref (X.2.1 5 0 0)), (0, .ref b)] []) : V p l e room_1 s m #[Value.ref b] below meth c Q X 9 [] (M) (lf) (cells) (slots) 1169 [(4, .int (nI i)), (3, .ref (X.2.1 6 0 0)), (2, .ref (X.2.1 2 0 0)), (1, .ref (X.2.1 5 0 0)), (0, .ref b)] [] := by
  have G : Gx X l := ⟨F.2.2.1, F.2.2.2.2⟩
  refine v_aload_n F dL_law_1169 rfl 3 rfl ?_
  refine v_callVl F (As := []) (rest := []) rfl (c_X4_digest G I.1.1.1) Rv_H wm_L_131 rfl ⟨rfl, rfl, Nat.le_of_ble_eq_true rfl, Nat.le_of_ble_eq_true rfl, rm1 hc (by exact Nat.le_of_ble_eq_true rfl), rm1 hs (by exact Nat.le_of_ble_eq_true rfl), Nat.le_of_ble_eq_true rfl⟩ dL_law_1170 ?_
  refine v_aload_n F dL_law_1173 rfl 2 rfl ?_
  refine v_callVl F (As := []) (rest := [.long _]) rfl (c_X6_digest (M := M) G I.1) Rv_Q wm_L_135 rfl ⟨rfl, rfl, Nat.le_of_ble_eq_true rfl, Nat.le_of_ble_eq_true rfl, rm2 hc (by exact Nat.le_of_ble_eq_true rfl), rm2 hs (by exact Nat.le_of_ble_eq_true rfl), Nat.le_of_ble_eq_true rfl⟩ dL_law_1174 ?_
  refine v_lcmp F dL_law_1177 ?_
  refine v_if_eq F (tgt := 1183) dL_law_1178 (by decide) (fun c1178 => ?_) (fun h => absurd ((lg_self _)) h)
  refine v_widen (k := cells + 122) (n := slots + 871) (by omega) (by omega) ?_
  exact K _ _ ⟨_, _, _, _, Inv_q I 0, by omega⟩
end LAW
