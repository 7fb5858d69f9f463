/-! ===== contracts of the class ===== -/
section PL
variable {X : Cx} {l : Launch} {y : MethodName} {ws : List Cond} {rm : Room} {av : List Value} {M M' : Mem} {lf lf' : Lf} {mc ms : Nat} {r : Nat}
theorem CI_pl {x : Int32} (h : CI X l y ws rm av (uC M r (M r)) lf x M' lf' mc ms) : CI X l y ws rm av M lf x M' lf' mc ms := by rw [uC_self] at h; exact h
theorem CI_q {x : Int32} (h : CI X l y ws rm av (uC M r (M r)) lf x (uC M r (M r)) lf' mc ms) : CI X l y ws rm av M lf x M lf' mc ms := by rw [uC_self] at h; exact h
theorem CL_q {x : Int64} (h : CL X l y ws rm av (uC M r (M r)) lf x (uC M r (M r)) lf' mc ms) : CL X l y ws rm av M lf x M lf' mc ms := by rw [uC_self] at h; exact h
theorem CV_pl (h : CV X l y ws rm av (uC M r (M r)) lf M' lf' mc ms) : CV X l y ws rm av M lf M' lf' mc ms := by rw [uC_self] at h; exact h
theorem CV_q (h : CV X l y ws rm av (uC M r (M r)) lf (uC M r (M r)) lf' mc ms) : CV X l y ws rm av M lf M lf' mc ms := by rw [uC_self] at h; exact h
end PL
theorem fHasJ_out {σ : Sg} {x : Int32} {jc : Nat} (hJ : σ 0 0 2 = nI jc) (h : x < 0 ∨ nI jc ≤ x) : fHasJ σ x = 0 := by
  unfold fHasJ
  rw [hJ]
  exact if_neg (fun z => h.elim z.1 z.2)
theorem fHasT_out {σ : Sg} {x : Int32} {tc : Nat} (hJ : σ 0 0 3 = nI tc) (h : x < 0 ∨ nI tc ≤ x) : fHasT σ x = 0 := by
  unfold fHasT
  rw [hJ]
  exact if_neg (fun z => h.elim z.1 z.2)
theorem lt_of_nle {a b : Int32} (h : ¬ a ≤ b) : b < a := Int32.not_le.mp h
theorem le_of_nlt {a b : Int32} (h : ¬ a < b) : b ≤ a := Int32.not_lt.mp h
theorem nlt_le {a b : Int32} (h : a ≤ b) : ¬ b < a := Int32.not_lt.mpr h
theorem nle_lt {a b : Int32} (h : a < b) : ¬ b ≤ a := Int32.not_le.mpr h
theorem laL_01 (σ : Sg) (i n : Nat) : ∀ (k p : Nat) (a : Int32), laL σ i n k p a = 0 ∨ laL σ i n k p a = 1
  | 0, _, _ => Or.inr rfl
  | k + 1, p, a => by
    unfold laL
    split
    · exact laL_01 σ i n k _ _
    · exact Or.inl rfl
theorem fLands_z (σ : Sg) (i n : Nat) : narrow .boolean (.int (fLands σ i n)) = .int (fLands σ i n) := by
  unfold fLands
  rcases laL_01 σ i n n 0 0 with h | h <;> rw [h] <;> decide
abbrev rm_X4_testJuggler : Room := { frames := 1, cells := 0, slots := 0, locals := 21 }
abbrev rm_X4_testThing : Room := { frames := 1, cells := 0, slots := 0, locals := 21 }
abbrev rm_X4_testWhat : Room := { frames := 0, cells := 0, slots := 0, locals := 0 }
abbrev rm_X4_testBeats : Room := { frames := 0, cells := 0, slots := 0, locals := 0 }
set_option maxHeartbeats 4000000 in
set_option maxRecDepth 100000 in
theorem c_X4_testJuggler {X : Cx} {l : Launch} (G : Gx X l) {M : Mem} {lf : Lf} {jc tc : Nat} {ln : Nat → Nat} (hS : Shp (M 0) jc tc ln) {j : Nat} (hj : j < jc) : CV X l yX4_testJuggler (wsc yX4_testJuggler cX4_testJuggler 2 none) rm_X4_testJuggler [.ref (X.2.1 5 0 0), .int (nI j)] (M) lf (M) lf 0 0 := by
  refine CV_of (lv := [(0, .ref _), (1, .int _)]) G (by decide) (Nat.le_of_ble_eq_true rfl) rfl (fun p e s m args below meth c F hr => ?_)
  have F : Fx p l s m args meth c cX4_testJuggler 2 RX4 X := F
  have h4 := hS.1
  have h12 := hS.2.1
  refine v_aload_n F dX4_testJuggler_0 rfl 0 rfl ?_
  refine v_get F id_5 rfl rfl uw_X4 0 (by decide) rfl rfl wf_X4_10 dX4_testJuggler_1 ?_
  refine v_iload_n F dX4_testJuggler_4 rfl 1 rfl ?_
  refine v_callNi F (As := [_]) (rest := []) rfl (CI_q (c_X2_hasJuggler G (by decide) (nI j))) (Rv_R (by decide)) wm_X4_181 rfl ⟨rfl, rfl, Nat.le_of_ble_eq_true rfl, Nat.le_of_ble_eq_true rfl, Nat.le_of_ble_eq_true rfl, Nat.le_of_ble_eq_true rfl, Nat.le_of_ble_eq_true rfl⟩ dX4_testJuggler_5 ?_
  refine v_if_ne F (tgt := 21) dX4_testJuggler_8 (by decide) (fun c8 => ?_) (fun h => absurd h ((by rw [hasJ_1 hS.2.2.1 hj h4]; decide)))
  exact v_vret F hr dX4_testJuggler_21 rfl rfl
set_option maxHeartbeats 4000000 in
set_option maxRecDepth 100000 in
theorem c_X4_testThing {X : Cx} {l : Launch} (G : Gx X l) {M : Mem} {lf : Lf} {jc tc : Nat} {ln : Nat → Nat} (hS : Shp (M 0) jc tc ln) {k : Nat} (hk : k < tc) : CV X l yX4_testThing (wsc yX4_testThing cX4_testThing 2 none) rm_X4_testThing [.ref (X.2.1 5 0 0), .int (nI k)] (M) lf (M) lf 0 0 := by
  refine CV_of (lv := [(0, .ref _), (1, .int _)]) G (by decide) (Nat.le_of_ble_eq_true rfl) rfl (fun p e s m args below meth c F hr => ?_)
  have F : Fx p l s m args meth c cX4_testThing 2 RX4 X := F
  have h4 := hS.1
  have h12 := hS.2.1
  refine v_aload_n F dX4_testThing_0 rfl 0 rfl ?_
  refine v_get F id_5 rfl rfl uw_X4 0 (by decide) rfl rfl wf_X4_10 dX4_testThing_1 ?_
  refine v_iload_n F dX4_testThing_4 rfl 1 rfl ?_
  refine v_callNi F (As := [_]) (rest := []) rfl (CI_q (c_X2_hasThing G (by decide) (nI k))) (Rv_R (by decide)) wm_X4_189 rfl ⟨rfl, rfl, Nat.le_of_ble_eq_true rfl, Nat.le_of_ble_eq_true rfl, Nat.le_of_ble_eq_true rfl, Nat.le_of_ble_eq_true rfl, Nat.le_of_ble_eq_true rfl⟩ dX4_testThing_5 ?_
  refine v_if_ne F (tgt := 21) dX4_testThing_8 (by decide) (fun c8 => ?_) (fun h => absurd h ((by rw [hasT_1 hS.2.2.2.1 hk h12]; decide)))
  exact v_vret F hr dX4_testThing_21 rfl rfl
set_option maxHeartbeats 4000000 in
set_option maxRecDepth 100000 in
theorem c_X4_testWhat {X : Cx} {l : Launch} (G : Gx X l) {M : Mem} {lf : Lf} {q n : Nat} (hq : q < n) (hn : n < 2 ^ 31) : CV X l yX4_testWhat (wsc yX4_testWhat cX4_testWhat 2 none) rm_X4_testWhat [.int (nI q), .int (nI n)] (M) lf (M) lf 0 0 := by
  refine CV_of (lv := [(0, .int _), (1, .int _)]) G (by decide) (Nat.le_of_ble_eq_true rfl) rfl (fun p e s m args below meth c F hr => ?_)
  have F : Fx p l s m args meth c cX4_testWhat 2 RX4 X := F
  refine v_iload_n F dX4_testWhat_0 rfl 0 rfl ?_
  refine v_if_lt F (tgt := 9) dX4_testWhat_1 (by decide) (fun h => absurd h (nI_pos (by omega))) (fun c1 => ?_)
  refine v_iload_n F dX4_testWhat_4 rfl 0 rfl ?_
  refine v_iload_n F dX4_testWhat_5 rfl 1 rfl ?_
  refine v_icmp_lt F (tgt := 19) dX4_testWhat_6 (by decide) (fun c6 => ?_) (fun h => absurd (nI_lt hq hn) h)
  exact v_vret F hr dX4_testWhat_19 rfl rfl
set_option maxHeartbeats 4000000 in
set_option maxRecDepth 100000 in
theorem c_X4_testBeats {X : Cx} {l : Launch} (G : Gx X l) {M : Mem} {lf : Lf} {q n : Nat} (h1 : 1 ≤ q) (hq : q ≤ n) (hn : n < 2 ^ 31) : CV X l yX4_testBeats (wsc yX4_testBeats cX4_testBeats 2 none) rm_X4_testBeats [.int (nI q), .int (nI n)] (M) lf (M) lf 0 0 := by
  refine CV_of (lv := [(0, .int _), (1, .int _)]) G (by decide) (Nat.le_of_ble_eq_true rfl) rfl (fun p e s m args below meth c F hr => ?_)
  have F : Fx p l s m args meth c cX4_testBeats 2 RX4 X := F
  refine v_iload_n F dX4_testBeats_0 rfl 0 rfl ?_
  refine v_iconst F (v := nI 1) dX4_testBeats_1 (by decide) ?_
  refine v_icmp_lt F (tgt := 10) dX4_testBeats_2 (by decide) (fun h => absurd h (nI_nlt h1 (by omega))) (fun c2 => ?_)
  refine v_iload_n F dX4_testBeats_5 rfl 0 rfl ?_
  refine v_iload_n F dX4_testBeats_6 rfl 1 rfl ?_
  refine v_icmp_le F (tgt := 20) dX4_testBeats_7 (by decide) (fun c7 => ?_) (fun h => absurd (nI_le hq hn) h)
  exact v_vret F hr dX4_testBeats_20 rfl rfl
abbrev rm_X4_testPlace : Room := { frames := 2, cells := 0, slots := 0, locals := 42 }
set_option maxHeartbeats 4000000 in
set_option maxRecDepth 100000 in
theorem c_X4_testPlace {X : Cx} {l : Launch} (G : Gx X l) {M : Mem} {lf : Lf} {jc tc : Nat} {ln : Nat → Nat} (hS : Shp (M 0) jc tc ln) {j q : Nat} (hj : j < jc) (hq : q < ln j) : CV X l yX4_testPlace (wsc yX4_testPlace cX4_testPlace 3 none) rm_X4_testPlace [.ref (X.2.1 5 0 0), .int (nI j), .int (nI q)] (M) lf (M) lf 0 0 := by
  refine CV_of (lv := [(0, .ref _), (1, .int _), (2, .int _)]) G (by decide) (Nat.le_of_ble_eq_true rfl) rfl (fun p e s m args below meth c F hr => ?_)
  have F : Fx p l s m args meth c cX4_testPlace 3 RX4 X := F
  have h4 := hS.1
  have h12 := hS.2.1
  have h8 := (hS.2.2.2.2 j hj).2.1
  refine v_aload_n F dX4_testPlace_0 rfl 0 rfl ?_
  refine v_iload_n F dX4_testPlace_1 rfl 1 rfl ?_
  refine v_callVv F (As := [_]) (rest := []) rfl (c_X4_testJuggler G hS hj) Rv_H wm_X4_39 rfl ⟨rfl, rfl, Nat.le_of_ble_eq_true rfl, Nat.le_of_ble_eq_true rfl, Nat.le_of_ble_eq_true rfl, Nat.le_of_ble_eq_true rfl, Nat.le_of_ble_eq_true rfl⟩ dX4_testPlace_2 ?_
  refine v_iload_n F dX4_testPlace_5 rfl 2 rfl ?_
  refine v_if_lt F (tgt := 28) dX4_testPlace_6 (by decide) (fun h => absurd h (nI_pos (by omega))) (fun c6 => ?_)
  refine v_iload_n F dX4_testPlace_9 rfl 2 rfl ?_
  refine v_aload_n F dX4_testPlace_10 rfl 0 rfl ?_
  refine v_get F id_5 rfl rfl uw_X4 0 (by decide) rfl rfl wf_X4_10 dX4_testPlace_11 ?_
  refine v_getN F (id_R (by decide) (by decide) (by decide)) (celD_R (by decide)) rfl uw_X2 0 (by decide) rfl rfl wf_X4_50 dX4_testPlace_14 ?_
  refine v_iload_n F dX4_testPlace_17 rfl 1 rfl ?_
  refine v_aaldJ F (by decide) (j) (Ix_nI (show j < 4 by omega)) dX4_testPlace_18 ?_
  refine v_getN F (id_R (by decide) (by decide) (show j < 4 by omega)) (celD_R (by decide)) rfl uw_X0 0 (by decide) rfl rfl wf_X4_54 dX4_testPlace_19 ?_
  refine v_getN F (id_R (by decide) (by decide) (show j < 4 by omega)) (celD_R (by decide)) rfl uw_X1 2 (by decide) rfl rfl wf_X4_60 dX4_testPlace_22 ?_
  refine v_topr (nI (ln j)) (hS.2.2.2.2 j hj).2.2 ?_
  refine v_icmp_lt F (tgt := 38) dX4_testPlace_25 (by decide) (fun c25 => ?_) (fun h => absurd (nI_lt hq (by omega)) h)
  exact v_vret F hr dX4_testPlace_38 rfl rfl
abbrev rm_X4_powerOfTen : Room := { frames := 0, cells := 0, slots := 0, locals := 0 }
section RT
variable {p : Program} {l : Launch} {e : Env} {R : Room} {s : State} {m : MethodId} {args : Array Value} {below : List Frame} {meth : Method} {c : Code} {Q : State → Prop} {X : Cx} {nL : Nat} {ex : va_W} {M : Mem} {lf : Lf} {cells slots : Nat}
set_option maxHeartbeats 4000000 in
set_option maxRecDepth 100000 in
theorem L_X4_powerOfTen (F : Fx p l s m args meth c cX4_powerOfTen 3 RX4 X) {n : Nat} (h8 : n ≤ 8) (K : V p l e R s m args below meth c Q X 3 ex (M) lf cells slots 20 [(2, .int (nI n)), (1, .int (p10L 1 n)), (0, .int (nI n))] []) : ∀ (k q : Nat), k + q = n → V p l e R s m args below meth c Q X 3 ex (M) lf cells slots 4 [(2, .int (nI q)), (1, .int (p10L 1 q)), (0, .int (nI n))] [] := by
  intro k
  induction k with
  | zero =>
    intro q hq
    obtain rfl : q = n := by omega
    refine v_iload_n F dX4_powerOfTen_4 rfl 0 rfl ?_
    refine v_iload_n F dX4_powerOfTen_5 rfl 2 rfl ?_
    refine v_icmp_ge F (tgt := 20) dX4_powerOfTen_6 (by decide) (fun c6 => ?_) (fun h => absurd (nI_le (Nat.le_refl _) (by omega)) h)
    exact K
  | succ k ih =>
    intro q hq
    refine v_iload_n F dX4_powerOfTen_4 rfl 0 rfl ?_
    refine v_iload_n F dX4_powerOfTen_5 rfl 2 rfl ?_
    refine v_icmp_ge F (tgt := 20) dX4_powerOfTen_6 (by decide) (fun h => absurd h (nI_ge (by omega) (by omega))) (fun c6 => ?_)
    refine v_iload_n F dX4_powerOfTen_9 rfl 1 rfl ?_
    refine v_bipush F (v := 10) dX4_powerOfTen_10 (by decide) ?_
    refine v_imul F dX4_powerOfTen_12 ?_
    refine v_istore_n F dX4_powerOfTen_13 rfl (by decide) (lv' := [(1, .int _), (2, .int _), (0, .int _)]) rfl ?_
    refine v_iinc F (k := 1) (nI (q + 1)) dX4_powerOfTen_14 rfl (iinc_nI q) (by decide) (lv' := [(2, .int _), (1, .int _), (0, .int _)]) rfl ?_
    refine v_goto F (tgt := 4) dX4_powerOfTen_17 (by decide) ?_
    exact v_locs [0, 1, 2] rfl (ih (q + 1) (by omega))
set_option maxHeartbeats 4000000 in
set_option maxRecDepth 100000 in
theorem c_X4_powerOfTen {X : Cx} {l : Launch} (G : Gx X l) {M : Mem} {lf : Lf} {n : Nat} (h8 : n ≤ 8) : CI X l yX4_powerOfTen (wsc yX4_powerOfTen cX4_powerOfTen 3 (some .int)) rm_X4_powerOfTen [.int (nI n)] (M) lf (p10L 1 n) (M) lf 0 0 := by
  refine CI_of (lv := [(0, .int _)]) G (by decide) (Nat.le_of_ble_eq_true rfl) rfl (fun p e s m args below meth c F hr => ?_)
  have F : Fx p l s m args meth c cX4_powerOfTen 3 RX4 X := F
  refine v_iconst F (v := 1) dX4_powerOfTen_0 (by decide) ?_
  refine v_istore_n F dX4_powerOfTen_1 rfl (by decide) (lv' := [(1, .int _), (0, .int _)]) rfl ?_
  refine v_iconst F (v := nI 0) dX4_powerOfTen_2 (by decide) ?_
  refine v_istore_n F dX4_powerOfTen_3 rfl (by decide) (lv' := [(2, .int _), (1, .int _), (0, .int _)]) rfl ?_
  refine L_X4_powerOfTen F h8 ?_ n 0 (Nat.add_zero n)
  · skip
    refine v_iload_n F dX4_powerOfTen_20 rfl 1 rfl ?_
    exact v_iret F hr dX4_powerOfTen_21 rfl rfl rfl
theorem p10L_nI : ∀ n : Nat, n ≤ 8 → p10L 1 n = nI (10 ^ n)
  | 0, _ => rfl
  | n + 1, h => by
    show p10L 1 n * 10 = nI (10 ^ (n + 1))
    rw [p10L_nI n (by omega), show (10 : Int32) = nI 10 from rfl, pk_mul, ← Nat.pow_succ]
theorem p10_lt {n : Nat} (h : n ≤ 8) : 10 ^ n < 2 ^ 31 := Nat.lt_of_le_of_lt (Nat.pow_le_pow_right (by decide) h) (by decide)
abbrev rm_X4_come : Room := { frames := 2, cells := 0, slots := 0, locals := 47 }
abbrev rx_X4_come : Room := { frames := 6, cells := 1, slots := 6, locals := 82 }
set_option maxHeartbeats 4000000 in
set_option maxRecDepth 100000 in
theorem c_X4_come {X : Cx} {l : Launch} (G : Gx X l) {M : Mem} {lf : Lf} {j n : Nat} (hj : j < 4) (hσ : M 0 0 0 2 = nI j) (h1 : 1 ≤ n) (h9 : n ≤ 9) : CI X l yX4_come (wsc yX4_come cX4_come 2 (some .int)) rm_X4_come [.ref (X.2.1 5 0 0), .int (nI n)] (M) lf (nI j) (uC M 0 (fAddJ (M 0) j (nI n))) lf 0 0 := by
  refine CI_of (lv := [(0, .ref _), (1, .int _)]) G (by decide) (Nat.le_of_ble_eq_true rfl) rfl (fun p e s m args below meth c F hr => ?_)
  have F : Fx p l s m args meth c cX4_come 2 RX4 X := F
  refine v_iload_n F dX4_come_0 rfl 1 rfl ?_
  refine v_iconst F (v := nI 1) dX4_come_1 (by decide) ?_
  refine v_icmp_lt F (tgt := 11) dX4_come_2 (by decide) (fun h => absurd h (nI_nlt h1 (by omega))) (fun c2 => ?_)
  refine v_iload_n F dX4_come_5 rfl 1 rfl ?_
  refine v_bipush F (v := nI 9) dX4_come_6 (by decide) ?_
  refine v_icmp_le F (tgt := 21) dX4_come_8 (by decide) (fun c8 => ?_) (fun h => absurd (nI_le h9 (by decide)) h)
  refine v_aload_n F dX4_come_21 rfl 0 rfl ?_
  refine v_get F id_5 rfl rfl uw_X4 0 (by decide) rfl rfl wf_X4_10 dX4_come_22 ?_
  refine v_getN F (id_R (by decide) (by decide) (by decide)) (celD_R (by decide)) rfl uw_X2 2 (by decide) rfl rfl wf_X4_26 dX4_come_25 ?_
  refine v_topr (nI j) hσ ?_
  refine v_iconst F (v := nI 4) dX4_come_28 (by decide) ?_
  refine v_icmp_lt F (tgt := 42) dX4_come_29 (by decide) (fun c29 => ?_) (fun h => absurd (nI_lt hj (by decide)) h)
  refine v_aload_n F dX4_come_42 rfl 0 rfl ?_
  refine v_get F id_5 rfl rfl uw_X4 0 (by decide) rfl rfl wf_X4_10 dX4_come_43 ?_
  refine v_iload_n F dX4_come_46 rfl 1 rfl ?_
  refine v_callNi F (As := [_]) (rest := []) rfl (CI_pl (c_X2_addJuggler G (by decide) hj hσ (nI n))) (Rv_R (by decide)) wm_X4_35 rfl ⟨rfl, rfl, Nat.le_of_ble_eq_true rfl, Nat.le_of_ble_eq_true rfl, Nat.le_of_ble_eq_true rfl, Nat.le_of_ble_eq_true rfl, Nat.le_of_ble_eq_true rfl⟩ dX4_come_47 ?_
  exact v_iret F hr dX4_come_50 rfl rfl rfl
abbrev rm_X4_setPattern : Room := { frames := 2, cells := 0, slots := 0, locals := 42 }
abbrev rx_X4_setPattern : Room := { frames := 7, cells := 1, slots := 6, locals := 103 }
set_option maxHeartbeats 4000000 in
set_option maxRecDepth 100000 in
theorem c_X4_setPattern {X : Cx} {l : Launch} (G : Gx X l) {M : Mem} {lf : Lf} {jc tc : Nat} {ln : Nat → Nat} (hS : Shp (M 0) jc tc ln) {j n d : Nat} (hj : j < jc) (h1 : 1 ≤ n) (h8 : n ≤ 8) (hd : d < 10 ^ n) : CI X l yX4_setPattern (wsc yX4_setPattern cX4_setPattern 6 (some .int)) rm_X4_setPattern [.ref (X.2.1 5 0 0), .int (nI j), .int (nI n), .int (nI d)] (M) lf (nI (ln j)) (uC M 0 (fWrite (M 0) j (nI j) n (nI d))) lf 0 0 := by
  refine CI_of (lv := [(0, .ref _), (1, .int _), (2, .int _), (3, .int _)]) G (by decide) (Nat.le_of_ble_eq_true rfl) rfl (fun p e s m args below meth c F hr => ?_)
  have F : Fx p l s m args meth c cX4_setPattern 6 RX4 X := F
  have h4 := hS.1
  have h12 := hS.2.1
  have h10 := p10_lt h8
  refine v_aload_n F dX4_setPattern_0 rfl 0 rfl ?_
  refine v_iload_n F dX4_setPattern_1 rfl 1 rfl ?_
  refine v_callVv F (As := [_]) (rest := []) rfl (c_X4_testJuggler G hS hj) Rv_H wm_X4_39 rfl ⟨rfl, rfl, Nat.le_of_ble_eq_true rfl, Nat.le_of_ble_eq_true rfl, Nat.le_of_ble_eq_true rfl, Nat.le_of_ble_eq_true rfl, Nat.le_of_ble_eq_true rfl⟩ dX4_setPattern_2 ?_
  refine v_iload_n F dX4_setPattern_5 rfl 2 rfl ?_
  refine v_iconst F (v := nI 1) dX4_setPattern_6 (by decide) ?_
  refine v_icmp_lt F (tgt := 16) dX4_setPattern_7 (by decide) (fun h => absurd h (nI_nlt h1 (by omega))) (fun c7 => ?_)
  refine v_iload_n F dX4_setPattern_10 rfl 2 rfl ?_
  refine v_bipush F (v := nI 8) dX4_setPattern_11 (by decide) ?_
  refine v_icmp_le F (tgt := 26) dX4_setPattern_13 (by decide) (fun c13 => ?_) (fun h => absurd (nI_le h8 (by decide)) h)
  refine v_iload_n F dX4_setPattern_26 rfl 3 rfl ?_
  refine v_if_lt F (tgt := 38) dX4_setPattern_27 (by decide) (fun h => absurd h (nI_pos (by omega))) (fun c27 => ?_)
  refine v_iload_n F dX4_setPattern_30 rfl 3 rfl ?_
  refine v_iload_n F dX4_setPattern_31 rfl 2 rfl ?_
  refine v_callSi F (As := [_]) (rest := [.int _]) rfl (c_X4_powerOfTen G h8) wm_X4_45 rfl ⟨rfl, rfl, Nat.le_of_ble_eq_true rfl, Nat.le_of_ble_eq_true rfl, Nat.le_of_ble_eq_true rfl, Nat.le_of_ble_eq_true rfl, Nat.le_of_ble_eq_true rfl⟩ dX4_setPattern_32 ?_
  refine v_topr (nI (10 ^ n)) (p10L_nI n h8) ?_
  refine v_icmp_lt F (tgt := 48) dX4_setPattern_35 (by decide) (fun c35 => ?_) (fun h => absurd (nI_lt hd h10) h)
  refine v_aload_n F dX4_setPattern_48 rfl 0 rfl ?_
  refine v_get F id_5 rfl rfl uw_X4 0 (by decide) rfl rfl wf_X4_10 dX4_setPattern_49 ?_
  refine v_getN F (id_R (by decide) (by decide) (by decide)) (celD_R (by decide)) rfl uw_X2 0 (by decide) rfl rfl wf_X4_50 dX4_setPattern_52 ?_
  refine v_iload_n F dX4_setPattern_55 rfl 1 rfl ?_
  refine v_aaldJ F (by decide) (j) (Ix_nI (show j < 4 by omega)) dX4_setPattern_56 ?_
  refine v_getN F (id_R (by decide) (by decide) (show j < 4 by omega)) (celD_R (by decide)) rfl uw_X0 0 (by decide) rfl rfl wf_X4_54 dX4_setPattern_57 ?_
  refine v_astore F dX4_setPattern_60 (by decide) (lv' := [(4, .ref _), (0, .ref _), (1, .int _), (2, .int _), (3, .int _)]) rfl ?_
  refine v_aload F dX4_setPattern_62 0 rfl ?_
  refine v_getN F (id_R (by decide) (by decide) (show j < 4 by omega)) (celD_R (by decide)) rfl uw_X1 2 (by decide) rfl rfl wf_X4_60 dX4_setPattern_64 ?_
  refine v_topr (nI (ln j)) (hS.2.2.2.2 j hj).2.2 ?_
  refine v_istore F dX4_setPattern_67 (by decide) (lv' := [(5, .int _), (4, .ref _), (0, .ref _), (1, .int _), (2, .int _), (3, .int _)]) rfl ?_
  refine v_aload F dX4_setPattern_69 1 rfl ?_
  refine v_iload_n F dX4_setPattern_71 rfl 3 rfl ?_
  refine v_iload_n F dX4_setPattern_72 rfl 4 rfl ?_
  refine v_iload_n F dX4_setPattern_73 rfl 5 rfl ?_
  refine v_callNv F (As := [_, _, _]) (rest := []) rfl (CV_pl (c_X1_write G (by decide) (show j < 4 by omega) (nI j) (nI d) h1 h8)) (Rv_P (by decide) (show j < 4 by omega)) wm_X4_65 rfl ⟨rfl, rfl, Nat.le_of_ble_eq_true rfl, Nat.le_of_ble_eq_true rfl, Nat.le_of_ble_eq_true rfl, Nat.le_of_ble_eq_true rfl, Nat.le_of_ble_eq_true rfl⟩ dX4_setPattern_74 ?_
  refine v_iload F dX4_setPattern_77 0 rfl ?_
  exact v_iret F hr dX4_setPattern_79 rfl rfl rfl
abbrev rm_X4_pass : Room := { frames := 3, cells := 0, slots := 0, locals := 64 }
abbrev rx_X4_pass : Room := { frames := 8, cells := 1, slots := 6, locals := 125 }
set_option maxHeartbeats 4000000 in
set_option maxRecDepth 100000 in
theorem c_X4_pass {X : Cx} {l : Launch} (G : Gx X l) {M : Mem} {lf : Lf} {jc tc : Nat} {ln : Nat → Nat} (hS : Shp (M 0) jc tc ln) {j q t : Nat} (hj : j < jc) (hq : q < ln j) (ht : t < jc) : CI X l yX4_pass (wsc yX4_pass cX4_pass 6 (some .int)) rm_X4_pass [.ref (X.2.1 5 0 0), .int (nI j), .int (nI q), .int (nI t)] (M) lf (M 0 5 j q) (uC M 0 (u3 (M 0) 5 j q (nI t))) lf 0 0 := by
  refine CI_of (lv := [(0, .ref _), (1, .int _), (2, .int _), (3, .int _)]) G (by decide) (Nat.le_of_ble_eq_true rfl) rfl (fun p e s m args below meth c F hr => ?_)
  have F : Fx p l s m args meth c cX4_pass 6 RX4 X := F
  have h4 := hS.1
  have h12 := hS.2.1
  have h8 := (hS.2.2.2.2 j hj).2.1
  refine v_aload_n F dX4_pass_0 rfl 0 rfl ?_
  refine v_iload_n F dX4_pass_1 rfl 1 rfl ?_
  refine v_iload_n F dX4_pass_2 rfl 2 rfl ?_
  refine v_callVv F (As := [_, _]) (rest := []) rfl (c_X4_testPlace G hS hj hq) Rv_H wm_X4_69 rfl ⟨rfl, rfl, Nat.le_of_ble_eq_true rfl, Nat.le_of_ble_eq_true rfl, Nat.le_of_ble_eq_true rfl, Nat.le_of_ble_eq_true rfl, Nat.le_of_ble_eq_true rfl⟩ dX4_pass_3 ?_
  refine v_aload_n F dX4_pass_6 rfl 0 rfl ?_
  refine v_iload_n F dX4_pass_7 rfl 3 rfl ?_
  refine v_callVv F (As := [_]) (rest := []) rfl (c_X4_testJuggler G hS ht) Rv_H wm_X4_39 rfl ⟨rfl, rfl, Nat.le_of_ble_eq_true rfl, Nat.le_of_ble_eq_true rfl, Nat.le_of_ble_eq_true rfl, Nat.le_of_ble_eq_true rfl, Nat.le_of_ble_eq_true rfl⟩ dX4_pass_8 ?_
  refine v_aload_n F dX4_pass_11 rfl 0 rfl ?_
  refine v_get F id_5 rfl rfl uw_X4 0 (by decide) rfl rfl wf_X4_10 dX4_pass_12 ?_
  refine v_getN F (id_R (by decide) (by decide) (by decide)) (celD_R (by decide)) rfl uw_X2 0 (by decide) rfl rfl wf_X4_50 dX4_pass_15 ?_
  refine v_iload_n F dX4_pass_18 rfl 1 rfl ?_
  refine v_aaldJ F (by decide) (j) (Ix_nI (show j < 4 by omega)) dX4_pass_19 ?_
  refine v_getN F (id_R (by decide) (by decide) (show j < 4 by omega)) (celD_R (by decide)) rfl uw_X0 0 (by decide) rfl rfl wf_X4_54 dX4_pass_20 ?_
  refine v_astore F dX4_pass_23 (by decide) (lv' := [(4, .ref _), (0, .ref _), (1, .int _), (2, .int _), (3, .int _)]) rfl ?_
  refine v_aload F dX4_pass_25 0 rfl ?_
  refine v_getN F (id_R (by decide) (by decide) (show j < 4 by omega)) (celD_R (by decide)) rfl uw_X1 1 (by decide) rfl rfl wf_X4_73 dX4_pass_27 ?_
  refine v_iload_n F dX4_pass_30 rfl 3 rfl ?_
  refine v_iald F (id_R (by decide) (by decide) (show j < 4 by omega)) (celD_R (by decide)) rfl (q) (Ix_nI (by omega)) dX4_pass_31 ?_
  refine v_istore F dX4_pass_32 (by decide) (lv' := [(5, .int _), (4, .ref _), (0, .ref _), (1, .int _), (2, .int _), (3, .int _)]) rfl ?_
  refine v_mem (uC_self _ 0) ?_
  refine v_aload F dX4_pass_34 1 rfl ?_
  refine v_getN F (id_R (by decide) (by decide) (show j < 4 by omega)) (heR (by decide)) rfl uw_X1 1 (by decide) rfl rfl wf_X4_73 dX4_pass_36 ?_
  refine v_iload_n F dX4_pass_39 rfl 4 rfl ?_
  refine v_iload_n F dX4_pass_40 rfl 5 rfl ?_
  refine v_iastC F (id_R (by decide) (by decide) (show j < 4 by omega)) (celD_R (by decide)) rfl (q) (Ix_nI (by omega)) (celD_R (by decide)) dX4_pass_41 ?_
  refine v_iload F dX4_pass_42 0 rfl ?_
  exact v_iret F hr dX4_pass_44 rfl rfl rfl
abbrev rm_X4_written : Room := { frames := 3, cells := 0, slots := 0, locals := 64 }
abbrev rx_X4_written : Room := { frames := 8, cells := 1, slots := 6, locals := 125 }
set_option maxHeartbeats 4000000 in
set_option maxRecDepth 100000 in
theorem c_X4_written_0 {X : Cx} {l : Launch} (G : Gx X l) {M : Mem} {lf : Lf} {jc tc : Nat} {ln : Nat → Nat} (hS : Shp (M 0) jc tc ln) {j q : Nat} (hj : j < jc) (hq : q < ln j) : CI X l yX4_written (wsc yX4_written cX4_written 5 (some .int)) rm_X4_written [.ref (X.2.1 5 0 0), .int (nI j), .int (nI q), .int (nI 0)] (M) lf (M 0 4 j q) (M) lf 0 0 := by
  refine CI_of (lv := [(0, .ref _), (1, .int _), (2, .int _), (3, .int _)]) G (by decide) (Nat.le_of_ble_eq_true rfl) rfl (fun p e s m args below meth c F hr => ?_)
  have F : Fx p l s m args meth c cX4_written 5 RX4 X := F
  have h4 := hS.1
  have h12 := hS.2.1
  have h8 := (hS.2.2.2.2 j hj).2.1
  refine v_aload_n F dX4_written_0 rfl 0 rfl ?_
  refine v_iload_n F dX4_written_1 rfl 1 rfl ?_
  refine v_iload_n F dX4_written_2 rfl 2 rfl ?_
  refine v_callVv F (As := [_, _]) (rest := []) rfl (c_X4_testPlace G hS hj hq) Rv_H wm_X4_69 rfl ⟨rfl, rfl, Nat.le_of_ble_eq_true rfl, Nat.le_of_ble_eq_true rfl, Nat.le_of_ble_eq_true rfl, Nat.le_of_ble_eq_true rfl, Nat.le_of_ble_eq_true rfl⟩ dX4_written_3 ?_
  refine v_iload_n F dX4_written_6 rfl 3 rfl ?_
  refine v_iconst F (v := nI 2) dX4_written_7 (by decide) ?_
  refine v_callSv F (As := [_, _]) (rest := []) rfl (c_X4_testWhat G (show 0 < 2 by decide) (by decide)) wm_X4_77 rfl ⟨rfl, rfl, Nat.le_of_ble_eq_true rfl, Nat.le_of_ble_eq_true rfl, Nat.le_of_ble_eq_true rfl, Nat.le_of_ble_eq_true rfl, Nat.le_of_ble_eq_true rfl⟩ dX4_written_8 ?_
  refine v_aload_n F dX4_written_11 rfl 0 rfl ?_
  refine v_get F id_5 rfl rfl uw_X4 0 (by decide) rfl rfl wf_X4_10 dX4_written_12 ?_
  refine v_getN F (id_R (by decide) (by decide) (by decide)) (celD_R (by decide)) rfl uw_X2 0 (by decide) rfl rfl wf_X4_50 dX4_written_15 ?_
  refine v_iload_n F dX4_written_18 rfl 1 rfl ?_
  refine v_aaldJ F (by decide) (j) (Ix_nI (show j < 4 by omega)) dX4_written_19 ?_
  refine v_getN F (id_R (by decide) (by decide) (show j < 4 by omega)) (celD_R (by decide)) rfl uw_X0 0 (by decide) rfl rfl wf_X4_54 dX4_written_20 ?_
  refine v_astore F dX4_written_23 (by decide) (lv' := [(4, .ref _), (0, .ref _), (1, .int _), (2, .int _), (3, .int _)]) rfl ?_
  refine v_iload_n F dX4_written_25 rfl 4 rfl ?_
  refine v_if_ne F (tgt := 39) dX4_written_26 (by decide) (fun h => absurd ((by decide)) h) (fun c26 => ?_)
  refine v_aload F dX4_written_29 0 rfl ?_
  refine v_getN F (id_R (by decide) (by decide) (show j < 4 by omega)) (celD_R (by decide)) rfl uw_X1 0 (by decide) rfl rfl wf_X4_80 dX4_written_31 ?_
  refine v_iload_n F dX4_written_34 rfl 3 rfl ?_
  refine v_iald F (id_R (by decide) (by decide) (show j < 4 by omega)) (celD_R (by decide)) rfl (q) (Ix_nI (by omega)) dX4_written_35 ?_
  refine v_goto F (tgt := 46) dX4_written_36 (by decide) ?_
  exact v_iret F hr dX4_written_46 rfl rfl rfl
set_option maxHeartbeats 4000000 in
set_option maxRecDepth 100000 in
theorem c_X4_written_1 {X : Cx} {l : Launch} (G : Gx X l) {M : Mem} {lf : Lf} {jc tc : Nat} {ln : Nat → Nat} (hS : Shp (M 0) jc tc ln) {j q : Nat} (hj : j < jc) (hq : q < ln j) : CI X l yX4_written (wsc yX4_written cX4_written 5 (some .int)) rm_X4_written [.ref (X.2.1 5 0 0), .int (nI j), .int (nI q), .int (nI 1)] (M) lf (M 0 5 j q) (M) lf 0 0 := by
  refine CI_of (lv := [(0, .ref _), (1, .int _), (2, .int _), (3, .int _)]) G (by decide) (Nat.le_of_ble_eq_true rfl) rfl (fun p e s m args below meth c F hr => ?_)
  have F : Fx p l s m args meth c cX4_written 5 RX4 X := F
  have h4 := hS.1
  have h12 := hS.2.1
  have h8 := (hS.2.2.2.2 j hj).2.1
  refine v_aload_n F dX4_written_0 rfl 0 rfl ?_
  refine v_iload_n F dX4_written_1 rfl 1 rfl ?_
  refine v_iload_n F dX4_written_2 rfl 2 rfl ?_
  refine v_callVv F (As := [_, _]) (rest := []) rfl (c_X4_testPlace G hS hj hq) Rv_H wm_X4_69 rfl ⟨rfl, rfl, Nat.le_of_ble_eq_true rfl, Nat.le_of_ble_eq_true rfl, Nat.le_of_ble_eq_true rfl, Nat.le_of_ble_eq_true rfl, Nat.le_of_ble_eq_true rfl⟩ dX4_written_3 ?_
  refine v_iload_n F dX4_written_6 rfl 3 rfl ?_
  refine v_iconst F (v := nI 2) dX4_written_7 (by decide) ?_
  refine v_callSv F (As := [_, _]) (rest := []) rfl (c_X4_testWhat G (show 1 < 2 by decide) (by decide)) wm_X4_77 rfl ⟨rfl, rfl, Nat.le_of_ble_eq_true rfl, Nat.le_of_ble_eq_true rfl, Nat.le_of_ble_eq_true rfl, Nat.le_of_ble_eq_true rfl, Nat.le_of_ble_eq_true rfl⟩ dX4_written_8 ?_
  refine v_aload_n F dX4_written_11 rfl 0 rfl ?_
  refine v_get F id_5 rfl rfl uw_X4 0 (by decide) rfl rfl wf_X4_10 dX4_written_12 ?_
  refine v_getN F (id_R (by decide) (by decide) (by decide)) (celD_R (by decide)) rfl uw_X2 0 (by decide) rfl rfl wf_X4_50 dX4_written_15 ?_
  refine v_iload_n F dX4_written_18 rfl 1 rfl ?_
  refine v_aaldJ F (by decide) (j) (Ix_nI (show j < 4 by omega)) dX4_written_19 ?_
  refine v_getN F (id_R (by decide) (by decide) (show j < 4 by omega)) (celD_R (by decide)) rfl uw_X0 0 (by decide) rfl rfl wf_X4_54 dX4_written_20 ?_
  refine v_astore F dX4_written_23 (by decide) (lv' := [(4, .ref _), (0, .ref _), (1, .int _), (2, .int _), (3, .int _)]) rfl ?_
  refine v_iload_n F dX4_written_25 rfl 4 rfl ?_
  refine v_if_ne F (tgt := 39) dX4_written_26 (by decide) (fun c26 => ?_) (fun h => absurd h ((by decide)))
  refine v_aload F dX4_written_39 0 rfl ?_
  refine v_getN F (id_R (by decide) (by decide) (show j < 4 by omega)) (celD_R (by decide)) rfl uw_X1 1 (by decide) rfl rfl wf_X4_73 dX4_written_41 ?_
  refine v_iload_n F dX4_written_44 rfl 3 rfl ?_
  refine v_iald F (id_R (by decide) (by decide) (show j < 4 by omega)) (celD_R (by decide)) rfl (q) (Ix_nI (by omega)) dX4_written_45 ?_
  exact v_iret F hr dX4_written_46 rfl rfl rfl
abbrev rm_X4_make : Room := { frames := 1, cells := 0, slots := 0, locals := 22 }
abbrev rx_X4_make : Room := { frames := 6, cells := 1, slots := 6, locals := 82 }
set_option maxHeartbeats 4000000 in
set_option maxRecDepth 100000 in
theorem c_X4_make {X : Cx} {l : Launch} (G : Gx X l) {M : Mem} {lf : Lf} {k n : Nat} (hk : k < 12) (hσ : M 0 0 0 3 = nI k) (h3 : n < 3) : CI X l yX4_make (wsc yX4_make cX4_make 2 (some .int)) rm_X4_make [.ref (X.2.1 5 0 0), .int (nI n)] (M) lf (nI k) (uC M 0 (fAddT (M 0) k (nI n))) lf 0 0 := by
  refine CI_of (lv := [(0, .ref _), (1, .int _)]) G (by decide) (Nat.le_of_ble_eq_true rfl) rfl (fun p e s m args below meth c F hr => ?_)
  have F : Fx p l s m args meth c cX4_make 2 RX4 X := F
  refine v_iload_n F dX4_make_0 rfl 1 rfl ?_
  refine v_if_lt F (tgt := 9) dX4_make_1 (by decide) (fun h => absurd h (nI_pos (by omega))) (fun c1 => ?_)
  refine v_iload_n F dX4_make_4 rfl 1 rfl ?_
  refine v_iconst F (v := nI 3) dX4_make_5 (by decide) ?_
  refine v_icmp_lt F (tgt := 19) dX4_make_6 (by decide) (fun c6 => ?_) (fun h => absurd (nI_lt h3 (by decide)) h)
  refine v_aload_n F dX4_make_19 rfl 0 rfl ?_
  refine v_get F id_5 rfl rfl uw_X4 0 (by decide) rfl rfl wf_X4_10 dX4_make_20 ?_
  refine v_getN F (id_R (by decide) (by decide) (by decide)) (celD_R (by decide)) rfl uw_X2 3 (by decide) rfl rfl wf_X4_85 dX4_make_23 ?_
  refine v_topr (nI k) hσ ?_
  refine v_bipush F (v := nI 12) dX4_make_26 (by decide) ?_
  refine v_icmp_lt F (tgt := 41) dX4_make_28 (by decide) (fun c28 => ?_) (fun h => absurd (nI_lt hk (by decide)) h)
  refine v_aload_n F dX4_make_41 rfl 0 rfl ?_
  refine v_get F id_5 rfl rfl uw_X4 0 (by decide) rfl rfl wf_X4_10 dX4_make_42 ?_
  refine v_iload_n F dX4_make_45 rfl 1 rfl ?_
  refine v_callNi F (As := [_]) (rest := []) rfl (CI_pl (c_X2_addThing G (by decide) hk hσ (nI n))) (Rv_R (by decide)) wm_X4_90 rfl ⟨rfl, rfl, Nat.le_of_ble_eq_true rfl, Nat.le_of_ble_eq_true rfl, Nat.le_of_ble_eq_true rfl, Nat.le_of_ble_eq_true rfl, Nat.le_of_ble_eq_true rfl⟩ dX4_make_46 ?_
  exact v_iret F hr dX4_make_49 rfl rfl rfl
abbrev rm_X4_give : Room := { frames := 2, cells := 0, slots := 0, locals := 42 }
abbrev rx_X4_give : Room := { frames := 7, cells := 1, slots := 6, locals := 103 }
set_option maxHeartbeats 4000000 in
set_option maxRecDepth 100000 in
theorem c_X4_give {X : Cx} {l : Launch} (G : Gx X l) {M : Mem} {lf : Lf} {jc tc : Nat} {ln : Nat → Nat} (hS : Shp (M 0) jc tc ln) {k j hd : Nat} (hk : k < tc) (hj : j < jc) (hh : hd < 2) (hst : M 0 8 k 1 = 0) (hhd : M 0 6 j hd = -1) : CI X l yX4_give (wsc yX4_give cX4_give 4 (some .int)) rm_X4_give [.ref (X.2.1 5 0 0), .int (nI k), .int (nI j), .int (nI hd)] (M) lf (fHeld (fPut (M 0) k (nI j) j hd) j) (uC M 0 (fPut (M 0) k (nI j) j hd)) lf 0 0 := by
  refine CI_of (lv := [(0, .ref _), (1, .int _), (2, .int _), (3, .int _)]) G (by decide) (Nat.le_of_ble_eq_true rfl) rfl (fun p e s m args below meth c F hr => ?_)
  have F : Fx p l s m args meth c cX4_give 4 RX4 X := F
  have h4 := hS.1
  have h12 := hS.2.1
  refine v_aload_n F dX4_give_0 rfl 0 rfl ?_
  refine v_iload_n F dX4_give_1 rfl 1 rfl ?_
  refine v_callVv F (As := [_]) (rest := []) rfl (c_X4_testThing G hS hk) Rv_H wm_X4_93 rfl ⟨rfl, rfl, Nat.le_of_ble_eq_true rfl, Nat.le_of_ble_eq_true rfl, Nat.le_of_ble_eq_true rfl, Nat.le_of_ble_eq_true rfl, Nat.le_of_ble_eq_true rfl⟩ dX4_give_2 ?_
  refine v_aload_n F dX4_give_5 rfl 0 rfl ?_
  refine v_iload_n F dX4_give_6 rfl 2 rfl ?_
  refine v_callVv F (As := [_]) (rest := []) rfl (c_X4_testJuggler G hS hj) Rv_H wm_X4_39 rfl ⟨rfl, rfl, Nat.le_of_ble_eq_true rfl, Nat.le_of_ble_eq_true rfl, Nat.le_of_ble_eq_true rfl, Nat.le_of_ble_eq_true rfl, Nat.le_of_ble_eq_true rfl⟩ dX4_give_7 ?_
  refine v_iload_n F dX4_give_10 rfl 3 rfl ?_
  refine v_if_lt F (tgt := 19) dX4_give_11 (by decide) (fun h => absurd h (nI_pos (by omega))) (fun c11 => ?_)
  refine v_iload_n F dX4_give_14 rfl 3 rfl ?_
  refine v_iconst F (v := nI 2) dX4_give_15 (by decide) ?_
  refine v_icmp_lt F (tgt := 29) dX4_give_16 (by decide) (fun c16 => ?_) (fun h => absurd (nI_lt hh (by decide)) h)
  refine v_aload_n F dX4_give_29 rfl 0 rfl ?_
  refine v_get F id_5 rfl rfl uw_X4 0 (by decide) rfl rfl wf_X4_10 dX4_give_30 ?_
  refine v_getN F (id_R (by decide) (by decide) (by decide)) (celD_R (by decide)) rfl uw_X2 1 (by decide) rfl rfl wf_X4_101 dX4_give_33 ?_
  refine v_iload_n F dX4_give_36 rfl 1 rfl ?_
  refine v_aaldT F (by decide) (k) (Ix_nI (show k < 12 by omega)) dX4_give_37 ?_
  refine v_getN F (id_R (by decide) (by decide) (show k < 12 by omega)) (celD_R (by decide)) rfl uw_X3 1 (by decide) rfl rfl wf_X4_105 dX4_give_38 ?_
  refine v_if_eq F (tgt := 54) dX4_give_41 (by decide) (fun c41 => ?_) (fun h => absurd (hst) h)
  refine v_aload_n F dX4_give_54 rfl 0 rfl ?_
  refine v_get F id_5 rfl rfl uw_X4 0 (by decide) rfl rfl wf_X4_10 dX4_give_55 ?_
  refine v_getN F (id_R (by decide) (by decide) (by decide)) (celD_R (by decide)) rfl uw_X2 0 (by decide) rfl rfl wf_X4_50 dX4_give_58 ?_
  refine v_iload_n F dX4_give_61 rfl 2 rfl ?_
  refine v_aaldJ F (by decide) (j) (Ix_nI (show j < 4 by omega)) dX4_give_62 ?_
  refine v_getN F (id_R (by decide) (by decide) (show j < 4 by omega)) (celD_R (by decide)) rfl uw_X0 1 (by decide) rfl rfl wf_X4_112 dX4_give_63 ?_
  refine v_iload_n F dX4_give_66 rfl 3 rfl ?_
  refine v_iald F (id_R (by decide) (by decide) (show j < 4 by omega)) (celD_R (by decide)) rfl (hd) (Ix_nI hh) dX4_give_67 ?_
  refine v_iconst F (v := (-1)) dX4_give_68 (by decide) ?_
  refine v_icmp_eq F (tgt := 82) dX4_give_69 (by decide) (fun c69 => ?_) (fun h => absurd (hhd) h)
  refine v_aload_n F dX4_give_82 rfl 0 rfl ?_
  refine v_get F id_5 rfl rfl uw_X4 0 (by decide) rfl rfl wf_X4_10 dX4_give_83 ?_
  refine v_iload_n F dX4_give_86 rfl 1 rfl ?_
  refine v_iload_n F dX4_give_87 rfl 2 rfl ?_
  refine v_iload_n F dX4_give_88 rfl 3 rfl ?_
  refine v_callNv F (As := [_, _, _]) (rest := []) rfl (CV_pl (c_X2_putIntoHand G (by decide) (show k < 12 by omega) (nI j) (Ix_nI (show j < 4 by omega)) hh)) (Rv_R (by decide)) wm_X4_117 rfl ⟨rfl, rfl, Nat.le_of_ble_eq_true rfl, Nat.le_of_ble_eq_true rfl, Nat.le_of_ble_eq_true rfl, Nat.le_of_ble_eq_true rfl, Nat.le_of_ble_eq_true rfl⟩ dX4_give_89 ?_
  refine v_aload_n F dX4_give_92 rfl 0 rfl ?_
  refine v_get F id_5 rfl rfl uw_X4 0 (by decide) rfl rfl wf_X4_10 dX4_give_93 ?_
  refine v_getN F (id_R (by decide) (by decide) (by decide)) (heR (by decide)) rfl uw_X2 0 (by decide) rfl rfl wf_X4_50 dX4_give_96 ?_
  refine v_iload_n F dX4_give_99 rfl 2 rfl ?_
  refine v_aaldJ F (by decide) (j) (Ix_nI (show j < 4 by omega)) dX4_give_100 ?_
  refine v_callNi F (As := []) (rest := []) rfl (c_X0_thingsHeld G (by decide) (show j < 4 by omega)) (Rv_J (by decide) (show j < 4 by omega)) wm_X4_120 rfl ⟨rfl, rfl, Nat.le_of_ble_eq_true rfl, Nat.le_of_ble_eq_true rfl, Nat.le_of_ble_eq_true rfl, Nat.le_of_ble_eq_true rfl, Nat.le_of_ble_eq_true rfl⟩ dX4_give_101 ?_
  exact v_iret F hr dX4_give_104 rfl rfl rfl
set_option maxHeartbeats 4000000 in
set_option maxRecDepth 100000 in
theorem x_X4_give_s {X : Cx} {l : Launch} (G : Gx X l) {M : Mem} {lf : Lf} {jc tc : Nat} {ln : Nat → Nat} (hS : Shp (M 0) jc tc ln) {k j hd : Nat} (hk : k < tc) (hj : j < jc) (hh : hd < 2) (hst : ¬ M 0 8 k 1 = 0) : CXi X l yX4_give (wsc yX4_give cX4_give 4 (some .int)) rx_X4_give [.ref (X.2.1 5 0 0), .int (nI k), .int (nI j), .int (nI hd)] (M) lf "java/lang/IllegalStateException" 1 6 := by
  refine CXi_of (lv := [(0, .ref _), (1, .int _), (2, .int _), (3, .int _)]) G (by decide) (Nat.le_of_ble_eq_true rfl) rfl (fun p e s m args below meth c F hxt => ?_)
  have F : Fx p l s m args meth c cX4_give 4 RX4 X := F
  have h4 := hS.1
  have h12 := hS.2.1
  refine v_aload_n F dX4_give_0 rfl 0 rfl ?_
  refine v_iload_n F dX4_give_1 rfl 1 rfl ?_
  refine v_callVv F (As := [_]) (rest := []) rfl (c_X4_testThing G hS hk) Rv_H wm_X4_93 rfl ⟨rfl, rfl, Nat.le_of_ble_eq_true rfl, Nat.le_of_ble_eq_true rfl, Nat.le_of_ble_eq_true rfl, Nat.le_of_ble_eq_true rfl, Nat.le_of_ble_eq_true rfl⟩ dX4_give_2 ?_
  refine v_aload_n F dX4_give_5 rfl 0 rfl ?_
  refine v_iload_n F dX4_give_6 rfl 2 rfl ?_
  refine v_callVv F (As := [_]) (rest := []) rfl (c_X4_testJuggler G hS hj) Rv_H wm_X4_39 rfl ⟨rfl, rfl, Nat.le_of_ble_eq_true rfl, Nat.le_of_ble_eq_true rfl, Nat.le_of_ble_eq_true rfl, Nat.le_of_ble_eq_true rfl, Nat.le_of_ble_eq_true rfl⟩ dX4_give_7 ?_
  refine v_iload_n F dX4_give_10 rfl 3 rfl ?_
  refine v_if_lt F (tgt := 19) dX4_give_11 (by decide) (fun h => absurd h (nI_pos (by omega))) (fun c11 => ?_)
  refine v_iload_n F dX4_give_14 rfl 3 rfl ?_
  refine v_iconst F (v := nI 2) dX4_give_15 (by decide) ?_
  refine v_icmp_lt F (tgt := 29) dX4_give_16 (by decide) (fun c16 => ?_) (fun h => absurd (nI_lt hh (by decide)) h)
  refine v_aload_n F dX4_give_29 rfl 0 rfl ?_
  refine v_get F id_5 rfl rfl uw_X4 0 (by decide) rfl rfl wf_X4_10 dX4_give_30 ?_
  refine v_getN F (id_R (by decide) (by decide) (by decide)) (celD_R (by decide)) rfl uw_X2 1 (by decide) rfl rfl wf_X4_101 dX4_give_33 ?_
  refine v_iload_n F dX4_give_36 rfl 1 rfl ?_
  refine v_aaldT F (by decide) (k) (Ix_nI (show k < 12 by omega)) dX4_give_37 ?_
  refine v_getN F (id_R (by decide) (by decide) (show k < 12 by omega)) (celD_R (by decide)) rfl uw_X3 1 (by decide) rfl rfl wf_X4_105 dX4_give_38 ?_
  refine v_if_eq F (tgt := 54) dX4_give_41 (by decide) (fun h => absurd h (hst)) (fun c41 => ?_)
  exact v_throwi F hxt (E := "java/lang/IllegalStateException") (text := "the thing is not on the floor") rfl exS_s wcl_X4_30 wini_IllegalStateException (by decide +kernel) dX4_give_44 dX4_give_47 dX4_give_48 dX4_give_50 dX4_give_53 (Nat.le_of_ble_eq_true rfl) (Nat.le_of_ble_eq_true rfl) (Nat.le_of_ble_eq_true rfl) (Nat.le_of_ble_eq_true rfl) (Nat.le_of_ble_eq_true rfl) (Nat.le_of_ble_eq_true rfl)
set_option maxHeartbeats 4000000 in
set_option maxRecDepth 100000 in
theorem x_X4_give_o {X : Cx} {l : Launch} (G : Gx X l) {M : Mem} {lf : Lf} {jc tc : Nat} {ln : Nat → Nat} (hS : Shp (M 0) jc tc ln) {k j hd : Nat} (hk : k < tc) (hj : j < jc) (hh : hd < 2) (hst : M 0 8 k 1 = 0) (hhd : ¬ M 0 6 j hd = -1) : CXi X l yX4_give (wsc yX4_give cX4_give 4 (some .int)) rx_X4_give [.ref (X.2.1 5 0 0), .int (nI k), .int (nI j), .int (nI hd)] (M) lf "java/lang/IllegalStateException" 1 6 := by
  refine CXi_of (lv := [(0, .ref _), (1, .int _), (2, .int _), (3, .int _)]) G (by decide) (Nat.le_of_ble_eq_true rfl) rfl (fun p e s m args below meth c F hxt => ?_)
  have F : Fx p l s m args meth c cX4_give 4 RX4 X := F
  have h4 := hS.1
  have h12 := hS.2.1
  refine v_aload_n F dX4_give_0 rfl 0 rfl ?_
  refine v_iload_n F dX4_give_1 rfl 1 rfl ?_
  refine v_callVv F (As := [_]) (rest := []) rfl (c_X4_testThing G hS hk) Rv_H wm_X4_93 rfl ⟨rfl, rfl, Nat.le_of_ble_eq_true rfl, Nat.le_of_ble_eq_true rfl, Nat.le_of_ble_eq_true rfl, Nat.le_of_ble_eq_true rfl, Nat.le_of_ble_eq_true rfl⟩ dX4_give_2 ?_
  refine v_aload_n F dX4_give_5 rfl 0 rfl ?_
  refine v_iload_n F dX4_give_6 rfl 2 rfl ?_
  refine v_callVv F (As := [_]) (rest := []) rfl (c_X4_testJuggler G hS hj) Rv_H wm_X4_39 rfl ⟨rfl, rfl, Nat.le_of_ble_eq_true rfl, Nat.le_of_ble_eq_true rfl, Nat.le_of_ble_eq_true rfl, Nat.le_of_ble_eq_true rfl, Nat.le_of_ble_eq_true rfl⟩ dX4_give_7 ?_
  refine v_iload_n F dX4_give_10 rfl 3 rfl ?_
  refine v_if_lt F (tgt := 19) dX4_give_11 (by decide) (fun h => absurd h (nI_pos (by omega))) (fun c11 => ?_)
  refine v_iload_n F dX4_give_14 rfl 3 rfl ?_
  refine v_iconst F (v := nI 2) dX4_give_15 (by decide) ?_
  refine v_icmp_lt F (tgt := 29) dX4_give_16 (by decide) (fun c16 => ?_) (fun h => absurd (nI_lt hh (by decide)) h)
  refine v_aload_n F dX4_give_29 rfl 0 rfl ?_
  refine v_get F id_5 rfl rfl uw_X4 0 (by decide) rfl rfl wf_X4_10 dX4_give_30 ?_
  refine v_getN F (id_R (by decide) (by decide) (by decide)) (celD_R (by decide)) rfl uw_X2 1 (by decide) rfl rfl wf_X4_101 dX4_give_33 ?_
  refine v_iload_n F dX4_give_36 rfl 1 rfl ?_
  refine v_aaldT F (by decide) (k) (Ix_nI (show k < 12 by omega)) dX4_give_37 ?_
  refine v_getN F (id_R (by decide) (by decide) (show k < 12 by omega)) (celD_R (by decide)) rfl uw_X3 1 (by decide) rfl rfl wf_X4_105 dX4_give_38 ?_
  refine v_if_eq F (tgt := 54) dX4_give_41 (by decide) (fun c41 => ?_) (fun h => absurd (hst) h)
  refine v_aload_n F dX4_give_54 rfl 0 rfl ?_
  refine v_get F id_5 rfl rfl uw_X4 0 (by decide) rfl rfl wf_X4_10 dX4_give_55 ?_
  refine v_getN F (id_R (by decide) (by decide) (by decide)) (celD_R (by decide)) rfl uw_X2 0 (by decide) rfl rfl wf_X4_50 dX4_give_58 ?_
  refine v_iload_n F dX4_give_61 rfl 2 rfl ?_
  refine v_aaldJ F (by decide) (j) (Ix_nI (show j < 4 by omega)) dX4_give_62 ?_
  refine v_getN F (id_R (by decide) (by decide) (show j < 4 by omega)) (celD_R (by decide)) rfl uw_X0 1 (by decide) rfl rfl wf_X4_112 dX4_give_63 ?_
  refine v_iload_n F dX4_give_66 rfl 3 rfl ?_
  refine v_iald F (id_R (by decide) (by decide) (show j < 4 by omega)) (celD_R (by decide)) rfl (hd) (Ix_nI hh) dX4_give_67 ?_
  refine v_iconst F (v := (-1)) dX4_give_68 (by decide) ?_
  refine v_icmp_eq F (tgt := 82) dX4_give_69 (by decide) (fun h => absurd h (hhd)) (fun c69 => ?_)
  exact v_throwi F hxt (E := "java/lang/IllegalStateException") (text := "the hand has a thing") rfl exS_s wcl_X4_30 wini_IllegalStateException (by decide +kernel) dX4_give_72 dX4_give_75 dX4_give_76 dX4_give_78 dX4_give_81 (Nat.le_of_ble_eq_true rfl) (Nat.le_of_ble_eq_true rfl) (Nat.le_of_ble_eq_true rfl) (Nat.le_of_ble_eq_true rfl) (Nat.le_of_ble_eq_true rfl) (Nat.le_of_ble_eq_true rfl)
abbrev rm_X4_thing : Room := { frames := 2, cells := 0, slots := 0, locals := 42 }
abbrev rx_X4_thing : Room := { frames := 7, cells := 1, slots := 6, locals := 103 }
set_option maxHeartbeats 4000000 in
set_option maxRecDepth 100000 in
theorem c_X4_thing {X : Cx} {l : Launch} (G : Gx X l) {M : Mem} {lf : Lf} {jc tc : Nat} {ln : Nat → Nat} (hS : Shp (M 0) jc tc ln) {k : Nat} (hk : k < tc) {q : Nat} (hq : q < 7) : CI X l yX4_thing (wsc yX4_thing cX4_thing 3 (some .int)) rm_X4_thing [.ref (X.2.1 5 0 0), .int (nI k), .int (nI q)] (M) lf (fTellT (M 0) k q) (M) lf 0 0 := by
  refine CI_of (lv := [(0, .ref _), (1, .int _), (2, .int _)]) G (by decide) (Nat.le_of_ble_eq_true rfl) rfl (fun p e s m args below meth c F hr => ?_)
  have F : Fx p l s m args meth c cX4_thing 3 RX4 X := F
  have h4 := hS.1
  have h12 := hS.2.1
  refine v_aload_n F dX4_thing_0 rfl 0 rfl ?_
  refine v_iload_n F dX4_thing_1 rfl 1 rfl ?_
  refine v_callVv F (As := [_]) (rest := []) rfl (c_X4_testThing G hS hk) Rv_H wm_X4_93 rfl ⟨rfl, rfl, Nat.le_of_ble_eq_true rfl, Nat.le_of_ble_eq_true rfl, Nat.le_of_ble_eq_true rfl, Nat.le_of_ble_eq_true rfl, Nat.le_of_ble_eq_true rfl⟩ dX4_thing_2 ?_
  refine v_iload_n F dX4_thing_5 rfl 2 rfl ?_
  refine v_bipush F (v := nI 7) dX4_thing_6 (by decide) ?_
  refine v_callSv F (As := [_, _]) (rest := []) rfl (c_X4_testWhat G hq (by decide)) wm_X4_77 rfl ⟨rfl, rfl, Nat.le_of_ble_eq_true rfl, Nat.le_of_ble_eq_true rfl, Nat.le_of_ble_eq_true rfl, Nat.le_of_ble_eq_true rfl, Nat.le_of_ble_eq_true rfl⟩ dX4_thing_8 ?_
  refine v_aload_n F dX4_thing_11 rfl 0 rfl ?_
  refine v_get F id_5 rfl rfl uw_X4 0 (by decide) rfl rfl wf_X4_10 dX4_thing_12 ?_
  refine v_iload_n F dX4_thing_15 rfl 1 rfl ?_
  refine v_iload_n F dX4_thing_16 rfl 2 rfl ?_
  refine v_callNi F (As := [_, _]) (rest := []) rfl (CI_q (c_X2_tellThing G (by decide) hS hk q hq)) (Rv_R (by decide)) wm_X4_124 rfl ⟨rfl, rfl, Nat.le_of_ble_eq_true rfl, Nat.le_of_ble_eq_true rfl, Nat.le_of_ble_eq_true rfl, Nat.le_of_ble_eq_true rfl, Nat.le_of_ble_eq_true rfl⟩ dX4_thing_17 ?_
  exact v_iret F hr dX4_thing_20 rfl rfl rfl
abbrev rm_X4_juggler : Room := { frames := 2, cells := 0, slots := 0, locals := 46 }
abbrev rx_X4_juggler : Room := { frames := 7, cells := 1, slots := 6, locals := 103 }
set_option maxHeartbeats 4000000 in
set_option maxRecDepth 100000 in
theorem c_X4_juggler {X : Cx} {l : Launch} (G : Gx X l) {M : Mem} {lf : Lf} {jc tc : Nat} {ln : Nat → Nat} (hS : Shp (M 0) jc tc ln) {j : Nat} (hj : j < jc) {q : Nat} (hq : q < 7) : CI X l yX4_juggler (wsc yX4_juggler cX4_juggler 3 (some .int)) rm_X4_juggler [.ref (X.2.1 5 0 0), .int (nI j), .int (nI q)] (M) lf (fTellJ (M 0) tc j q) (M) lf 0 0 := by
  refine CI_of (lv := [(0, .ref _), (1, .int _), (2, .int _)]) G (by decide) (Nat.le_of_ble_eq_true rfl) rfl (fun p e s m args below meth c F hr => ?_)
  have F : Fx p l s m args meth c cX4_juggler 3 RX4 X := F
  have h4 := hS.1
  have h12 := hS.2.1
  refine v_aload_n F dX4_juggler_0 rfl 0 rfl ?_
  refine v_iload_n F dX4_juggler_1 rfl 1 rfl ?_
  refine v_callVv F (As := [_]) (rest := []) rfl (c_X4_testJuggler G hS hj) Rv_H wm_X4_39 rfl ⟨rfl, rfl, Nat.le_of_ble_eq_true rfl, Nat.le_of_ble_eq_true rfl, Nat.le_of_ble_eq_true rfl, Nat.le_of_ble_eq_true rfl, Nat.le_of_ble_eq_true rfl⟩ dX4_juggler_2 ?_
  refine v_iload_n F dX4_juggler_5 rfl 2 rfl ?_
  refine v_bipush F (v := nI 7) dX4_juggler_6 (by decide) ?_
  refine v_callSv F (As := [_, _]) (rest := []) rfl (c_X4_testWhat G hq (by decide)) wm_X4_77 rfl ⟨rfl, rfl, Nat.le_of_ble_eq_true rfl, Nat.le_of_ble_eq_true rfl, Nat.le_of_ble_eq_true rfl, Nat.le_of_ble_eq_true rfl, Nat.le_of_ble_eq_true rfl⟩ dX4_juggler_8 ?_
  refine v_aload_n F dX4_juggler_11 rfl 0 rfl ?_
  refine v_get F id_5 rfl rfl uw_X4 0 (by decide) rfl rfl wf_X4_10 dX4_juggler_12 ?_
  refine v_iload_n F dX4_juggler_15 rfl 1 rfl ?_
  refine v_iload_n F dX4_juggler_16 rfl 2 rfl ?_
  refine v_callNi F (As := [_, _]) (rest := []) rfl (CI_q (c_X2_tellJuggler G (by decide) hS hj q hq)) (Rv_R (by decide)) wm_X4_128 rfl ⟨rfl, rfl, Nat.le_of_ble_eq_true rfl, Nat.le_of_ble_eq_true rfl, Nat.le_of_ble_eq_true rfl, Nat.le_of_ble_eq_true rfl, Nat.le_of_ble_eq_true rfl⟩ dX4_juggler_17 ?_
  exact v_iret F hr dX4_juggler_20 rfl rfl rfl
abbrev rm_X4_go : Room := { frames := 5, cells := 0, slots := 0, locals := 115 }
abbrev rx_X4_go : Room := { frames := 7, cells := 1, slots := 6, locals := 115 }
set_option maxHeartbeats 4000000 in
set_option maxRecDepth 100000 in
theorem c_X4_go {X : Cx} {l : Launch} (G : Gx X l) {M : Mem} {lf : Lf} {jc tc : Nat} {ln : Nat → Nat} (hS : Shp (M 0) jc tc ln) {b n : Nat} (hb : b + n < 2 ^ 31) (hbt : M 0 0 0 4 = nI b) (h1 : 1 ≤ n) (hn : n ≤ 200) : CI X l yX4_go (wsc yX4_go cX4_go 2 (some .int)) rm_X4_go [.ref (X.2.1 5 0 0), .int (nI n)] (M) lf (plR b jc tc ln (M 0) n) (uC M 0 (plL b jc tc ln (M 0) n)) lf 0 0 := by
  refine CI_of (lv := [(0, .ref _), (1, .int _)]) G (by decide) (Nat.le_of_ble_eq_true rfl) rfl (fun p e s m args below meth c F hr => ?_)
  have F : Fx p l s m args meth c cX4_go 2 RX4 X := F
  have h4 := hS.1
  have h12 := hS.2.1
  refine v_iload_n F dX4_go_0 rfl 1 rfl ?_
  refine v_sipush F (v := nI 200) dX4_go_1 (by decide) ?_
  refine v_callSv F (As := [_, _]) (rest := []) rfl (c_X4_testBeats G h1 hn (by decide)) wm_X4_141 rfl ⟨rfl, rfl, Nat.le_of_ble_eq_true rfl, Nat.le_of_ble_eq_true rfl, Nat.le_of_ble_eq_true rfl, Nat.le_of_ble_eq_true rfl, Nat.le_of_ble_eq_true rfl⟩ dX4_go_4 ?_
  refine v_aload_n F dX4_go_7 rfl 0 rfl ?_
  refine v_get F id_5 rfl rfl uw_X4 0 (by decide) rfl rfl wf_X4_10 dX4_go_8 ?_
  refine v_iload_n F dX4_go_11 rfl 1 rfl ?_
  refine v_callNi F (As := [_]) (rest := []) rfl (CI_pl (c_X2_play G (by decide) hS hb hbt)) (Rv_R (by decide)) wm_X4_144 rfl ⟨rfl, rfl, Nat.le_of_ble_eq_true rfl, Nat.le_of_ble_eq_true rfl, Nat.le_of_ble_eq_true rfl, Nat.le_of_ble_eq_true rfl, Nat.le_of_ble_eq_true rfl⟩ dX4_go_12 ?_
  exact v_iret F hr dX4_go_15 rfl rfl rfl
abbrev rm_X4_count : Room := { frames := 2, cells := 0, slots := 0, locals := 44 }
abbrev rx_X4_count : Room := { frames := 7, cells := 1, slots := 6, locals := 103 }
set_option maxHeartbeats 4000000 in
set_option maxRecDepth 100000 in
theorem c_X4_count {X : Cx} {l : Launch} (G : Gx X l) {M : Mem} {lf : Lf} {jc tc : Nat} {ln : Nat → Nat} (hS : Shp (M 0) jc tc ln) {q : Nat} (hq : q < 9) : CI X l yX4_count (wsc yX4_count cX4_count 2 (some .int)) rm_X4_count [.ref (X.2.1 5 0 0), .int (nI q)] (M) lf (fTellC (M 0) tc q) (M) lf 0 0 := by
  refine CI_of (lv := [(0, .ref _), (1, .int _)]) G (by decide) (Nat.le_of_ble_eq_true rfl) rfl (fun p e s m args below meth c F hr => ?_)
  have F : Fx p l s m args meth c cX4_count 2 RX4 X := F
  have h4 := hS.1
  have h12 := hS.2.1
  refine v_iload_n F dX4_count_0 rfl 1 rfl ?_
  refine v_bipush F (v := nI 9) dX4_count_1 (by decide) ?_
  refine v_callSv F (As := [_, _]) (rest := []) rfl (c_X4_testWhat G hq (by decide)) wm_X4_77 rfl ⟨rfl, rfl, Nat.le_of_ble_eq_true rfl, Nat.le_of_ble_eq_true rfl, Nat.le_of_ble_eq_true rfl, Nat.le_of_ble_eq_true rfl, Nat.le_of_ble_eq_true rfl⟩ dX4_count_3 ?_
  refine v_aload_n F dX4_count_6 rfl 0 rfl ?_
  refine v_get F id_5 rfl rfl uw_X4 0 (by decide) rfl rfl wf_X4_10 dX4_count_7 ?_
  refine v_iload_n F dX4_count_10 rfl 1 rfl ?_
  refine v_callNi F (As := [_]) (rest := []) rfl (CI_q (c_X2_tellCount G (by decide) hS q hq)) (Rv_R (by decide)) wm_X4_147 rfl ⟨rfl, rfl, Nat.le_of_ble_eq_true rfl, Nat.le_of_ble_eq_true rfl, Nat.le_of_ble_eq_true rfl, Nat.le_of_ble_eq_true rfl, Nat.le_of_ble_eq_true rfl⟩ dX4_count_11 ?_
  exact v_iret F hr dX4_count_14 rfl rfl rfl
end RT
