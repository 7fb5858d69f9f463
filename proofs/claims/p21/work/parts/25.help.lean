/-! ===== the law's helpers ===== -/
theorem wk_L_7 : Cond.constant RL 7 2147483647 ∈ wAll := wAll_in (i := 380) (by decide +kernel) (by decide +kernel)
theorem wk_L_8 : Cond.constant RL 8 790386105 ∈ wAll := wAll_in (i := 384) (by decide +kernel) (by decide +kernel)
/-- a number below n, out of any -/
def bl (v : Int32) (n : Nat) : Nat := v.toBitVec.toNat % 2 ^ 31 % n
theorem bl_lt (v : Int32) {n : Nat} (h : 1 ≤ n) : bl v n < n := Nat.mod_lt _ h
theorem bl_and (v : Int32) : v &&& 2147483647 = nI (v.toBitVec.toNat % 2 ^ 31) := pk_and v 31 (by decide)
theorem bl_rem (v : Int32) {n : Nat} (h : 1 ≤ n) (hn : n < 2 ^ 31) : nI (v.toBitVec.toNat % 2 ^ 31) - nI (v.toBitVec.toNat % 2 ^ 31) / nI n * nI n = nI (bl v n) := pk_rem (Nat.mod_lt _ (by decide)) h hn
def fCell (xs : Nat → Int32) (L k : Nat) : Int32 := if L ≤ k then 790386105 * (nI k + 3) else xs k
def dgt (x : Int32) (k : Nat) : Nat := if bl (x >>> (11 &&& 31)) 3 = 0 then bl (x >>> (nI (2 * k) &&& 31)) 10 else 1 + bl (x >>> (nI (2 * k) &&& 31)) 5
def hgt (x : Int32) : Nat → Nat
  | 0 => 0
  | k + 1 => 10 * hgt x k + dgt x k
theorem dgt_lt (x : Int32) (k : Nat) : dgt x k ≤ 9 := by
  unfold dgt
  split
  · have := bl_lt (x >>> (nI (2 * k) &&& 31)) (n := 10) (by decide)
    omega
  · have := bl_lt (x >>> (nI (2 * k) &&& 31)) (n := 5) (by decide)
    omega
theorem hgt_lt (x : Int32) : ∀ k, hgt x k < 10 ^ k
  | 0 => Nat.lt_succ_self 0
  | k + 1 => by
    have h1 := hgt_lt x k
    have h2 := dgt_lt x k
    show 10 * hgt x k + dgt x k < 10 ^ (k + 1)
    rw [Nat.pow_succ]
    omega
/-- the gift, and what the law's own give answers -/
def gvOk (σ : Sg) (k j hd : Nat) : Prop := σ 8 k 1 = 0 ∧ σ 6 j hd = -1

noncomputable def gvM (M : Mem) (k j hd : Nat) : Mem := if M 0 8 k 1 = 0 ∧ M 0 6 j hd = -1 then uC M 0 (fPut (M 0) k (nI j) j hd) else M
noncomputable def gvR (σ : Sg) (k j hd : Nat) : Int32 := if σ 8 k 1 = 0 ∧ σ 6 j hd = -1 then fHeld (fPut σ k (nI j) j hd) j else -1
abbrev rm_L_below : Room := { frames := 0, cells := 0, slots := 0, locals := 0 }
abbrev rm_L_cell : Room := { frames := 0, cells := 0, slots := 0, locals := 0 }
abbrev rm_L_heights : Room := { frames := 1, cells := 0, slots := 0, locals := 21 }
set_option maxHeartbeats 4000000 in
set_option maxRecDepth 100000 in
theorem c_L_below {X : Cx} {l : Launch} (G : Gx X l) {M : Mem} {lf : Lf} (v : Int32) {n : Nat} (h1 : 1 ≤ n) (hn : n < 2 ^ 31) : CI X l yL_below (wsc yL_below cL_below 2 (some .int)) rm_L_below [.int v, .int (nI n)] (M) lf (nI (bl v n)) (M) lf 0 0 := by
  refine CI_of (lv := [(0, .int _), (1, .int _)]) G (by decide) (Nat.le_of_ble_eq_true rfl) rfl (fun p e s m args below meth c F hr => ?_)
  have F : Fx p l s m args meth c cL_below 2 RL X := F
  refine v_iload_n F dL_below_0 rfl 0 rfl ?_
  refine v_ldc F wk_L_7 dL_below_1 ?_
  refine v_iand F dL_below_3 ?_
  refine v_topr (nI (v.toBitVec.toNat % 2 ^ 31)) (bl_and v) ?_
  refine v_iload_n F dL_below_4 rfl 1 rfl ?_
  refine v_irem F dL_below_5 (nI_ne0 h1 hn) ?_
  refine v_topr (nI (bl v n)) (bl_rem v h1 hn) ?_
  exact v_iret F hr dL_below_6 rfl rfl rfl
set_option maxHeartbeats 4000000 in
set_option maxRecDepth 100000 in
theorem c_L_cell {X : Cx} {l : Launch} (G : Gx X l) {b L : Nat} {xs : Nat → Int32} (hbl : b < X.2.2.2) {M : Mem} {lf : Lf} {k : Nat} (hk : k < 2 ^ 31) (hL : L < 2 ^ 31) : CIs X l b L xs yL_cell (wsc yL_cell cL_cell 2 (some .int)) rm_L_cell [.ref b, .int (nI k)] (M) lf (fCell xs L k) (M) lf 0 0 := by
  refine CIs_of (lv := [(0, .ref _), (1, .int _)]) G (by decide) (Nat.le_of_ble_eq_true rfl) rfl (fun p e s m args below meth c F hX hr => ?_)
  have F : Fx p l s m args meth c cL_cell 2 RL X := F
  refine v_iload_n F dL_cell_0 rfl 1 rfl ?_
  refine v_aload_n F dL_cell_1 rfl 0 rfl ?_
  refine v_slen F hX hbl dL_cell_2 ?_
  refine v_icmp_ge F (tgt := 12) dL_cell_3 (by decide) (fun c3 => ?_) (fun c3 => ?_)
  · have := c3
    refine v_ldc F wk_L_8 dL_cell_12 ?_
    refine v_iload_n F dL_cell_14 rfl 1 rfl ?_
    refine v_iconst F (v := 3) dL_cell_15 (by decide) ?_
    refine v_iadd F dL_cell_16 ?_
    refine v_imul F dL_cell_17 ?_
    refine v_iret F hr dL_cell_18 ?_ rfl rfl
    unfold fCell
    first | (rw [if_pos ((nI_leI hL hk).mp c3)]) | (rw [if_neg (fun z => c3 (nI_le z hk))])
  · have := c3
    refine v_aload_n F dL_cell_6 rfl 0 rfl ?_
    refine v_iload_n F dL_cell_7 rfl 1 rfl ?_
    refine v_sld F hX hbl (k) (Ix_nI (Nat.lt_of_not_le (fun z => c3 (nI_le z hk))) hL) dL_cell_8 ?_
    refine v_goto F (tgt := 18) dL_cell_9 (by decide) ?_
    refine v_iret F hr dL_cell_18 ?_ rfl rfl
    unfold fCell
    first | (rw [if_pos ((nI_leI hL hk).mp c3)]) | (rw [if_neg (fun z => c3 (nI_le z hk))])
section RH
variable {p : Program} {l : Launch} {e : Env} {R : Room} {s : State} {m : MethodId} {args : Array Value} {below : List Frame} {meth : Method} {c : Code} {Q : State → Prop} {X : Cx} {nL : Nat} {ex : va_W} {M : Mem} {lf : Lf} {cells slots : Nat}
set_option maxHeartbeats 4000000 in
set_option maxRecDepth 100000 in
theorem L_L_heights (F : Fx p l s m args meth c cL_heights 4 RL X) (G : Gx X l) {x : Int32} {n : Nat} (h8 : n ≤ 8) (K : V p l e rm_L_heights s m args below meth c Q X 4 ex (M) lf 0 0 56 [(3, .int (nI n)), (2, .int (nI (hgt x n))), (0, .int x), (1, .int (nI n))] []) : ∀ (f k : Nat), f + k = n → V p l e rm_L_heights s m args below meth c Q X 4 ex (M) lf 0 0 4 [(3, .int (nI k)), (2, .int (nI (hgt x k))), (0, .int x), (1, .int (nI n))] [] := by
  intro f
  induction f with
  | zero =>
    intro k hk
    obtain rfl : k = n := by omega
    refine v_iload_n F dL_heights_4 rfl 0 rfl ?_
    refine v_iload_n F dL_heights_5 rfl 3 rfl ?_
    refine v_icmp_ge F (tgt := 56) dL_heights_6 (by decide) (fun c6 => ?_) (fun h => absurd (nI_le (Nat.le_refl _) (by omega)) h)
    exact K
  | succ f ih =>
    intro k hk
    refine v_iload_n F dL_heights_4 rfl 0 rfl ?_
    refine v_iload_n F dL_heights_5 rfl 3 rfl ?_
    refine v_icmp_ge F (tgt := 56) dL_heights_6 (by decide) (fun h => absurd h (nI_ge (by omega) (by omega))) (fun c6 => ?_)
    refine v_bipush F (v := nI 10) dL_heights_9 (by decide) ?_
    refine v_iload_n F dL_heights_11 rfl 1 rfl ?_
    refine v_imul F dL_heights_12 ?_
    refine v_topr (nI (10 * hgt x k)) (pk_mul _ _) ?_
    refine v_iload_n F dL_heights_13 rfl 2 rfl ?_
    refine v_bipush F (v := 11) dL_heights_14 (by decide) ?_
    refine v_ishr F dL_heights_16 ?_
    refine v_iconst F (v := nI 3) dL_heights_17 (by decide) ?_
    refine v_callSi F (As := [_, _]) (rest := [.int _]) rfl (c_L_below G _ (n := 3) (by decide) (by decide)) wm_L_9 rfl ⟨rfl, rfl, Nat.le_of_ble_eq_true rfl, Nat.le_of_ble_eq_true rfl, Nat.le_of_ble_eq_true rfl, Nat.le_of_ble_eq_true rfl, Nat.le_of_ble_eq_true rfl⟩ dL_heights_18 ?_
    refine v_if_ne F (tgt := 37) dL_heights_21 (by decide) (fun c21 => ?_) (fun c21 => ?_)
    · have := c21
      refine v_iconst F (v := nI 1) dL_heights_37 (by decide) ?_
      refine v_iload_n F dL_heights_38 rfl 2 rfl ?_
      refine v_iconst F (v := nI 2) dL_heights_39 (by decide) ?_
      refine v_iload_n F dL_heights_40 rfl 0 rfl ?_
      refine v_imul F dL_heights_41 ?_
      refine v_topr (nI (2 * k)) (pk_mul _ _) ?_
      refine v_ishr F dL_heights_42 ?_
      refine v_iconst F (v := nI 5) dL_heights_43 (by decide) ?_
      refine v_callSi F (As := [_, _]) (rest := [.int _, .int _]) rfl (c_L_below G _ (n := 5) (by decide) (by decide)) wm_L_9 rfl ⟨rfl, rfl, Nat.le_of_ble_eq_true rfl, Nat.le_of_ble_eq_true rfl, Nat.le_of_ble_eq_true rfl, Nat.le_of_ble_eq_true rfl, Nat.le_of_ble_eq_true rfl⟩ dL_heights_44 ?_
      refine v_iadd F dL_heights_47 ?_
      refine v_topr (nI (1 + bl (x >>> (nI (2 * k) &&& 31)) 5)) (nI_add _ _) ?_
      refine v_iadd F dL_heights_48 ?_
      refine v_topr (nI (hgt x (k + 1))) ?_ ?_
      · show _ = nI (10 * hgt x k + dgt x k)
        unfold dgt
        first | (rw [if_pos ((nI_eq (Nat.lt_trans (bl_lt _ (by decide)) (by decide)) (by decide)).mp c21), nI_add]) | (rw [if_neg (fun z => c21 (by rw [z]; rfl)), nI_add])
      refine v_istore_n F dL_heights_49 rfl (by decide) (lv' := [(2, .int _), (3, .int _), (0, .int _), (1, .int _)]) rfl ?_
      refine v_iinc F (k := 1) (nI (k + 1)) dL_heights_50 rfl (iinc_nI k) (by decide) (lv' := [(3, .int _), (2, .int _), (0, .int _), (1, .int _)]) rfl ?_
      refine v_goto F (tgt := 4) dL_heights_53 (by decide) ?_
      exact v_locs [0, 1, 2, 3] rfl (ih (k + 1) (by omega))
    · have := c21
      refine v_iload_n F dL_heights_24 rfl 2 rfl ?_
      refine v_iconst F (v := nI 2) dL_heights_25 (by decide) ?_
      refine v_iload_n F dL_heights_26 rfl 0 rfl ?_
      refine v_imul F dL_heights_27 ?_
      refine v_topr (nI (2 * k)) (pk_mul _ _) ?_
      refine v_ishr F dL_heights_28 ?_
      refine v_bipush F (v := nI 10) dL_heights_29 (by decide) ?_
      refine v_callSi F (As := [_, _]) (rest := [.int _]) rfl (c_L_below G _ (n := 10) (by decide) (by decide)) wm_L_9 rfl ⟨rfl, rfl, Nat.le_of_ble_eq_true rfl, Nat.le_of_ble_eq_true rfl, Nat.le_of_ble_eq_true rfl, Nat.le_of_ble_eq_true rfl, Nat.le_of_ble_eq_true rfl⟩ dL_heights_31 ?_
      refine v_goto F (tgt := 48) dL_heights_34 (by decide) ?_
      refine v_iadd F dL_heights_48 ?_
      refine v_topr (nI (hgt x (k + 1))) ?_ ?_
      · show _ = nI (10 * hgt x k + dgt x k)
        unfold dgt
        first | (rw [if_pos ((nI_eq (Nat.lt_trans (bl_lt _ (by decide)) (by decide)) (by decide)).mp c21), nI_add]) | (rw [if_neg (fun z => c21 (by rw [z]; rfl)), nI_add])
      refine v_istore_n F dL_heights_49 rfl (by decide) (lv' := [(2, .int _), (3, .int _), (0, .int _), (1, .int _)]) rfl ?_
      refine v_iinc F (k := 1) (nI (k + 1)) dL_heights_50 rfl (iinc_nI k) (by decide) (lv' := [(3, .int _), (2, .int _), (0, .int _), (1, .int _)]) rfl ?_
      refine v_goto F (tgt := 4) dL_heights_53 (by decide) ?_
      exact v_locs [0, 1, 2, 3] rfl (ih (k + 1) (by omega))
end RH
set_option maxHeartbeats 4000000 in
set_option maxRecDepth 100000 in
theorem c_L_heights {X : Cx} {l : Launch} (G : Gx X l) {M : Mem} {lf : Lf} (x : Int32) {n : Nat} (h8 : n ≤ 8) : CI X l yL_heights (wsc yL_heights cL_heights 4 (some .int)) rm_L_heights [.int x, .int (nI n)] (M) lf (nI (hgt x n)) (M) lf 0 0 := by
  refine CI_of (lv := [(0, .int _), (1, .int _)]) G (by decide) (Nat.le_of_ble_eq_true rfl) rfl (fun p e s m args below meth c F hr => ?_)
  have F : Fx p l s m args meth c cL_heights 4 RL X := F
  refine v_iconst F (v := nI 0) dL_heights_0 (by decide) ?_
  refine v_istore_n F dL_heights_1 rfl (by decide) (lv' := [(2, .int _), (0, .int _), (1, .int _)]) rfl ?_
  refine v_iconst F (v := nI 0) dL_heights_2 (by decide) ?_
  refine v_istore_n F dL_heights_3 rfl (by decide) (lv' := [(3, .int _), (2, .int _), (0, .int _), (1, .int _)]) rfl ?_
  refine L_L_heights F G h8 ?_ n 0 (Nat.add_zero n)
  refine v_iload_n F dL_heights_56 rfl 1 rfl ?_
  exact v_iret F hr dL_heights_57 rfl rfl rfl
