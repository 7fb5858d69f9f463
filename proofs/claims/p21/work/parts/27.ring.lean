/-! ===== the ring that the law makes ===== -/
theorem RI0 : RI σR 0 0 0 (fun _ => 1) := by
  refine ⟨⟨by decide, by decide, rfl, rfl, fun i hi => absurd hi (Nat.not_lt_zero i)⟩, rfl, fun i hi => absurd hi (Nat.not_lt_zero i), fun i h hi => absurd hi (Nat.not_lt_zero i), fun k hk => absurd hk (Nat.not_lt_zero k), ⟨fun i _ _ => ⟨rfl, rfl, rfl, rfl⟩, fun k _ _ => ⟨rfl, rfl, rfl, rfl, rfl⟩⟩, rfl, rfl, rfl⟩
def M0 : Mem := fun r => match r with
  | 0 => σR
  | 1 => σR
  | _ => fun _ _ _ => 0
def lf0 : Lf := fun _ => 0
/-- the context out of the addresses -/
def mkX (D : va_G) (ca : Nat → ClassId) (base : Nat) (a b : Nat → Nat → Nat) (h : Nat) : Cx := (D, (fun r k i => match r with | 0 => a k i | 1 => b k i | _ => h), ca, base)
theorem mk_wl {D : va_G} {ca : Nat → ClassId} {base : Nat} {a b : Nat → Nat → Nat} {h : Nat} : wl (mkX D ca base a b h) M0 lf0 = wR a ca σR ++ (wR b ca σR ++ [(h, .inr (4, [.ref (a 0 0), .ref (b 0 0)]))]) := by
  unfold wl ids
  rw [List.map_append, List.map_append]
  rfl
theorem mk_ok {D : va_G} {ca : Nat → ClassId} {base : Nat} {A : Nat → Prop} (hA : ∀ q, A q → base ≤ q) {a b : Nat → Nat → Nat} {h : Nat} (hD : va_D A (wl (mkX D ca base a b h) M0 lf0)) : Cxok (mkX D ca base a b h) := by
  have key : ∀ p, p ∈ ids → ∃ (i : Nat) (e : va_E), ids[i]? = some p ∧ (wl (mkX D ca base a b h) M0 lf0)[i]? = some (xad (mkX D ca base a b h) p, e) := by
    intro p hp
    obtain ⟨i, hi⟩ := List.getElem?_of_mem hp
    refine ⟨i, celD (mkX D ca base a b h) lf0 p.1 p.2.1 p.2.2 (M0 p.1 p.2.1 p.2.2), hi, ?_⟩
    unfold wl
    rw [List.getElem?_map, hi]
    rfl
  refine ⟨fun p hp q hq e => ?_, fun p hp => ?_⟩
  · obtain ⟨i, e1, h1, h2⟩ := key p hp
    obtain ⟨j, e2, h3, h4⟩ := key q hq
    have : i = j := hD.1 i j _ _ h2 h4 e
    subst this
    exact Option.some.inj (h1.symm.trans h3)
  · obtain ⟨i, e1, h1, h2⟩ := key p hp
    exact hA _ (hD.2 i _ h2)
section UX
variable {p : Program} {l : Launch} {e : Env} {R : Room} {s : State} {m : MethodId} {args : Array Value} {below : List Frame} {meth : Method} {c : Code} {Q : State → Prop} {D : va_G} {A : Nat → Prop} {nL : Nat} {cells slots pc : Nat} {lv : List (Nat × Value)} {st : List Value} {cc : ByteArray} {own : String}
theorem u_swap {a b c' : va_W} (K : UU p l e R s m args below meth c Q D A nL ((a ++ c') ++ b) cells slots pc lv st) : UU p l e R s m args below meth c Q D A nL ((a ++ b) ++ c') cells slots pc lv st := fun H locs ls hP hD hS hl => K H locs ls hP.swap hD.swap hS hl
theorem u_re {w w' : va_W} (h : w = w') (K : UU p l e R s m args below meth c Q D A nL w' cells slots pc lv st) : UU p l e R s m args below meth c Q D A nL w cells slots pc lv st := h ▸ K
theorem u_toV {ca : Nat → ClassId} {base : Nat} (F : FU p s m args meth c cc nL own D ca base (fun q => s.heap.size ≤ q)) {a b : Nat → Nat → Nat} {h : Nat} (hb : base = s.heap.size)
    (K : Cxok (mkX D ca base a b h) → V p l e R s m args below meth c Q (mkX D ca base a b h) nL [] M0 lf0 cells slots pc lv st) : UU p l e R s m args below meth c Q D (fun q => s.heap.size ≤ q) nL (wl (mkX D ca base a b h) M0 lf0) cells slots pc lv st := by
  intro H locs ls hP hD hS hl
  have hok := mk_ok (fun q hq => F.2.2.2.2 q hq) hD
  refine K hok H locs ls (by rw [List.append_nil]; exact hP) exOk_nil ?_ hl
  have e1 : ∀ q, xA (mkX D ca base a b h) s.heap.size q → s.heap.size ≤ q := fun q z => by
    have := xA_B hok (Nat.le_of_eq hb) q z
    rw [← hb]; exact this
  exact ⟨hS.1, fun q h1 h2 => hS.2.1 q h1 (fun z => h2 (Or.inr z)), fun q hq => Or.inr (hS.2.2 q hq)⟩
end UX
/-- what the ring comes back as -/
def LI (M : Mem) (B : Nat) : Prop := ∃ (jc tc bt : Nat) (ln : Nat → Nat), 1 ≤ jc ∧ RI (M 0) jc tc bt ln ∧ bt ≤ B
def RP (D : va_G) (ca : Nat → ClassId) (b L : Nat) (xs : Nat → Int32) (sz : Nat) : State → Prop := fun U => U.heap.size = sz ∧ KC D ca sz U ∧ va_X b L xs U U.heap ∧ b < sz
abbrev RQ (D : va_G) (ca : Nat → ClassId) (sz : Nat) : Array Value → State → Outcome → State → Prop := va_Qr (fun u : Cx × Mem × Lf => Cxok u.1 ∧ u.1.1 = D ∧ u.1.2.2.1 = ca ∧ u.1.2.2.2 = sz ∧ LI u.2.1 36) (fun (u : Cx × Mem × Lf) (a : Nat) (t : State) => a = u.1.2.1 5 0 0 ∧ va_P u.1.1 vwCl (wl u.1 u.2.1 u.2.2) t.heap) (fun q => sz ≤ q)
abbrev QR (D : va_G) (ca : Nat → ClassId) (below : List Frame) (args : Array Value) (s : State) (mc ms : Nat) : State → Prop := MQ below (RQ D ca s.heap.size) args s mc ms (fun q => s.heap.size ≤ q)
section VY
variable {p : Program} {l : Launch} {e : Env} {R : Room} {s : State} {m : MethodId} {args : Array Value} {below : List Frame} {meth : Method} {c : Code} {Q : State → Prop} {X : Cx} {nL : Nat} {ex : va_W} {M M' : Mem} {lf lf' : Lf} {cells slots pc : Nat} {lv : List (Nat × Value)} {st : List Value} {cc : ByteArray} {own : String}
theorem v_memI {P : Mem → Prop} (h : P M) (K : ∀ M', P M' → V p l e R s m args below meth c Q X nL ex M' lf cells slots pc lv st) : V p l e R s m args below meth c Q X nL ex M lf cells slots pc lv st := K M h
theorem v_genx {x : Int32} {i : Nat} {lv' : List (Nat × Value)} (K : ∀ y : Int32, V p l e R s m args below meth c Q X nL ex M lf cells slots pc ((i, .int y) :: lv') st) : V p l e R s m args below meth c Q X nL ex M lf cells slots pc ((i, .int x) :: lv') st := K x
theorem v_aret (F : Fx p l s m args meth c cc nL own X) (hr : meth.sig.returnType = some (.object "HammerEggs")) (hbase : X.2.2.2 = s.heap.size) (hI : LI M 36) (hdg : decode cc pc = .ok (.areturn, 1)) : V p l e R s m args below meth c (QR X.1 X.2.2.1 below args s cells slots) X nL ex M lf cells slots pc lv [.ref (X.2.1 5 0 0)] := by
  intro H locs ls hP hE hS hl
  have e1 : ∀ q, xA X s.heap.size q → s.heap.size ≤ q := fun q z => by
    have := xA_B F.2.2.1 (Nat.le_of_eq hbase) q z
    rw [← hbase]; exact this
  refine W.aret F.1.1 F.1.2.1 hr (Or.inl ⟨_, rfl⟩) (Or.inr ⟨_, rfl⟩) (fun t ht hW => ⟨⟨(X, M, lf), _, rfl, ⟨F.2.2.1, rfl, rfl, hbase, hI⟩, rfl, by show va_P _ _ _ t.heap; rw [ht]; exact (va_P_spl hP).1⟩, ?_⟩) (fun q hq => e1 _ (hS.2.2 q hq)) hdg F.2.2.2.1
  rw [va_F, ht]
  exact ⟨hS.1, fun q h1 h2 => hS.2.1 q h1 (fun z => h2 (e1 q z))⟩
end VY
theorem RI_gv {M : Mem} {jc tc b k j hd : Nat} {ln : Nat → Nat} (I : RI (M 0) jc tc b ln) (hk : k < tc) (hj : j < jc) (hh : hd < 2) : RI ((gvM M k j hd) 0) jc tc b ln := by
  unfold gvM
  split
  · rename_i z
    rw [uC_at]
    exact RI_put I hk hj hh z.1 z.2
  · exact I
abbrev rm_L_ring : Room := { frames := 10, cells := 83, slots := 516, locals := 200 }
section RG
variable {p : Program} {l : Launch} {e : Env} {R : Room} {s : State} {m : MethodId} {args : Array Value} {below : List Frame} {meth : Method} {c : Code} {Q : State → Prop} {b L : Nat} {xs : Nat → Int32} {X : Cx} {nL : Nat} {ex : va_W} {M : Mem} {lf : Lf} {cells slots : Nat}
set_option maxHeartbeats 4000000 in
set_option maxRecDepth 100000 in
theorem L1_L_ring (F : Fx p l s m args meth c cL_ring 7 RL X) (G : Gx X l) (hX : va_X b L xs s s.heap) (hbl : b < X.2.2.2) (hL : L < 2 ^ 31) {J : Nat} (hJ : J ≤ 4) (K : ∀ (M : Mem) (ln : Nat → Nat), RI (M 0) J 0 0 ln → V p l e rm_L_ring s m args below meth c Q X 7 [] M lf (71) (444) 54 [(2, .int (nI J)), (1, .ref (X.2.1 5 0 0)), (0, .ref b)] []) : ∀ (f j : Nat) (M : Mem) (ln : Nat → Nat), f + j = J → RI (M 0) j 0 0 ln → V p l e rm_L_ring s m args below meth c Q X 7 [] M lf (71) (444) 22 [(3, .int (nI j)), (2, .int (nI J)), (1, .ref (X.2.1 5 0 0)), (0, .ref b)] [] := by
  intro f
  induction f with
  | zero =>
    intro j M ln hf I
    obtain rfl : j = J := by omega
    refine v_iload_n F dL_ring_22 rfl 0 rfl ?_
    refine v_iload_n F dL_ring_23 rfl 1 rfl ?_
    refine v_icmp_ge F (tgt := 54) dL_ring_24 (by decide) (fun c24 => ?_) (fun h => absurd (nI_le (Nat.le_refl _) (by omega)) h)
    exact v_locs [1, 2, 3] rfl (K M ln I)
  | succ f ih =>
    intro j M ln hf I
    refine v_iload_n F dL_ring_22 rfl 0 rfl ?_
    refine v_iload_n F dL_ring_23 rfl 1 rfl ?_
    refine v_icmp_ge F (tgt := 54) dL_ring_24 (by decide) (fun h => absurd h (nI_ge (by omega) (by omega))) (fun c24 => ?_)
    refine v_aload_n F dL_ring_27 rfl 2 rfl ?_
    refine v_iconst F (v := nI 1) dL_ring_28 (by decide) ?_
    refine v_aload_n F dL_ring_29 rfl 3 rfl ?_
    refine v_iconst F (v := nI 1) dL_ring_30 (by decide) ?_
    refine v_callSs F hX hbl (As := [_, _]) (rest := [.int _, .ref _]) rfl (c_L_cell G hbl (k := 1) (by omega) hL) wm_L_18 rfl ⟨rfl, rfl, Nat.le_of_ble_eq_true rfl, Nat.le_of_ble_eq_true rfl, Nat.le_of_ble_eq_true rfl, Nat.le_of_ble_eq_true rfl, Nat.le_of_ble_eq_true rfl⟩ dL_ring_31 ?_
    refine v_iconst F (v := nI 3) dL_ring_34 (by decide) ?_
    refine v_iload_n F dL_ring_35 rfl 0 rfl ?_
    refine v_imul F dL_ring_36 ?_
    refine v_topr (nI (3 * j)) (pk_mul _ _) ?_
    refine v_ishr F dL_ring_37 ?_
    refine v_bipush F (v := nI 9) dL_ring_38 (by decide) ?_
    refine v_callSi F (As := [_, _]) (rest := [.int _, .ref _]) rfl (c_L_below G _ (n := 9) (by decide) (by decide)) wm_L_9 rfl ⟨rfl, rfl, Nat.le_of_ble_eq_true rfl, Nat.le_of_ble_eq_true rfl, Nat.le_of_ble_eq_true rfl, Nat.le_of_ble_eq_true rfl, Nat.le_of_ble_eq_true rfl⟩ dL_ring_40 ?_
    refine v_iadd F dL_ring_43 ?_
    refine v_topr (nI (1 + bl (fCell xs L 1 >>> (nI (3 * j) &&& 31)) 9)) (nI_add _ _) ?_
    refine v_callVi F (As := [_]) (rest := []) rfl (c_X4_come G (by omega) I.1.2.2.1 (Nat.le_add_right 1 _) (by have := bl_lt (fCell xs L 1 >>> (nI (3 * j) &&& 31)) (n := 9) (by decide); omega)) Rv_H wm_L_22 rfl ⟨rfl, rfl, Nat.le_of_ble_eq_true rfl, Nat.le_of_ble_eq_true rfl, Nat.le_of_ble_eq_true rfl, Nat.le_of_ble_eq_true rfl, Nat.le_of_ble_eq_true rfl⟩ dL_ring_44 ?_
    refine v_pop F dL_ring_47 rfl ?_
    refine v_memI (P := fun M1 => RI (M1 0) (j + 1) 0 0 (lnSet ln j 1)) (by rw [uC_at]; exact RI_come I (by omega) _) (fun M I => ?_)
    refine v_iinc F (k := 0) (nI (j + 1)) dL_ring_48 rfl (iinc_nI j) (by decide) (lv' := [(3, .int _), (2, .int _), (1, .ref _), (0, .ref _)]) rfl ?_
    refine v_goto F (tgt := 22) dL_ring_51 (by decide) ?_
    exact ih (j + 1) M _ (by omega) I
set_option maxHeartbeats 4000000 in
set_option maxRecDepth 100000 in
theorem L2b_L_ring (F : Fx p l s m args meth c cL_ring 7 RL X) (G : Gx X l) {J j n : Nat} {x : Int32} {ln : Nat → Nat} (h1J : 1 ≤ J) (hJ : J ≤ 4) (hj : j < J) (h8 : n ≤ 8) (hn : ln j = n) (K : ∀ (M : Mem), RI (M 0) J 0 0 ln → V p l e rm_L_ring s m args below meth c Q X 7 [] M lf (71) (444) 148 [(3, .int (nI j)), (2, .int (nI J)), (1, .ref (X.2.1 5 0 0)), (0, .ref b)] []) : ∀ (f k : Nat) (M : Mem), f + k = n → RI (M 0) J 0 0 ln → V p l e rm_L_ring s m args below meth c Q X 7 [] M lf (71) (444) 101 [(6, .int (nI k)), (5, .int (nI n)), (4, .int x), (3, .int (nI j)), (2, .int (nI J)), (1, .ref (X.2.1 5 0 0)), (0, .ref b)] [] := by
  intro f
  induction f with
  | zero =>
    intro k M hf I
    obtain rfl : k = n := by omega
    refine v_iload F dL_ring_101 0 rfl ?_
    refine v_iload F dL_ring_103 1 rfl ?_
    refine v_icmp_ge F (tgt := 148) dL_ring_105 (by decide) (fun c105 => ?_) (fun h => absurd (nI_le (Nat.le_refl _) (by omega)) h)
    exact v_locs [3, 4, 5, 6] rfl (K M I)
  | succ f ih =>
    intro k M hf I
    refine v_iload F dL_ring_101 0 rfl ?_
    refine v_iload F dL_ring_103 1 rfl ?_
    refine v_icmp_ge F (tgt := 148) dL_ring_105 (by decide) (fun h => absurd h (nI_ge (by omega) (by omega))) (fun c105 => ?_)
    refine v_iload F dL_ring_108 2 rfl ?_
    refine v_iconst F (v := nI 5) dL_ring_110 (by decide) ?_
    refine v_iload F dL_ring_111 0 rfl ?_
    refine v_iadd F dL_ring_113 ?_
    refine v_topr (nI (5 + k)) (nI_add _ _) ?_
    refine v_ishr F dL_ring_114 ?_
    refine v_iconst F (v := nI 4) dL_ring_115 (by decide) ?_
    refine v_callSi F (As := [_, _]) (rest := []) rfl (c_L_below G _ (n := 4) (by decide) (by decide)) wm_L_9 rfl ⟨rfl, rfl, Nat.le_of_ble_eq_true rfl, Nat.le_of_ble_eq_true rfl, Nat.le_of_ble_eq_true rfl, Nat.le_of_ble_eq_true rfl, Nat.le_of_ble_eq_true rfl⟩ dL_ring_116 ?_
    refine v_if_ne F (tgt := 142) dL_ring_119 (by decide) (fun c119 => ?_) (fun c119 => ?_)
    · have := c119
      refine v_iinc F (k := 0) (nI (k + 1)) dL_ring_142 rfl (iinc_nI k) (by decide) (lv' := [(6, .int _), (5, .int _), (4, .int _), (3, .int _), (2, .int _), (1, .ref _), (0, .ref _)]) rfl ?_
      refine v_goto F (tgt := 101) dL_ring_145 (by decide) ?_
      exact ih (k + 1) M (by omega) I
    · have := c119
      refine v_aload_n F dL_ring_122 rfl 5 rfl ?_
      refine v_iload_n F dL_ring_123 rfl 3 rfl ?_
      refine v_iload F dL_ring_124 0 rfl ?_
      refine v_iload F dL_ring_126 2 rfl ?_
      refine v_bipush F (v := nI 7) dL_ring_128 (by decide) ?_
      refine v_iload F dL_ring_130 0 rfl ?_
      refine v_iadd F dL_ring_132 ?_
      refine v_topr (nI (7 + k)) (nI_add _ _) ?_
      refine v_ishr F dL_ring_133 ?_
      refine v_iload_n F dL_ring_134 rfl 4 rfl ?_
      refine v_callSi F (As := [_, _]) (rest := [.int _, .int _, .ref _]) rfl (c_L_below G _ (n := J) h1J (by omega)) wm_L_9 rfl ⟨rfl, rfl, Nat.le_of_ble_eq_true rfl, Nat.le_of_ble_eq_true rfl, Nat.le_of_ble_eq_true rfl, Nat.le_of_ble_eq_true rfl, Nat.le_of_ble_eq_true rfl⟩ dL_ring_135 ?_
      refine v_callVi F (As := [_, _, _]) (rest := []) rfl (c_X4_pass G I.1 hj (by omega) (bl_lt _ h1J)) Rv_H wm_L_33 rfl ⟨rfl, rfl, Nat.le_of_ble_eq_true rfl, Nat.le_of_ble_eq_true rfl, Nat.le_of_ble_eq_true rfl, Nat.le_of_ble_eq_true rfl, Nat.le_of_ble_eq_true rfl⟩ dL_ring_138 ?_
      refine v_pop F dL_ring_141 rfl ?_
      refine v_memI (P := fun M1 => RI (M1 0) J 0 0 ln) (by rw [uC_at]; exact RI_pass I (bl_lt _ h1J)) (fun M I => ?_)
      refine v_iinc F (k := 0) (nI (k + 1)) dL_ring_142 rfl (iinc_nI k) (by decide) (lv' := [(6, .int _), (5, .int _), (4, .int _), (3, .int _), (2, .int _), (1, .ref _), (0, .ref _)]) rfl ?_
      refine v_goto F (tgt := 101) dL_ring_145 (by decide) ?_
      exact ih (k + 1) M (by omega) I
set_option maxHeartbeats 4000000 in
set_option maxRecDepth 100000 in
theorem L2_L_ring (F : Fx p l s m args meth c cL_ring 7 RL X) (G : Gx X l) (hX : va_X b L xs s s.heap) (hbl : b < X.2.2.2) (hL : L < 2 ^ 31) {J : Nat} (h1J : 1 ≤ J) (hJ : J ≤ 4) (K : ∀ (M : Mem) (ln : Nat → Nat), RI (M 0) J 0 0 ln → V p l e rm_L_ring s m args below meth c Q X 7 [] M lf (71) (444) 154 [(2, .int (nI J)), (1, .ref (X.2.1 5 0 0)), (0, .ref b)] []) : ∀ (f j : Nat) (M : Mem) (ln : Nat → Nat), f + j = J → RI (M 0) J 0 0 ln → V p l e rm_L_ring s m args below meth c Q X 7 [] M lf (71) (444) 56 [(3, .int (nI j)), (2, .int (nI J)), (1, .ref (X.2.1 5 0 0)), (0, .ref b)] [] := by
  intro f
  induction f with
  | zero =>
    intro j M ln hf I
    obtain rfl : j = J := by omega
    refine v_iload_n F dL_ring_56 rfl 0 rfl ?_
    refine v_iload_n F dL_ring_57 rfl 1 rfl ?_
    refine v_icmp_ge F (tgt := 154) dL_ring_58 (by decide) (fun c58 => ?_) (fun h => absurd (nI_le (Nat.le_refl _) (by omega)) h)
    exact v_locs [1, 2, 3] rfl (K M ln I)
  | succ f ih =>
    intro j M ln hf I
    refine v_iload_n F dL_ring_56 rfl 0 rfl ?_
    refine v_iload_n F dL_ring_57 rfl 1 rfl ?_
    refine v_icmp_ge F (tgt := 154) dL_ring_58 (by decide) (fun h => absurd h (nI_ge (by omega) (by omega))) (fun c58 => ?_)
    refine v_aload_n F dL_ring_61 rfl 3 rfl ?_
    refine v_iconst F (v := nI 2) dL_ring_62 (by decide) ?_
    refine v_iload_n F dL_ring_63 rfl 0 rfl ?_
    refine v_iadd F dL_ring_64 ?_
    refine v_topr (nI (2 + j)) (nI_add _ _) ?_
    refine v_callSs F hX hbl (As := [_, _]) (rest := []) rfl (c_L_cell G hbl (k := 2 + j) (by omega) hL) wm_L_18 rfl ⟨rfl, rfl, Nat.le_of_ble_eq_true rfl, Nat.le_of_ble_eq_true rfl, Nat.le_of_ble_eq_true rfl, Nat.le_of_ble_eq_true rfl, Nat.le_of_ble_eq_true rfl⟩ dL_ring_65 ?_
    refine v_istore F dL_ring_68 (by decide) (lv' := [(4, .int _), (3, .int _), (2, .int _), (1, .ref _), (0, .ref _)]) rfl ?_
    refine v_genx (fun x => ?_)
    refine v_iconst F (v := nI 1) dL_ring_70 (by decide) ?_
    refine v_iload F dL_ring_71 0 rfl ?_
    refine v_bipush F (v := nI 8) dL_ring_73 (by decide) ?_
    refine v_callSi F (As := [_, _]) (rest := [.int _]) rfl (c_L_below G _ (n := 8) (by decide) (by decide)) wm_L_9 rfl ⟨rfl, rfl, Nat.le_of_ble_eq_true rfl, Nat.le_of_ble_eq_true rfl, Nat.le_of_ble_eq_true rfl, Nat.le_of_ble_eq_true rfl, Nat.le_of_ble_eq_true rfl⟩ dL_ring_75 ?_
    refine v_iadd F dL_ring_78 ?_
    refine v_topr (nI (1 + bl x 8)) (nI_add _ _) ?_
    refine v_istore F dL_ring_79 (by decide) (lv' := [(5, .int _), (4, .int _), (3, .int _), (2, .int _), (1, .ref _), (0, .ref _)]) rfl ?_
    have hn8 : 1 + bl x 8 ≤ 8 := by have := bl_lt x (n := 8) (by decide); omega
    generalize hn0 : 1 + bl x 8 = n at hn8
    have h1n : 1 ≤ n := by omega
    refine v_aload_n F dL_ring_81 rfl 4 rfl ?_
    refine v_iload_n F dL_ring_82 rfl 2 rfl ?_
    refine v_iload F dL_ring_83 0 rfl ?_
    refine v_iload F dL_ring_85 1 rfl ?_
    refine v_iconst F (v := nI 3) dL_ring_87 (by decide) ?_
    refine v_ishr F dL_ring_88 ?_
    refine v_iload F dL_ring_89 0 rfl ?_
    refine v_callSi F (As := [_, _]) (rest := [.int _, .int _, .ref _]) rfl (c_L_heights G _ hn8) wm_L_26 rfl ⟨rfl, rfl, Nat.le_of_ble_eq_true rfl, Nat.le_of_ble_eq_true rfl, Nat.le_of_ble_eq_true rfl, Nat.le_of_ble_eq_true rfl, Nat.le_of_ble_eq_true rfl⟩ dL_ring_91 ?_
    refine v_callVi F (As := [_, _, _]) (rest := []) rfl (c_X4_setPattern G I.1 (show j < J by omega) h1n hn8 (hgt_lt _ n)) Rv_H wm_L_29 rfl ⟨rfl, rfl, Nat.le_of_ble_eq_true rfl, Nat.le_of_ble_eq_true rfl, Nat.le_of_ble_eq_true rfl, Nat.le_of_ble_eq_true rfl, Nat.le_of_ble_eq_true rfl⟩ dL_ring_94 ?_
    refine v_pop F dL_ring_97 rfl ?_
    refine v_memI (P := fun M1 => RI (M1 0) J 0 0 (lnSet ln j n)) (by rw [uC_at]; exact RI_pat I (by omega) h1n hn8 (Nat.lt_trans (hgt_lt _ n) (p10_lt hn8))) (fun M I => ?_)
    refine v_iconst F (v := nI 0) dL_ring_98 (by decide) ?_
    refine v_istore F dL_ring_99 (by decide) (lv' := [(6, .int _), (5, .int _), (4, .int _), (3, .int _), (2, .int _), (1, .ref _), (0, .ref _)]) rfl ?_
    refine L2b_L_ring F G h1J hJ (show j < J by omega) hn8 lnSet_at (fun M I => ?_) n 0 M (Nat.add_zero n) I
    · skip
      refine v_iinc F (k := 0) (nI (j + 1)) dL_ring_148 rfl (iinc_nI j) (by decide) (lv' := [(3, .int _), (2, .int _), (1, .ref _), (0, .ref _)]) rfl ?_
      refine v_goto F (tgt := 56) dL_ring_151 (by decide) ?_
      exact ih (j + 1) M _ (by omega) I
set_option maxHeartbeats 4000000 in
set_option maxRecDepth 100000 in
theorem L3b_L_ring (F : Fx p l s m args meth c cL_ring 7 RL X) (G : Gx X l) {J k T bt kd : Nat} {x : Int32} {ln : Nat → Nat} (h1J : 1 ≤ J) (hJ : J ≤ 4) (hT : T ≤ 12) (hk : k < T) (hbt0 : bt ≤ 3 * k) (hkd : kd < 3) (K : ∀ (M : Mem) (bt : Nat), RI (M 0) J (k + 1) bt ln → bt ≤ 3 * (k + 1) → V p l e rm_L_ring s m args below meth c Q X 7 [] M lf (71 + (k + 1)) (444 + 6 * (k + 1)) 169 [(4, .int (nI (k + 1))), (3, .int (nI T)), (2, .int (nI J)), (1, .ref (X.2.1 5 0 0)), (0, .ref b)] []) (I : RI (M 0) J k bt ln) : V p l e rm_L_ring s m args below meth c Q X 7 [] M lf (71 + k) (444 + 6 * k) 217 [(5, .int x), (4, .int (nI k)), (3, .int (nI T)), (2, .int (nI J)), (1, .ref (X.2.1 5 0 0)), (0, .ref b)] [.int (nI kd), .ref (X.2.1 5 0 0)] := by
  have hb3 := bl_lt (x >>> (nI 6 &&& 31)) (n := 3) (by decide)
  have hbt : bt ≤ 3 * (k + 1) := by omega
  refine v_callVi F (As := [_]) (rest := []) rfl (c_X4_make G (show k < 12 by omega) I.1.2.2.2.1 hkd) Rv_H wm_L_36 rfl ⟨rfl, rfl, Nat.le_of_ble_eq_true rfl, Nat.le_of_ble_eq_true rfl, (by show _ ≤ 83; omega), (by show _ ≤ 516; omega), Nat.le_of_ble_eq_true rfl⟩ dL_ring_217 ?_
  refine v_pop F dL_ring_220 rfl ?_
  refine v_memI (P := fun M1 => RI (M1 0) J (k + 1) bt ln) (by rw [uC_at]; exact RI_make I (by omega) hkd) (fun M I => ?_)
  refine v_aload_n F dL_ring_221 rfl 4 rfl ?_
  refine v_iload F dL_ring_222 1 rfl ?_
  refine v_iload F dL_ring_224 0 rfl ?_
  refine v_iconst F (v := nI 2) dL_ring_226 (by decide) ?_
  refine v_ishr F dL_ring_227 ?_
  refine v_iload_n F dL_ring_228 rfl 3 rfl ?_
  refine v_callSi F (As := [_, _]) (rest := [.int _, .ref _]) rfl (c_L_below G _ (n := J) h1J (by omega)) wm_L_9 rfl ⟨rfl, rfl, Nat.le_of_ble_eq_true rfl, Nat.le_of_ble_eq_true rfl, (by show _ ≤ 83; omega), (by show _ ≤ 516; omega), Nat.le_of_ble_eq_true rfl⟩ dL_ring_229 ?_
  refine v_iload F dL_ring_232 0 rfl ?_
  refine v_iconst F (v := nI 4) dL_ring_234 (by decide) ?_
  refine v_ishr F dL_ring_235 ?_
  refine v_iconst F (v := nI 2) dL_ring_236 (by decide) ?_
  refine v_callSi F (As := [_, _]) (rest := [.int _, .int _, .ref _]) rfl (c_L_below G _ (n := 2) (by decide) (by decide)) wm_L_9 rfl ⟨rfl, rfl, Nat.le_of_ble_eq_true rfl, Nat.le_of_ble_eq_true rfl, (by show _ ≤ 83; omega), (by show _ ≤ 516; omega), Nat.le_of_ble_eq_true rfl⟩ dL_ring_237 ?_
  refine v_callSHi F (n := 4) (As := [_, _, _, _]) (rest := []) rfl (c_L_give G I.1 (show k < k + 1 by omega) (bl_lt _ h1J) (bl_lt _ (by decide))) wcw_give wml_L_39 wst_L_give wini_L (by decide +kernel) rfl ⟨rfl, rfl, Nat.le_of_ble_eq_true rfl, Nat.le_of_ble_eq_true rfl, (by show _ ≤ 83; omega), (by show _ ≤ 516; omega), Nat.le_of_ble_eq_true rfl⟩ dL_ring_240 ?_
  refine v_memI (P := fun M1 => RI (M1 0) J (k + 1) bt ln) (RI_gv I (by omega) (bl_lt _ h1J) (bl_lt _ (by decide))) (fun M I => ?_)
  refine v_pop F dL_ring_243 rfl ?_
  refine v_iload F dL_ring_244 0 rfl ?_
  refine v_iconst F (v := nI 3) dL_ring_246 (by decide) ?_
  refine v_ishr F dL_ring_247 ?_
  refine v_iconst F (v := nI 5) dL_ring_248 (by decide) ?_
  refine v_callSi F (As := [_, _]) (rest := []) rfl (c_L_below G _ (n := 5) (by decide) (by decide)) wm_L_9 rfl ⟨rfl, rfl, Nat.le_of_ble_eq_true rfl, Nat.le_of_ble_eq_true rfl, (by show _ ≤ 83; omega), (by show _ ≤ 516; omega), Nat.le_of_ble_eq_true rfl⟩ dL_ring_249 ?_
  refine v_if_ne F (tgt := 271) dL_ring_252 (by decide) (fun c252 => ?_) (fun c252 => ?_)
  · have := c252
    refine v_iinc F (k := 1) (nI (k + 1)) dL_ring_271 rfl (iinc_nI k) (by decide) (lv' := [(4, .int _), (5, .int _), (3, .int _), (2, .int _), (1, .ref _), (0, .ref _)]) rfl ?_
    refine v_goto F (tgt := 169) dL_ring_274 (by decide) ?_
    refine v_widen (k := 71 + (k + 1)) (n := 444 + 6 * (k + 1)) (by omega) (by omega) ?_
    exact v_locs [0, 2, 3, 4, 5] rfl (K M _ I hbt)
  · have := c252
    refine v_aload_n F dL_ring_255 rfl 4 rfl ?_
    refine v_iconst F (v := nI 1) dL_ring_256 (by decide) ?_
    refine v_iload F dL_ring_257 0 rfl ?_
    refine v_bipush F (v := nI 6) dL_ring_259 (by decide) ?_
    refine v_ishr F dL_ring_261 ?_
    refine v_iconst F (v := nI 3) dL_ring_262 (by decide) ?_
    refine v_callSi F (As := [_, _]) (rest := [.int _, .ref _]) rfl (c_L_below G _ (n := 3) (by decide) (by decide)) wm_L_9 rfl ⟨rfl, rfl, Nat.le_of_ble_eq_true rfl, Nat.le_of_ble_eq_true rfl, (by show _ ≤ 83; omega), (by show _ ≤ 516; omega), Nat.le_of_ble_eq_true rfl⟩ dL_ring_263 ?_
    refine v_iadd F dL_ring_266 ?_
    refine v_topr (nI (1 + bl (x >>> (nI 6 &&& 31)) 3)) (nI_add _ _) ?_
    refine v_callVi F (As := [_]) (rest := []) rfl (c_X4_go G I.1 (b := bt) (n := 1 + bl (x >>> (nI 6 &&& 31)) 3) (by omega) I.2.1 (by omega) (by omega)) Rv_H wm_L_43 rfl ⟨rfl, rfl, Nat.le_of_ble_eq_true rfl, Nat.le_of_ble_eq_true rfl, (by show _ ≤ 83; omega), (by show _ ≤ 516; omega), Nat.le_of_ble_eq_true rfl⟩ dL_ring_267 ?_
    refine v_pop F dL_ring_270 rfl ?_
    refine v_memI (P := fun M1 => RI (M1 0) J (k + 1) (bt + (1 + bl (x >>> (nI 6 &&& 31)) 3)) ln) (by rw [uC_at]; exact (RI_play _ (by omega) I).1) (fun M I => ?_)
    have hbt : bt + (1 + bl (x >>> (nI 6 &&& 31)) 3) ≤ 3 * (k + 1) := by omega
    refine v_iinc F (k := 1) (nI (k + 1)) dL_ring_271 rfl (iinc_nI k) (by decide) (lv' := [(4, .int _), (5, .int _), (3, .int _), (2, .int _), (1, .ref _), (0, .ref _)]) rfl ?_
    refine v_goto F (tgt := 169) dL_ring_274 (by decide) ?_
    refine v_widen (k := 71 + (k + 1)) (n := 444 + 6 * (k + 1)) (by omega) (by omega) ?_
    exact v_locs [0, 2, 3, 4, 5] rfl (K M _ I hbt)
set_option maxHeartbeats 4000000 in
set_option maxRecDepth 100000 in
theorem L3_L_ring (F : Fx p l s m args meth c cL_ring 7 RL X) (G : Gx X l) (hX : va_X b L xs s s.heap) (hbl : b < X.2.2.2) (hL : L < 2 ^ 31) {J T : Nat} (h1J : 1 ≤ J) (hJ : J ≤ 4) (hT : T ≤ 12) {ln : Nat → Nat} (K : ∀ (M : Mem) (bt : Nat), RI (M 0) J T bt ln → bt ≤ 3 * T → V p l e rm_L_ring s m args below meth c Q X 7 [] M lf (83) (516) 277 [(1, .ref (X.2.1 5 0 0)), (0, .ref b)] []) : ∀ (f k : Nat) (M : Mem) (bt : Nat), f + k = T → RI (M 0) J k bt ln → bt ≤ 3 * k → V p l e rm_L_ring s m args below meth c Q X 7 [] M lf (71 + k) (444 + 6 * k) 169 [(4, .int (nI k)), (3, .int (nI T)), (2, .int (nI J)), (1, .ref (X.2.1 5 0 0)), (0, .ref b)] [] := by
  intro f
  induction f with
  | zero =>
    intro k M bt hf I hbt
    obtain rfl : k = T := by omega
    refine v_iload F dL_ring_169 0 rfl ?_
    refine v_iload_n F dL_ring_171 rfl 1 rfl ?_
    refine v_icmp_ge F (tgt := 277) dL_ring_172 (by decide) (fun c172 => ?_) (fun h => absurd (nI_le (Nat.le_refl _) (by omega)) h)
    refine v_widen (k := 83) (n := 516) (by omega) (by omega) ?_
    exact v_locs [3, 4] rfl (K M bt I hbt)
  | succ f ih =>
    intro k M bt hf I hbt
    refine v_iload F dL_ring_169 0 rfl ?_
    refine v_iload_n F dL_ring_171 rfl 1 rfl ?_
    refine v_icmp_ge F (tgt := 277) dL_ring_172 (by decide) (fun h => absurd h (nI_ge (by omega) (by omega))) (fun c172 => ?_)
    refine v_aload_n F dL_ring_175 rfl 4 rfl ?_
    refine v_bipush F (v := nI 7) dL_ring_176 (by decide) ?_
    refine v_iload F dL_ring_178 0 rfl ?_
    refine v_iconst F (v := nI 4) dL_ring_180 (by decide) ?_
    refine v_irem F dL_ring_181 (nI_ne0 (by decide) (by decide)) ?_
    refine v_topr (nI (k % 4)) (pk_rem (by omega) (by decide) (by decide)) ?_
    refine v_iadd F dL_ring_182 ?_
    refine v_topr (nI (7 + k % 4)) (nI_add _ _) ?_
    refine v_callSs F hX hbl (As := [_, _]) (rest := []) rfl (c_L_cell G hbl (k := 7 + k % 4) (by omega) hL) wm_L_18 rfl ⟨rfl, rfl, Nat.le_of_ble_eq_true rfl, Nat.le_of_ble_eq_true rfl, (by show _ ≤ 83; omega), (by show _ ≤ 516; omega), Nat.le_of_ble_eq_true rfl⟩ dL_ring_183 ?_
    refine v_iload F dL_ring_186 0 rfl ?_
    refine v_iconst F (v := nI 4) dL_ring_188 (by decide) ?_
    refine v_idiv F dL_ring_189 (nI_ne0 (by decide) (by decide)) ?_
    refine v_topr (nI (k / 4)) (pk_div (by omega) (by decide) (by decide)) ?_
    refine v_iconst F (v := nI 5) dL_ring_190 (by decide) ?_
    refine v_imul F dL_ring_191 ?_
    refine v_ishr F dL_ring_192 ?_
    refine v_istore F dL_ring_193 (by decide) (lv' := [(5, .int _), (4, .int _), (3, .int _), (2, .int _), (1, .ref _), (0, .ref _)]) rfl ?_
    refine v_genx (fun x => ?_)
    refine v_aload_n F dL_ring_195 rfl 4 rfl ?_
    refine v_iload F dL_ring_196 0 rfl ?_
    refine v_iconst F (v := nI 2) dL_ring_198 (by decide) ?_
    refine v_callSi F (As := [_, _]) (rest := [.ref _]) rfl (c_L_below G _ (n := 2) (by decide) (by decide)) wm_L_9 rfl ⟨rfl, rfl, Nat.le_of_ble_eq_true rfl, Nat.le_of_ble_eq_true rfl, (by show _ ≤ 83; omega), (by show _ ≤ 516; omega), Nat.le_of_ble_eq_true rfl⟩ dL_ring_199 ?_
    refine v_if_ne F (tgt := 209) dL_ring_202 (by decide) (fun c202 => ?_) (fun c202 => ?_)
    · have := c202
      refine v_iload F dL_ring_209 0 rfl ?_
      refine v_iconst F (v := nI 1) dL_ring_211 (by decide) ?_
      refine v_ishr F dL_ring_212 ?_
      refine v_iconst F (v := nI 3) dL_ring_213 (by decide) ?_
      refine v_callSi F (As := [_, _]) (rest := [.ref _]) rfl (c_L_below G _ (n := 3) (by decide) (by decide)) wm_L_9 rfl ⟨rfl, rfl, Nat.le_of_ble_eq_true rfl, Nat.le_of_ble_eq_true rfl, (by show _ ≤ 83; omega), (by show _ ≤ 516; omega), Nat.le_of_ble_eq_true rfl⟩ dL_ring_214 ?_
      exact L3b_L_ring F G h1J hJ hT (show k < T by omega) hbt (kd := bl (x >>> (nI 1 &&& 31)) 3) (bl_lt _ (by decide)) (fun M bt I hbt => ih (k + 1) M bt (by omega) I hbt) I
    · have := c202
      refine v_iconst F (v := nI 0) dL_ring_205 (by decide) ?_
      refine v_goto F (tgt := 217) dL_ring_206 (by decide) ?_
      exact L3b_L_ring F G h1J hJ hT (show k < T by omega) hbt (kd := 0) (by decide) (fun M bt I hbt => ih (k + 1) M bt (by omega) I hbt) I
set_option maxHeartbeats 4000000 in
set_option maxRecDepth 100000 in
theorem L0_L_ring (F : Fx p l s m args meth c cL_ring 7 RL X) (G : Gx X l) (hX : va_X b L xs s s.heap) (hbl : b < X.2.2.2) (hL : L < 2 ^ 31) (hbase : X.2.2.2 = s.heap.size) (hr : meth.sig.returnType = some (.object "HammerEggs")) (I : RI (M 0) 0 0 0 (fun _ => 1)) : V p l e rm_L_ring s m args below meth c (QR X.1 X.2.2.1 below args s 83 516) X 7 [] M lf 71 444 8 [(1, .ref (X.2.1 5 0 0)), (0, .ref b)] [] := by
  refine v_iconst F (v := nI 1) dL_ring_8 (by decide) ?_
  refine v_aload_n F dL_ring_9 rfl 1 rfl ?_
  refine v_iconst F (v := nI 0) dL_ring_10 (by decide) ?_
  refine v_callSs F hX hbl (As := [_, _]) (rest := [.int _]) rfl (c_L_cell G hbl (k := 0) (by omega) hL) wm_L_18 rfl ⟨rfl, rfl, Nat.le_of_ble_eq_true rfl, Nat.le_of_ble_eq_true rfl, Nat.le_of_ble_eq_true rfl, Nat.le_of_ble_eq_true rfl, Nat.le_of_ble_eq_true rfl⟩ dL_ring_11 ?_
  refine v_iconst F (v := nI 4) dL_ring_14 (by decide) ?_
  refine v_callSi F (As := [_, _]) (rest := [.int _]) rfl (c_L_below G _ (n := 4) (by decide) (by decide)) wm_L_9 rfl ⟨rfl, rfl, Nat.le_of_ble_eq_true rfl, Nat.le_of_ble_eq_true rfl, Nat.le_of_ble_eq_true rfl, Nat.le_of_ble_eq_true rfl, Nat.le_of_ble_eq_true rfl⟩ dL_ring_15 ?_
  refine v_iadd F dL_ring_18 ?_
  refine v_topr (nI (1 + bl (fCell xs L 0) 4)) (nI_add _ _) ?_
  refine v_istore_n F dL_ring_19 rfl (by decide) (lv' := [(2, .int _), (1, .ref _), (0, .ref _)]) rfl ?_
  have hJ : 1 + bl (fCell xs L 0) 4 ≤ 4 := by have := bl_lt (fCell xs L 0) (n := 4) (by decide); omega
  generalize hJ0 : 1 + bl (fCell xs L 0) 4 = J at hJ
  have h1J : 1 ≤ J := by omega
  refine v_iconst F (v := nI 0) dL_ring_20 (by decide) ?_
  refine v_istore_n F dL_ring_21 rfl (by decide) (lv' := [(3, .int _), (2, .int _), (1, .ref _), (0, .ref _)]) rfl ?_
  refine L1_L_ring F G hX hbl hL hJ (fun M ln I => ?_) J 0 M _ (Nat.add_zero J) I
  · skip
    refine v_iconst F (v := nI 0) dL_ring_54 (by decide) ?_
    refine v_istore_n F dL_ring_55 rfl (by decide) (lv' := [(3, .int _), (2, .int _), (1, .ref _), (0, .ref _)]) rfl ?_
    refine L2_L_ring F G hX hbl hL h1J hJ (fun M ln I => ?_) J 0 M _ (Nat.add_zero J) I
    · skip
      refine v_aload_n F dL_ring_154 rfl 2 rfl ?_
      refine v_bipush F (v := nI 6) dL_ring_155 (by decide) ?_
      refine v_callSs F hX hbl (As := [_, _]) (rest := []) rfl (c_L_cell G hbl (k := 6) (by omega) hL) wm_L_18 rfl ⟨rfl, rfl, Nat.le_of_ble_eq_true rfl, Nat.le_of_ble_eq_true rfl, Nat.le_of_ble_eq_true rfl, Nat.le_of_ble_eq_true rfl, Nat.le_of_ble_eq_true rfl⟩ dL_ring_157 ?_
      refine v_bipush F (v := nI 13) dL_ring_160 (by decide) ?_
      refine v_callSi F (As := [_, _]) (rest := []) rfl (c_L_below G _ (n := 13) (by decide) (by decide)) wm_L_9 rfl ⟨rfl, rfl, Nat.le_of_ble_eq_true rfl, Nat.le_of_ble_eq_true rfl, Nat.le_of_ble_eq_true rfl, Nat.le_of_ble_eq_true rfl, Nat.le_of_ble_eq_true rfl⟩ dL_ring_162 ?_
      refine v_istore_n F dL_ring_165 rfl (by decide) (lv' := [(3, .int _), (2, .int _), (1, .ref _), (0, .ref _)]) rfl ?_
      have hT : bl (fCell xs L 6) 13 ≤ 12 := by have := bl_lt (fCell xs L 6) (n := 13) (by decide); omega
      generalize hT0 : bl (fCell xs L 6) 13 = T at hT
      refine v_iconst F (v := nI 0) dL_ring_166 (by decide) ?_
      refine v_istore F dL_ring_167 (by decide) (lv' := [(4, .int _), (3, .int _), (2, .int _), (1, .ref _), (0, .ref _)]) rfl ?_
      refine L3_L_ring F G hX hbl hL h1J hJ hT (fun M bt I hbt => ?_) T 0 M 0 (Nat.add_zero T) I (Nat.le_refl 0)
      · skip
        refine v_aload_n F dL_ring_277 rfl 0 rfl ?_
        exact v_aret F hr hbase ⟨_, _, _, _, h1J, I, by omega⟩ dL_ring_278
end RG
set_option maxHeartbeats 4000000 in
set_option maxRecDepth 100000 in
theorem c_L_ring {l : Launch} (hst : l.stackTraces = false) {D : va_G} {ca : Nat → ClassId} {b L : Nat} {xs : Nat → Int32} (hL : L < 2 ^ 31) (sz : Nat) : Met l yL_ring (wsc yL_ring cL_ring 7 (some (.object "HammerEggs"))) rm_L_ring (va_Pc [.ref b] (RP D ca b L xs sz)) (RQ D ca sz) 83 516 (fun q => sz ≤ q) := by
  refine Met.ofW (cc := cL_ring) (maxL := 7) (ret := some (.object "HammerEggs")) (by decide) rfl ?_
  intro p e s m args below meth c s₁ B hml hv
  obtain ⟨rfl, hsz, hKC, hX, hbl⟩ := hv
  subst hsz
  have F : FU p s m [Value.ref b].toArray meth c cL_ring 7 RL D ca s.heap.size (fun q => s.heap.size ≤ q) := ⟨⟨B.exec, B.bytes, hml, findClass_of_methodNamed B.named, fun w hw => atoms_spec (ws := wsc yL_ring cL_ring 7 (some (.object "HammerEggs"))) B.pre w (List.mem_cons_of_mem _ hw)⟩, hKC, B.notSynchronized, fun q h => h, fun q h => h⟩
  have hr := B.returns
  have hl := lv_entry ([.ref b]) (n := 7) (Nat.le_of_ble_eq_true rfl)
  rw [lg_entry_eq]
  have U : UU p l e rm_L_ring s m [Value.ref b].toArray below meth c (QR D ca below [Value.ref b].toArray s 83 516) D (fun q => s.heap.size ≤ q) 7 [] 0 0 0 [(0, .ref b)] [] := by
    refine u_new F (ci := 4) tyX4 tyX4_ok uw_X4 wcl_L_15 win_X4 wini_X4 rfl (fs := [.null, .null]) (fun j hj => by rcases (show j = 0 ∨ j = 1 by omega) with rfl | rfl <;> rfl) (Nat.le_of_ble_eq_true rfl) (Nat.le_of_ble_eq_true rfl) dL_ring_0 (fun qX4 => ?_)
    refine u_dup F dL_ring_3 rfl ?_
    refine u_initI F (n := 0) (As := []) (rest := [.ref _]) rfl (n_X4 (D := D) (ca := ca) (base := s.heap.size) (l := l)) wc_X4_init wml_L_17 wi_X4_init wini_X4 rfl (by decide +kernel) rfl ⟨rfl, rfl, Nat.le_of_ble_eq_true rfl, Nat.le_of_ble_eq_true rfl, Nat.le_of_ble_eq_true rfl, Nat.le_of_ble_eq_true rfl, Nat.le_of_ble_eq_true rfl⟩ dL_ring_4 (fun bw hbw => ?_)
    obtain ⟨aN, aT, rfl⟩ := hbw
    refine u_astore_n F dL_ring_7 rfl (by decide) (lv' := [(1, .ref _), (0, .ref _)]) rfl ?_
    refine u_re (w' := ([] ++ [(qX4, .inr (4, [.ref (aN 0 0), .ref (aT 0 0)]))]) ++ (wR aN ca σR ++ wR aT ca σR)) (by simp only [List.nil_append, List.cons_append]) ?_
    refine u_swap ?_
    refine u_re (w' := wl (mkX D ca s.heap.size aN aT qX4) M0 lf0) (by rw [mk_wl]; simp only [List.nil_append, List.append_assoc]) ?_
    refine u_toV F rfl (fun hok => ?_)
    have F2 : Fx p l s m [Value.ref b].toArray meth c cL_ring 7 RL (mkX D ca s.heap.size aN aT qX4) := ⟨F.1, hKC.1, hok, B.notSynchronized, hst⟩
    exact L0_L_ring F2 ⟨hok, hst⟩ hX hbl hL rfl hr RI0
  exact U s.heap [] _ (fun k q h => by simp at h) ⟨fun i j p q h => by simp at h, fun k q h => by simp at h⟩ va_S.rf hl
