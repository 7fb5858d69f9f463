/-! ===== the law: beats go by; each thing ===== -/
section LGO
variable {p : Program} {l : Launch} {e : Env} {s : State} {m : MethodId} {below : List Frame} {meth : Method} {c : Code} {Q : State → Prop} {X : Cx} {M : Mem} {lf : Lf} {b L : Nat} {xs : Nat → Int32}
set_option maxHeartbeats 4000000 in
set_option maxRecDepth 100000 in
theorem law_go (F : Fx p l s m #[Value.ref b] meth c cL_law 28 RL X) (G : Gx X l) {C S t jc tc bt n q : Nat} {r : Nat → Nat} {g : Nat → Nat → Int32} {σ : Sg} {ln : Nat → Nat} (hC : C ≤ 787500) (hS0 : S ≤ 6738968) (hM : M 0 = σ) (I : RI σ jc tc bt ln) (hbt : bt ≤ 1000) (h1n : 1 ≤ n) (hn4 : n ≤ 4) (K : ∀ M : Mem, M 0 = plL bt jc tc ln σ n → V p l e room_1 s m #[Value.ref b] below meth c Q X 28 (exR X q jc r g) (M) lf (C) (S) 652 [(15, .ref q), (5, .int (nI tc)), (4, .int (nI jc)), (2, .int (nI t)), (1, .ref (X.2.1 5 0 0)), (0, .ref b)] [])  : V p l e room_1 s m #[Value.ref b] below meth c Q X 28 (exR X q jc r g) (M) lf (C) (S) 594 [(15, .ref q), (14, .int (nI bt)), (11, .int (plR bt jc tc ln σ n)), (10, .int (fIn (plL bt jc tc ln σ n) tc 2)), (7, .int (nI n)), (5, .int (nI tc)), (4, .int (nI jc)), (2, .int (nI t)), (1, .ref (X.2.1 5 0 0)), (0, .ref b)] [] := by
  have IP := RI_play n (by omega) I
  have hS : Shp (M 0) jc tc ln := by rw [hM]; exact I.1
  have hB0 : M 0 0 0 4 = nI bt := by rw [hM]; exact I.2.1
  refine v_aload_n F dL_law_594 rfl 8 rfl ?_
  refine v_bipush F (v := nI 7) dL_law_595 (by decide) ?_
  refine v_callVi F (As := [_]) (rest := []) rfl (c_X4_count G hS (q := 7) (by decide)) Rv_H wm_L_54 rfl ⟨rfl, rfl, Nat.le_of_ble_eq_true rfl, Nat.le_of_ble_eq_true rfl, (by show _ ≤ 787500; omega), (by show _ ≤ 6738968; omega), Nat.le_of_ble_eq_true rfl⟩ dL_law_597 ?_
  refine v_topr (sFel σ tc) (by rw [hM]; rfl) ?_
  refine v_istore F dL_law_600 (by decide) (lv' := [(16, .int _), (15, .ref _), (14, .int _), (11, .int _), (10, .int _), (7, .int _), (5, .int _), (4, .int _), (2, .int _), (1, .ref _), (0, .ref _)]) rfl ?_
  refine v_aload_n F dL_law_602 rfl 9 rfl ?_
  refine v_iload F dL_law_603 5 rfl ?_
  refine v_callVi F (As := [_]) (rest := []) rfl (c_X4_go G hS (b := bt) (n := n) (by omega) hB0 h1n (by omega)) Rv_H wm_L_43 rfl ⟨rfl, rfl, Nat.le_of_ble_eq_true rfl, Nat.le_of_ble_eq_true rfl, (by show _ ≤ 787500; omega), (by show _ ≤ 6738968; omega), Nat.le_of_ble_eq_true rfl⟩ dL_law_605 ?_
  refine v_topr (plR bt jc tc ln σ n) (by rw [hM]) ?_
  refine v_memI (P := fun M1 => M1 0 = plL bt jc tc ln σ n) (by rw [uC_at, hM]) (fun M hM => ?_)
  have hS : Shp (M 0) jc tc ln := by rw [hM]; exact IP.1.1
  refine v_iload F dL_law_608 3 rfl ?_
  refine v_icmp_ne F (tgt := 650) dL_law_610 (by decide) (fun h => absurd (rfl) h) (fun c610 => ?_)
  refine v_aload_n F dL_law_613 rfl 9 rfl ?_
  refine v_bipush F (v := nI 7) dL_law_614 (by decide) ?_
  refine v_callVi F (As := [_]) (rest := []) rfl (c_X4_count G hS (q := 7) (by decide)) Rv_H wm_L_54 rfl ⟨rfl, rfl, Nat.le_of_ble_eq_true rfl, Nat.le_of_ble_eq_true rfl, (by show _ ≤ 787500; omega), (by show _ ≤ 6738968; omega), Nat.le_of_ble_eq_true rfl⟩ dL_law_616 ?_
  refine v_topr (sFel (plL bt jc tc ln σ n) tc) (by rw [hM]; rfl) ?_
  refine v_iload F dL_law_619 0 rfl ?_
  refine v_iload F dL_law_621 3 rfl ?_
  refine v_iadd F dL_law_623 ?_
  refine v_icmp_ne F (tgt := 650) dL_law_624 (by decide) (fun h => absurd (IP.2.1) h) (fun c624 => ?_)
  refine v_aload_n F dL_law_627 rfl 9 rfl ?_
  refine v_iconst F (v := nI 4) dL_law_628 (by decide) ?_
  refine v_callVi F (As := [_]) (rest := []) rfl (c_X4_count G hS (q := 4) (by decide)) Rv_H wm_L_54 rfl ⟨rfl, rfl, Nat.le_of_ble_eq_true rfl, Nat.le_of_ble_eq_true rfl, (by show _ ≤ 787500; omega), (by show _ ≤ 6738968; omega), Nat.le_of_ble_eq_true rfl⟩ dL_law_629 ?_
  refine v_topr (fIn (plL bt jc tc ln σ n) tc 2) (by rw [hM]; rfl) ?_
  refine v_iload F dL_law_632 4 rfl ?_
  refine v_icmp_ne F (tgt := 650) dL_law_634 (by decide) (fun h => absurd (rfl) h) (fun c634 => ?_)
  refine v_aload_n F dL_law_637 rfl 9 rfl ?_
  refine v_iconst F (v := nI 0) dL_law_638 (by decide) ?_
  refine v_callVi F (As := [_]) (rest := []) rfl (c_X4_count G hS (q := 0) (by decide)) Rv_H wm_L_54 rfl ⟨rfl, rfl, Nat.le_of_ble_eq_true rfl, Nat.le_of_ble_eq_true rfl, (by show _ ≤ 787500; omega), (by show _ ≤ 6738968; omega), Nat.le_of_ble_eq_true rfl⟩ dL_law_639 ?_
  refine v_topr (nI (bt + n)) (by rw [hM]; exact IP.1.2.1) ?_
  refine v_iload F dL_law_642 2 rfl ?_
  refine v_iload F dL_law_644 5 rfl ?_
  refine v_iadd F dL_law_646 ?_
  refine v_topr (nI (bt + n)) (nI_add _ _) ?_
  refine v_icmp_eq F (tgt := 652) dL_law_647 (by decide) (fun c647 => ?_) (fun h => absurd (rfl) h)
  exact v_locs [1, 6, 7, 8, 9, 10] rfl (K M hM)
set_option maxHeartbeats 4000000 in
set_option maxRecDepth 100000 in
theorem th1 (F : Fx p l s m #[Value.ref b] meth c cL_law 28 RL X) (G : Gx X l) {C S t jc tc q a a2 k : Nat} {r : Nat → Nat} {g : Nat → Nat → Int32} {fa fb : Nat → Int32} {σ : Sg} {ln : Nat → Nat} (hC : C ≤ 787500) (hS0 : S ≤ 6738968) (hM : M 0 = σ) (hS : Shp (M 0) jc tc ln) (hk : k < tc) {w : Nat} (hw : w < 4) (e1 : σ 8 k 1 = nI w) (K : V p l e room_1 s m #[Value.ref b] below meth c Q X 28 (exE X q jc r g a (upd fa w (fa w + nI 1)) a2 fb) (M) lf (C) (S) 784 [(27, .int (fTellT σ k 4)), (26, .int (σ 8 k 3)), (25, .int (σ 8 k 2)), (24, .int (nI w)), (23, .int (σ 8 k 0)), (22, .int (nI k)), (21, .ref a2), (20, .int (sHam σ (k + 1))), (19, .int (sFel σ (k + 1))), (18, .int (sThr σ (k + 1))), (17, .ref a), (15, .ref q), (5, .int (nI tc)), (4, .int (nI jc)), (2, .int (nI t)), (1, .ref (X.2.1 5 0 0)), (0, .ref b)] [])  : V p l e room_1 s m #[Value.ref b] below meth c Q X 28 (exE X q jc r g a fa a2 fb) (M) lf (C) (S) 682 [(22, .int (nI k)), (21, .ref a2), (20, .int (sHam σ k)), (19, .int (sFel σ k)), (18, .int (sThr σ k)), (17, .ref a), (15, .ref q), (5, .int (nI tc)), (4, .int (nI jc)), (2, .int (nI t)), (1, .ref (X.2.1 5 0 0)), (0, .ref b)] [] := by
  have h4 := hS.1
  have h12 := hS.2.1
  refine v_aload_n F dL_law_682 rfl 10 rfl ?_
  refine v_iload F dL_law_683 0 rfl ?_
  refine v_iconst F (v := nI 0) dL_law_685 (by decide) ?_
  refine v_callVi F (As := [_, _]) (rest := []) rfl (c_X4_thing G hS hk (q := 0) (by decide)) Rv_H wm_L_79 rfl ⟨rfl, rfl, Nat.le_of_ble_eq_true rfl, Nat.le_of_ble_eq_true rfl, (by show _ ≤ 787500; omega), (by show _ ≤ 6738968; omega), Nat.le_of_ble_eq_true rfl⟩ dL_law_686 ?_
  refine v_topr (σ 8 k 0) (by rw [hM]; rfl) ?_
  refine v_istore F dL_law_689 (by decide) (lv' := [(23, .int _), (22, .int _), (21, .ref _), (20, .int _), (19, .int _), (18, .int _), (17, .ref _), (15, .ref _), (5, .int _), (4, .int _), (2, .int _), (1, .ref _), (0, .ref _)]) rfl ?_
  refine v_aload_n F dL_law_691 rfl 11 rfl ?_
  refine v_iload F dL_law_692 1 rfl ?_
  refine v_iconst F (v := nI 1) dL_law_694 (by decide) ?_
  refine v_callVi F (As := [_, _]) (rest := []) rfl (c_X4_thing G hS hk (q := 1) (by decide)) Rv_H wm_L_79 rfl ⟨rfl, rfl, Nat.le_of_ble_eq_true rfl, Nat.le_of_ble_eq_true rfl, (by show _ ≤ 787500; omega), (by show _ ≤ 6738968; omega), Nat.le_of_ble_eq_true rfl⟩ dL_law_695 ?_
  refine v_topr (nI w) (by rw [hM]; exact e1) ?_
  refine v_istore F dL_law_698 (by decide) (lv' := [(24, .int _), (23, .int _), (22, .int _), (21, .ref _), (20, .int _), (19, .int _), (18, .int _), (17, .ref _), (15, .ref _), (5, .int _), (4, .int _), (2, .int _), (1, .ref _), (0, .ref _)]) rfl ?_
  refine v_aload_n F dL_law_700 rfl 12 rfl ?_
  refine v_iload F dL_law_701 2 rfl ?_
  refine v_iconst F (v := nI 2) dL_law_703 (by decide) ?_
  refine v_callVi F (As := [_, _]) (rest := []) rfl (c_X4_thing G hS hk (q := 2) (by decide)) Rv_H wm_L_79 rfl ⟨rfl, rfl, Nat.le_of_ble_eq_true rfl, Nat.le_of_ble_eq_true rfl, (by show _ ≤ 787500; omega), (by show _ ≤ 6738968; omega), Nat.le_of_ble_eq_true rfl⟩ dL_law_704 ?_
  refine v_topr (σ 8 k 2) (by rw [hM]; rfl) ?_
  refine v_istore F dL_law_707 (by decide) (lv' := [(25, .int _), (24, .int _), (23, .int _), (22, .int _), (21, .ref _), (20, .int _), (19, .int _), (18, .int _), (17, .ref _), (15, .ref _), (5, .int _), (4, .int _), (2, .int _), (1, .ref _), (0, .ref _)]) rfl ?_
  refine v_aload_n F dL_law_709 rfl 13 rfl ?_
  refine v_iload F dL_law_710 3 rfl ?_
  refine v_iconst F (v := nI 3) dL_law_712 (by decide) ?_
  refine v_callVi F (As := [_, _]) (rest := []) rfl (c_X4_thing G hS hk (q := 3) (by decide)) Rv_H wm_L_79 rfl ⟨rfl, rfl, Nat.le_of_ble_eq_true rfl, Nat.le_of_ble_eq_true rfl, (by show _ ≤ 787500; omega), (by show _ ≤ 6738968; omega), Nat.le_of_ble_eq_true rfl⟩ dL_law_713 ?_
  refine v_topr (σ 8 k 3) (by rw [hM]; rfl) ?_
  refine v_istore F dL_law_716 (by decide) (lv' := [(26, .int _), (25, .int _), (24, .int _), (23, .int _), (22, .int _), (21, .ref _), (20, .int _), (19, .int _), (18, .int _), (17, .ref _), (15, .ref _), (5, .int _), (4, .int _), (2, .int _), (1, .ref _), (0, .ref _)]) rfl ?_
  refine v_aload_n F dL_law_718 rfl 14 rfl ?_
  refine v_iload F dL_law_719 4 rfl ?_
  refine v_iconst F (v := nI 4) dL_law_721 (by decide) ?_
  refine v_callVi F (As := [_, _]) (rest := []) rfl (c_X4_thing G hS hk (q := 4) (by decide)) Rv_H wm_L_79 rfl ⟨rfl, rfl, Nat.le_of_ble_eq_true rfl, Nat.le_of_ble_eq_true rfl, (by show _ ≤ 787500; omega), (by show _ ≤ 6738968; omega), Nat.le_of_ble_eq_true rfl⟩ dL_law_722 ?_
  refine v_topr (fTellT σ k 4) (by rw [hM]) ?_
  refine v_istore F dL_law_725 (by decide) (lv' := [(27, .int _), (26, .int _), (25, .int _), (24, .int _), (23, .int _), (22, .int _), (21, .ref _), (20, .int _), (19, .int _), (18, .int _), (17, .ref _), (15, .ref _), (5, .int _), (4, .int _), (2, .int _), (1, .ref _), (0, .ref _)]) rfl ?_
  refine v_aload F dL_law_727 10 rfl ?_
  refine v_iload F dL_law_729 3 rfl ?_
  refine v_dup2_11 F dL_law_731 rfl rfl ?_
  refine v_xald F (jc + 1) exE_a w (Ix_nI hw) dL_law_732 ?_
  refine v_iconst F (v := nI 1) dL_law_733 (by decide) ?_
  refine v_iadd F dL_law_734 ?_
  refine v_xast F (jc + 1) exE_a w (Ix_nI hw) exE_sa dL_law_735 ?_
  refine v_iload F dL_law_736 9 rfl ?_
  refine v_aload_n F dL_law_738 rfl 15 rfl ?_
  refine v_iload F dL_law_739 5 rfl ?_
  refine v_iconst F (v := nI 5) dL_law_741 (by decide) ?_
  refine v_callVi F (As := [_, _]) (rest := [.int _]) rfl (c_X4_thing G hS hk (q := 5) (by decide)) Rv_H wm_L_79 rfl ⟨rfl, rfl, Nat.le_of_ble_eq_true rfl, Nat.le_of_ble_eq_true rfl, (by show _ ≤ 787500; omega), (by show _ ≤ 6738968; omega), Nat.le_of_ble_eq_true rfl⟩ dL_law_742 ?_
  refine v_topr (σ 8 k 6) (by rw [hM]; rfl) ?_
  refine v_iadd F dL_law_745 ?_
  refine v_topr (sThr σ (k + 1)) rfl ?_
  refine v_istore F dL_law_746 (by decide) (lv' := [(18, .int _), (27, .int _), (26, .int _), (25, .int _), (24, .int _), (23, .int _), (22, .int _), (21, .ref _), (20, .int _), (19, .int _), (17, .ref _), (15, .ref _), (5, .int _), (4, .int _), (2, .int _), (1, .ref _), (0, .ref _)]) rfl ?_
  refine v_iload F dL_law_748 9 rfl ?_
  refine v_aload_n F dL_law_750 rfl 15 rfl ?_
  refine v_iload F dL_law_751 6 rfl ?_
  refine v_bipush F (v := nI 6) dL_law_753 (by decide) ?_
  refine v_callVi F (As := [_, _]) (rest := [.int _]) rfl (c_X4_thing G hS hk (q := 6) (by decide)) Rv_H wm_L_79 rfl ⟨rfl, rfl, Nat.le_of_ble_eq_true rfl, Nat.le_of_ble_eq_true rfl, (by show _ ≤ 787500; omega), (by show _ ≤ 6738968; omega), Nat.le_of_ble_eq_true rfl⟩ dL_law_755 ?_
  refine v_topr (σ 8 k 7) (by rw [hM]; rfl) ?_
  refine v_iadd F dL_law_758 ?_
  refine v_topr (sFel σ (k + 1)) rfl ?_
  refine v_istore F dL_law_759 (by decide) (lv' := [(19, .int _), (18, .int _), (27, .int _), (26, .int _), (25, .int _), (24, .int _), (23, .int _), (22, .int _), (21, .ref _), (20, .int _), (17, .ref _), (15, .ref _), (5, .int _), (4, .int _), (2, .int _), (1, .ref _), (0, .ref _)]) rfl ?_
  refine v_iload F dL_law_761 9 rfl ?_
  refine v_iload F dL_law_763 6 rfl ?_
  refine v_iconst F (v := 1) dL_law_765 (by decide) ?_
  refine v_icmp_ne F (tgt := 780) dL_law_766 (by decide) (fun c766 => ?_) (fun c766 => ?_)
  · have := c766
    refine v_iconst F (v := 0) dL_law_780 (by decide) ?_
    refine v_iadd F dL_law_781 ?_
    refine v_topr (sHam σ (k + 1)) (by show _ = sHam σ k + hamF σ k; unfold hamF; first | rw [if_pos c766] | rw [if_neg c766]) ?_
    refine v_istore F dL_law_782 (by decide) (lv' := [(20, .int _), (19, .int _), (18, .int _), (27, .int _), (26, .int _), (25, .int _), (24, .int _), (23, .int _), (22, .int _), (21, .ref _), (17, .ref _), (15, .ref _), (5, .int _), (4, .int _), (2, .int _), (1, .ref _), (0, .ref _)]) rfl ?_
    exact v_locs [3, 4, 5, 6, 7, 8, 9, 0, 1, 2, 10, 11, 12, 13, 14, 15, 16] rfl (K)
  · have := c766
    refine v_aload_n F dL_law_769 rfl 15 rfl ?_
    refine v_iload F dL_law_770 7 rfl ?_
    refine v_bipush F (v := nI 6) dL_law_772 (by decide) ?_
    refine v_callVi F (As := [_, _]) (rest := [.int _]) rfl (c_X4_thing G hS hk (q := 6) (by decide)) Rv_H wm_L_79 rfl ⟨rfl, rfl, Nat.le_of_ble_eq_true rfl, Nat.le_of_ble_eq_true rfl, (by show _ ≤ 787500; omega), (by show _ ≤ 6738968; omega), Nat.le_of_ble_eq_true rfl⟩ dL_law_774 ?_
    refine v_topr (σ 8 k 7) (by rw [hM]; rfl) ?_
    refine v_goto F (tgt := 781) dL_law_777 (by decide) ?_
    refine v_iadd F dL_law_781 ?_
    refine v_topr (sHam σ (k + 1)) (by show _ = sHam σ k + hamF σ k; unfold hamF; first | rw [if_pos c766] | rw [if_neg c766]) ?_
    refine v_istore F dL_law_782 (by decide) (lv' := [(20, .int _), (19, .int _), (18, .int _), (27, .int _), (26, .int _), (25, .int _), (24, .int _), (23, .int _), (22, .int _), (21, .ref _), (17, .ref _), (15, .ref _), (5, .int _), (4, .int _), (2, .int _), (1, .ref _), (0, .ref _)]) rfl ?_
    exact v_locs [3, 4, 5, 6, 7, 8, 9, 0, 1, 2, 10, 11, 12, 13, 14, 15, 16] rfl (K)
set_option maxHeartbeats 4000000 in
set_option maxRecDepth 100000 in
theorem th2_0e (F : Fx p l s m #[Value.ref b] meth c cL_law 28 RL X) (G : Gx X l) {C S t jc tc q a a2 k : Nat} {r : Nat → Nat} {g : Nat → Nat → Int32} {fa fb : Nat → Int32} {σ : Sg} {ln : Nat → Nat} (hC : C ≤ 787500) (hS0 : S ≤ 6738968) (hM : M 0 = σ) (hS : Shp (M 0) jc tc ln) (hk : k < tc) (hk2 : σ 8 k 0 = 2) (e7 : σ 8 k 7 = 0) (K : V p l e room_1 s m #[Value.ref b] below meth c Q X 28 (exE X q jc r g a fa a2 fb) (M) lf (C) (S) 962 [(22, .int (nI k)), (21, .ref a2), (20, .int (sHam σ (k + 1))), (19, .int (sFel σ (k + 1))), (18, .int (sThr σ (k + 1))), (17, .ref a), (15, .ref q), (5, .int (nI tc)), (4, .int (nI jc)), (2, .int (nI t)), (1, .ref (X.2.1 5 0 0)), (0, .ref b)] [])  : V p l e room_1 s m #[Value.ref b] below meth c Q X 28 (exE X q jc r g a fa a2 fb) (M) lf (C) (S) 784 [(27, .int (-1)), (26, .int (-1)), (25, .int (-1)), (24, .int (nI 0)), (23, .int (σ 8 k 0)), (22, .int (nI k)), (21, .ref a2), (20, .int (sHam σ (k + 1))), (19, .int (sFel σ (k + 1))), (18, .int (sThr σ (k + 1))), (17, .ref a), (15, .ref q), (5, .int (nI tc)), (4, .int (nI jc)), (2, .int (nI t)), (1, .ref (X.2.1 5 0 0)), (0, .ref b)] [] := by
  have h4 := hS.1
  have h12 := hS.2.1
  refine v_iload F dL_law_784 3 rfl ?_
  refine v_iconst F (v := nI 2) dL_law_786 (by decide) ?_
  refine v_icmp_ne F (tgt := 799) dL_law_787 (by decide) (fun c787 => ?_) (fun h => absurd h ((by decide)))
  refine v_iload F dL_law_799 3 rfl ?_
  refine v_iconst F (v := nI 1) dL_law_801 (by decide) ?_
  refine v_icmp_eq F (tgt := 811) dL_law_802 (by decide) (fun h => absurd h ((by decide))) (fun c802 => ?_)
  refine v_iload F dL_law_805 3 rfl ?_
  refine v_iconst F (v := nI 2) dL_law_807 (by decide) ?_
  refine v_icmp_ne F (tgt := 815) dL_law_808 (by decide) (fun c808 => ?_) (fun h => absurd h ((by decide)))
  refine v_iconst F (v := 0) dL_law_815 (by decide) ?_
  refine v_iload F dL_law_816 2 rfl ?_
  refine v_if_lt F (tgt := 825) dL_law_818 (by decide) (fun c818 => ?_) (fun h => absurd ((by decide)) h)
  refine v_iconst F (v := 0) dL_law_825 (by decide) ?_
  refine v_icmp_ne F (tgt := 960) dL_law_826 (by decide) (fun h => absurd (rfl) h) (fun c826 => ?_)
  refine v_iload F dL_law_829 3 rfl ?_
  refine v_iconst F (v := nI 1) dL_law_831 (by decide) ?_
  refine v_icmp_ne F (tgt := 839) dL_law_832 (by decide) (fun c832 => ?_) (fun h => absurd h ((by decide)))
  refine v_iconst F (v := 0) dL_law_839 (by decide) ?_
  refine v_iload F dL_law_840 1 rfl ?_
  refine v_if_lt F (tgt := 849) dL_law_842 (by decide) (fun c842 => ?_) (fun h => absurd ((by decide)) h)
  refine v_iconst F (v := 0) dL_law_849 (by decide) ?_
  refine v_icmp_ne F (tgt := 960) dL_law_850 (by decide) (fun h => absurd (rfl) h) (fun c850 => ?_)
  refine v_iload F dL_law_853 3 rfl ?_
  refine v_iconst F (v := nI 2) dL_law_855 (by decide) ?_
  refine v_icmp_ne F (tgt := 863) dL_law_856 (by decide) (fun c856 => ?_) (fun h => absurd h ((by decide)))
  refine v_iconst F (v := 0) dL_law_863 (by decide) ?_
  refine v_iload F dL_law_864 0 rfl ?_
  refine v_if_lt F (tgt := 873) dL_law_866 (by decide) (fun c866 => ?_) (fun h => absurd ((by decide)) h)
  refine v_iconst F (v := 0) dL_law_873 (by decide) ?_
  refine v_icmp_ne F (tgt := 960) dL_law_874 (by decide) (fun h => absurd (rfl) h) (fun c874 => ?_)
  refine v_iload F dL_law_877 0 rfl ?_
  refine v_bipush F (v := nI 9) dL_law_879 (by decide) ?_
  refine v_icmp_gt F (tgt := 960) dL_law_881 (by decide) (fun h => absurd h ((by decide))) (fun c881 => ?_)
  refine v_iload F dL_law_884 3 rfl ?_
  refine v_iconst F (v := nI 3) dL_law_886 (by decide) ?_
  refine v_icmp_ne F (tgt := 894) dL_law_887 (by decide) (fun c887 => ?_) (fun h => absurd h ((by decide)))
  refine v_iconst F (v := 0) dL_law_894 (by decide) ?_
  refine v_iload F dL_law_895 4 rfl ?_
  refine v_iconst F (v := 2) dL_law_897 (by decide) ?_
  refine v_icmp_ne F (tgt := 917) dL_law_898 (by decide) (fun h => absurd (hk2) h) (fun c898 => ?_)
  refine v_aload_n F dL_law_901 rfl 15 rfl ?_
  refine v_iload F dL_law_902 5 rfl ?_
  refine v_bipush F (v := nI 6) dL_law_904 (by decide) ?_
  refine v_callVi F (As := [_, _]) (rest := [.int _]) rfl (c_X4_thing G hS hk (q := 6) (by decide)) Rv_H wm_L_79 rfl ⟨rfl, rfl, Nat.le_of_ble_eq_true rfl, Nat.le_of_ble_eq_true rfl, (by show _ ≤ 787500; omega), (by show _ ≤ 6738968; omega), Nat.le_of_ble_eq_true rfl⟩ dL_law_906 ?_
  refine v_topr (σ 8 k 7) (by rw [hM]; rfl) ?_
  refine v_iconst F (v := 1) dL_law_909 (by decide) ?_
  refine v_icmp_ne F (tgt := 917) dL_law_910 (by decide) (fun c910 => ?_) (fun h => absurd h ((by rw [e7]; decide)))
  refine v_iconst F (v := 0) dL_law_917 (by decide) ?_
  refine v_icmp_ne F (tgt := 960) dL_law_918 (by decide) (fun h => absurd (rfl) h) (fun c918 => ?_)
  refine v_iload F dL_law_921 4 rfl ?_
  refine v_iconst F (v := 2) dL_law_923 (by decide) ?_
  refine v_icmp_ne F (tgt := 939) dL_law_924 (by decide) (fun h => absurd (hk2) h) (fun c924 => ?_)
  refine v_aload_n F dL_law_927 rfl 15 rfl ?_
  refine v_iload F dL_law_928 5 rfl ?_
  refine v_bipush F (v := nI 6) dL_law_930 (by decide) ?_
  refine v_callVi F (As := [_, _]) (rest := []) rfl (c_X4_thing G hS hk (q := 6) (by decide)) Rv_H wm_L_79 rfl ⟨rfl, rfl, Nat.le_of_ble_eq_true rfl, Nat.le_of_ble_eq_true rfl, (by show _ ≤ 787500; omega), (by show _ ≤ 6738968; omega), Nat.le_of_ble_eq_true rfl⟩ dL_law_932 ?_
  refine v_topr (σ 8 k 7) (by rw [hM]; rfl) ?_
  refine v_iconst F (v := 1) dL_law_935 (by decide) ?_
  refine v_icmp_gt F (tgt := 960) dL_law_936 (by decide) (fun h => absurd h ((by rw [e7]; decide))) (fun c936 => ?_)
  refine v_iload F dL_law_939 3 rfl ?_
  refine v_iconst F (v := nI 1) dL_law_941 (by decide) ?_
  refine v_icmp_ne F (tgt := 962) dL_law_942 (by decide) (fun c942 => ?_) (fun h => absurd h ((by decide)))
  exact v_locs [5, 6, 7, 8, 9, 10, 11, 12, 13, 14, 15, 16] rfl (K)
set_option maxHeartbeats 4000000 in
set_option maxRecDepth 100000 in
theorem th2_0n (F : Fx p l s m #[Value.ref b] meth c cL_law 28 RL X) (G : Gx X l) {C S t jc tc q a a2 k : Nat} {r : Nat → Nat} {g : Nat → Nat → Int32} {fa fb : Nat → Int32} {σ : Sg} {ln : Nat → Nat} (hC : C ≤ 787500) (hS0 : S ≤ 6738968) (hM : M 0 = σ) (hS : Shp (M 0) jc tc ln) (hk : k < tc) (hk2 : ¬ σ 8 k 0 = 2) (K : V p l e room_1 s m #[Value.ref b] below meth c Q X 28 (exE X q jc r g a fa a2 fb) (M) lf (C) (S) 962 [(22, .int (nI k)), (21, .ref a2), (20, .int (sHam σ (k + 1))), (19, .int (sFel σ (k + 1))), (18, .int (sThr σ (k + 1))), (17, .ref a), (15, .ref q), (5, .int (nI tc)), (4, .int (nI jc)), (2, .int (nI t)), (1, .ref (X.2.1 5 0 0)), (0, .ref b)] [])  : V p l e room_1 s m #[Value.ref b] below meth c Q X 28 (exE X q jc r g a fa a2 fb) (M) lf (C) (S) 784 [(27, .int (-1)), (26, .int (-1)), (25, .int (-1)), (24, .int (nI 0)), (23, .int (σ 8 k 0)), (22, .int (nI k)), (21, .ref a2), (20, .int (sHam σ (k + 1))), (19, .int (sFel σ (k + 1))), (18, .int (sThr σ (k + 1))), (17, .ref a), (15, .ref q), (5, .int (nI tc)), (4, .int (nI jc)), (2, .int (nI t)), (1, .ref (X.2.1 5 0 0)), (0, .ref b)] [] := by
  have h4 := hS.1
  have h12 := hS.2.1
  refine v_iload F dL_law_784 3 rfl ?_
  refine v_iconst F (v := nI 2) dL_law_786 (by decide) ?_
  refine v_icmp_ne F (tgt := 799) dL_law_787 (by decide) (fun c787 => ?_) (fun h => absurd h ((by decide)))
  refine v_iload F dL_law_799 3 rfl ?_
  refine v_iconst F (v := nI 1) dL_law_801 (by decide) ?_
  refine v_icmp_eq F (tgt := 811) dL_law_802 (by decide) (fun h => absurd h ((by decide))) (fun c802 => ?_)
  refine v_iload F dL_law_805 3 rfl ?_
  refine v_iconst F (v := nI 2) dL_law_807 (by decide) ?_
  refine v_icmp_ne F (tgt := 815) dL_law_808 (by decide) (fun c808 => ?_) (fun h => absurd h ((by decide)))
  refine v_iconst F (v := 0) dL_law_815 (by decide) ?_
  refine v_iload F dL_law_816 2 rfl ?_
  refine v_if_lt F (tgt := 825) dL_law_818 (by decide) (fun c818 => ?_) (fun h => absurd ((by decide)) h)
  refine v_iconst F (v := 0) dL_law_825 (by decide) ?_
  refine v_icmp_ne F (tgt := 960) dL_law_826 (by decide) (fun h => absurd (rfl) h) (fun c826 => ?_)
  refine v_iload F dL_law_829 3 rfl ?_
  refine v_iconst F (v := nI 1) dL_law_831 (by decide) ?_
  refine v_icmp_ne F (tgt := 839) dL_law_832 (by decide) (fun c832 => ?_) (fun h => absurd h ((by decide)))
  refine v_iconst F (v := 0) dL_law_839 (by decide) ?_
  refine v_iload F dL_law_840 1 rfl ?_
  refine v_if_lt F (tgt := 849) dL_law_842 (by decide) (fun c842 => ?_) (fun h => absurd ((by decide)) h)
  refine v_iconst F (v := 0) dL_law_849 (by decide) ?_
  refine v_icmp_ne F (tgt := 960) dL_law_850 (by decide) (fun h => absurd (rfl) h) (fun c850 => ?_)
  refine v_iload F dL_law_853 3 rfl ?_
  refine v_iconst F (v := nI 2) dL_law_855 (by decide) ?_
  refine v_icmp_ne F (tgt := 863) dL_law_856 (by decide) (fun c856 => ?_) (fun h => absurd h ((by decide)))
  refine v_iconst F (v := 0) dL_law_863 (by decide) ?_
  refine v_iload F dL_law_864 0 rfl ?_
  refine v_if_lt F (tgt := 873) dL_law_866 (by decide) (fun c866 => ?_) (fun h => absurd ((by decide)) h)
  refine v_iconst F (v := 0) dL_law_873 (by decide) ?_
  refine v_icmp_ne F (tgt := 960) dL_law_874 (by decide) (fun h => absurd (rfl) h) (fun c874 => ?_)
  refine v_iload F dL_law_877 0 rfl ?_
  refine v_bipush F (v := nI 9) dL_law_879 (by decide) ?_
  refine v_icmp_gt F (tgt := 960) dL_law_881 (by decide) (fun h => absurd h ((by decide))) (fun c881 => ?_)
  refine v_iload F dL_law_884 3 rfl ?_
  refine v_iconst F (v := nI 3) dL_law_886 (by decide) ?_
  refine v_icmp_ne F (tgt := 894) dL_law_887 (by decide) (fun c887 => ?_) (fun h => absurd h ((by decide)))
  refine v_iconst F (v := 0) dL_law_894 (by decide) ?_
  refine v_iload F dL_law_895 4 rfl ?_
  refine v_iconst F (v := 2) dL_law_897 (by decide) ?_
  refine v_icmp_ne F (tgt := 917) dL_law_898 (by decide) (fun c898 => ?_) (fun h => absurd h (hk2))
  refine v_iconst F (v := 0) dL_law_917 (by decide) ?_
  refine v_icmp_ne F (tgt := 960) dL_law_918 (by decide) (fun h => absurd (rfl) h) (fun c918 => ?_)
  refine v_iload F dL_law_921 4 rfl ?_
  refine v_iconst F (v := 2) dL_law_923 (by decide) ?_
  refine v_icmp_ne F (tgt := 939) dL_law_924 (by decide) (fun c924 => ?_) (fun h => absurd h (hk2))
  refine v_iload F dL_law_939 3 rfl ?_
  refine v_iconst F (v := nI 1) dL_law_941 (by decide) ?_
  refine v_icmp_ne F (tgt := 962) dL_law_942 (by decide) (fun c942 => ?_) (fun h => absurd h ((by decide)))
  exact v_locs [5, 6, 7, 8, 9, 10, 11, 12, 13, 14, 15, 16] rfl (K)
set_option maxHeartbeats 4000000 in
set_option maxRecDepth 100000 in
theorem th2_1e (F : Fx p l s m #[Value.ref b] meth c cL_law 28 RL X) (G : Gx X l) {C S t jc tc q a a2 k : Nat} {r : Nat → Nat} {g : Nat → Nat → Int32} {fa fb : Nat → Int32} {σ : Sg} {ln : Nat → Nat} (hC : C ≤ 787500) (hS0 : S ≤ 6738968) (hM : M 0 = σ) (hS : Shp (M 0) jc tc ln) (hk : k < tc) {i h : Nat} (hi : i < jc) (hh : h < 2) (e6 : σ 6 i h = nI k) (hk2 : σ 8 k 0 = 2) (e7 : σ 8 k 7 = 0) (K : V p l e room_1 s m #[Value.ref b] below meth c Q X 28 (exE X q jc r g a fa a2 fb) (M) lf (C) (S) 962 [(22, .int (nI k)), (21, .ref a2), (20, .int (sHam σ (k + 1))), (19, .int (sFel σ (k + 1))), (18, .int (sThr σ (k + 1))), (17, .ref a), (15, .ref q), (5, .int (nI tc)), (4, .int (nI jc)), (2, .int (nI t)), (1, .ref (X.2.1 5 0 0)), (0, .ref b)] [])  : V p l e room_1 s m #[Value.ref b] below meth c Q X 28 (exE X q jc r g a fa a2 fb) (M) lf (C) (S) 784 [(27, .int (-1)), (26, .int (nI h)), (25, .int (nI i)), (24, .int (nI 1)), (23, .int (σ 8 k 0)), (22, .int (nI k)), (21, .ref a2), (20, .int (sHam σ (k + 1))), (19, .int (sFel σ (k + 1))), (18, .int (sThr σ (k + 1))), (17, .ref a), (15, .ref q), (5, .int (nI tc)), (4, .int (nI jc)), (2, .int (nI t)), (1, .ref (X.2.1 5 0 0)), (0, .ref b)] [] := by
  have h4 := hS.1
  have h12 := hS.2.1
  refine v_iload F dL_law_784 3 rfl ?_
  refine v_iconst F (v := nI 2) dL_law_786 (by decide) ?_
  refine v_icmp_ne F (tgt := 799) dL_law_787 (by decide) (fun c787 => ?_) (fun h => absurd h ((by decide)))
  refine v_iload F dL_law_799 3 rfl ?_
  refine v_iconst F (v := nI 1) dL_law_801 (by decide) ?_
  refine v_icmp_eq F (tgt := 811) dL_law_802 (by decide) (fun c802 => ?_) (fun h => absurd (rfl) h)
  refine v_iconst F (v := 1) dL_law_811 (by decide) ?_
  refine v_goto F (tgt := 816) dL_law_812 (by decide) ?_
  refine v_iload F dL_law_816 2 rfl ?_
  refine v_if_lt F (tgt := 825) dL_law_818 (by decide) (fun h => absurd h ((nI_pos (by omega)))) (fun c818 => ?_)
  refine v_iconst F (v := 1) dL_law_821 (by decide) ?_
  refine v_goto F (tgt := 826) dL_law_822 (by decide) ?_
  refine v_icmp_ne F (tgt := 960) dL_law_826 (by decide) (fun h => absurd (rfl) h) (fun c826 => ?_)
  refine v_iload F dL_law_829 3 rfl ?_
  refine v_iconst F (v := nI 1) dL_law_831 (by decide) ?_
  refine v_icmp_ne F (tgt := 839) dL_law_832 (by decide) (fun h => absurd (rfl) h) (fun c832 => ?_)
  refine v_iconst F (v := 1) dL_law_835 (by decide) ?_
  refine v_goto F (tgt := 840) dL_law_836 (by decide) ?_
  refine v_iload F dL_law_840 1 rfl ?_
  refine v_if_lt F (tgt := 849) dL_law_842 (by decide) (fun h => absurd h ((nI_pos (by omega)))) (fun c842 => ?_)
  refine v_iconst F (v := 1) dL_law_845 (by decide) ?_
  refine v_goto F (tgt := 850) dL_law_846 (by decide) ?_
  refine v_icmp_ne F (tgt := 960) dL_law_850 (by decide) (fun h => absurd (rfl) h) (fun c850 => ?_)
  refine v_iload F dL_law_853 3 rfl ?_
  refine v_iconst F (v := nI 2) dL_law_855 (by decide) ?_
  refine v_icmp_ne F (tgt := 863) dL_law_856 (by decide) (fun c856 => ?_) (fun h => absurd h ((by decide)))
  refine v_iconst F (v := 0) dL_law_863 (by decide) ?_
  refine v_iload F dL_law_864 0 rfl ?_
  refine v_if_lt F (tgt := 873) dL_law_866 (by decide) (fun c866 => ?_) (fun h => absurd ((by decide)) h)
  refine v_iconst F (v := 0) dL_law_873 (by decide) ?_
  refine v_icmp_ne F (tgt := 960) dL_law_874 (by decide) (fun h => absurd (rfl) h) (fun c874 => ?_)
  refine v_iload F dL_law_877 0 rfl ?_
  refine v_bipush F (v := nI 9) dL_law_879 (by decide) ?_
  refine v_icmp_gt F (tgt := 960) dL_law_881 (by decide) (fun h => absurd h ((by decide))) (fun c881 => ?_)
  refine v_iload F dL_law_884 3 rfl ?_
  refine v_iconst F (v := nI 3) dL_law_886 (by decide) ?_
  refine v_icmp_ne F (tgt := 894) dL_law_887 (by decide) (fun c887 => ?_) (fun h => absurd h ((by decide)))
  refine v_iconst F (v := 0) dL_law_894 (by decide) ?_
  refine v_iload F dL_law_895 4 rfl ?_
  refine v_iconst F (v := 2) dL_law_897 (by decide) ?_
  refine v_icmp_ne F (tgt := 917) dL_law_898 (by decide) (fun h => absurd (hk2) h) (fun c898 => ?_)
  refine v_aload_n F dL_law_901 rfl 15 rfl ?_
  refine v_iload F dL_law_902 5 rfl ?_
  refine v_bipush F (v := nI 6) dL_law_904 (by decide) ?_
  refine v_callVi F (As := [_, _]) (rest := [.int _]) rfl (c_X4_thing G hS hk (q := 6) (by decide)) Rv_H wm_L_79 rfl ⟨rfl, rfl, Nat.le_of_ble_eq_true rfl, Nat.le_of_ble_eq_true rfl, (by show _ ≤ 787500; omega), (by show _ ≤ 6738968; omega), Nat.le_of_ble_eq_true rfl⟩ dL_law_906 ?_
  refine v_topr (σ 8 k 7) (by rw [hM]; rfl) ?_
  refine v_iconst F (v := 1) dL_law_909 (by decide) ?_
  refine v_icmp_ne F (tgt := 917) dL_law_910 (by decide) (fun c910 => ?_) (fun h => absurd h ((by rw [e7]; decide)))
  refine v_iconst F (v := 0) dL_law_917 (by decide) ?_
  refine v_icmp_ne F (tgt := 960) dL_law_918 (by decide) (fun h => absurd (rfl) h) (fun c918 => ?_)
  refine v_iload F dL_law_921 4 rfl ?_
  refine v_iconst F (v := 2) dL_law_923 (by decide) ?_
  refine v_icmp_ne F (tgt := 939) dL_law_924 (by decide) (fun h => absurd (hk2) h) (fun c924 => ?_)
  refine v_aload_n F dL_law_927 rfl 15 rfl ?_
  refine v_iload F dL_law_928 5 rfl ?_
  refine v_bipush F (v := nI 6) dL_law_930 (by decide) ?_
  refine v_callVi F (As := [_, _]) (rest := []) rfl (c_X4_thing G hS hk (q := 6) (by decide)) Rv_H wm_L_79 rfl ⟨rfl, rfl, Nat.le_of_ble_eq_true rfl, Nat.le_of_ble_eq_true rfl, (by show _ ≤ 787500; omega), (by show _ ≤ 6738968; omega), Nat.le_of_ble_eq_true rfl⟩ dL_law_932 ?_
  refine v_topr (σ 8 k 7) (by rw [hM]; rfl) ?_
  refine v_iconst F (v := 1) dL_law_935 (by decide) ?_
  refine v_icmp_gt F (tgt := 960) dL_law_936 (by decide) (fun h => absurd h ((by rw [e7]; decide))) (fun c936 => ?_)
  refine v_iload F dL_law_939 3 rfl ?_
  refine v_iconst F (v := nI 1) dL_law_941 (by decide) ?_
  refine v_icmp_ne F (tgt := 962) dL_law_942 (by decide) (fun h => absurd (rfl) h) (fun c942 => ?_)
  refine v_aload_n F dL_law_945 rfl 15 rfl ?_
  refine v_iload F dL_law_946 2 rfl ?_
  refine v_iconst F (v := nI 2) dL_law_948 (by decide) ?_
  refine v_iload F dL_law_949 1 rfl ?_
  refine v_iadd F dL_law_951 ?_
  refine v_topr (nI (2 + h)) (nI_add _ _) ?_
  refine v_callVi F (As := [_, _]) (rest := []) rfl (c_X4_juggler G hS hi (q := 2 + h) (by omega)) Rv_H wm_L_57 rfl ⟨rfl, rfl, Nat.le_of_ble_eq_true rfl, Nat.le_of_ble_eq_true rfl, (by show _ ≤ 787500; omega), (by show _ ≤ 6738968; omega), Nat.le_of_ble_eq_true rfl⟩ dL_law_952 ?_
  refine v_topr (nI k) (by rw [hM]; exact (tellJ_h hh).trans e6) ?_
  refine v_iload F dL_law_955 5 rfl ?_
  refine v_icmp_eq F (tgt := 962) dL_law_957 (by decide) (fun c957 => ?_) (fun h => absurd (rfl) h)
  exact v_locs [5, 6, 7, 8, 9, 10, 11, 12, 13, 14, 15, 16] rfl (K)
set_option maxHeartbeats 4000000 in
set_option maxRecDepth 100000 in
theorem th2_1n (F : Fx p l s m #[Value.ref b] meth c cL_law 28 RL X) (G : Gx X l) {C S t jc tc q a a2 k : Nat} {r : Nat → Nat} {g : Nat → Nat → Int32} {fa fb : Nat → Int32} {σ : Sg} {ln : Nat → Nat} (hC : C ≤ 787500) (hS0 : S ≤ 6738968) (hM : M 0 = σ) (hS : Shp (M 0) jc tc ln) (hk : k < tc) {i h : Nat} (hi : i < jc) (hh : h < 2) (e6 : σ 6 i h = nI k) (hk2 : ¬ σ 8 k 0 = 2) (K : V p l e room_1 s m #[Value.ref b] below meth c Q X 28 (exE X q jc r g a fa a2 fb) (M) lf (C) (S) 962 [(22, .int (nI k)), (21, .ref a2), (20, .int (sHam σ (k + 1))), (19, .int (sFel σ (k + 1))), (18, .int (sThr σ (k + 1))), (17, .ref a), (15, .ref q), (5, .int (nI tc)), (4, .int (nI jc)), (2, .int (nI t)), (1, .ref (X.2.1 5 0 0)), (0, .ref b)] [])  : V p l e room_1 s m #[Value.ref b] below meth c Q X 28 (exE X q jc r g a fa a2 fb) (M) lf (C) (S) 784 [(27, .int (-1)), (26, .int (nI h)), (25, .int (nI i)), (24, .int (nI 1)), (23, .int (σ 8 k 0)), (22, .int (nI k)), (21, .ref a2), (20, .int (sHam σ (k + 1))), (19, .int (sFel σ (k + 1))), (18, .int (sThr σ (k + 1))), (17, .ref a), (15, .ref q), (5, .int (nI tc)), (4, .int (nI jc)), (2, .int (nI t)), (1, .ref (X.2.1 5 0 0)), (0, .ref b)] [] := by
  have h4 := hS.1
  have h12 := hS.2.1
  refine v_iload F dL_law_784 3 rfl ?_
  refine v_iconst F (v := nI 2) dL_law_786 (by decide) ?_
  refine v_icmp_ne F (tgt := 799) dL_law_787 (by decide) (fun c787 => ?_) (fun h => absurd h ((by decide)))
  refine v_iload F dL_law_799 3 rfl ?_
  refine v_iconst F (v := nI 1) dL_law_801 (by decide) ?_
  refine v_icmp_eq F (tgt := 811) dL_law_802 (by decide) (fun c802 => ?_) (fun h => absurd (rfl) h)
  refine v_iconst F (v := 1) dL_law_811 (by decide) ?_
  refine v_goto F (tgt := 816) dL_law_812 (by decide) ?_
  refine v_iload F dL_law_816 2 rfl ?_
  refine v_if_lt F (tgt := 825) dL_law_818 (by decide) (fun h => absurd h ((nI_pos (by omega)))) (fun c818 => ?_)
  refine v_iconst F (v := 1) dL_law_821 (by decide) ?_
  refine v_goto F (tgt := 826) dL_law_822 (by decide) ?_
  refine v_icmp_ne F (tgt := 960) dL_law_826 (by decide) (fun h => absurd (rfl) h) (fun c826 => ?_)
  refine v_iload F dL_law_829 3 rfl ?_
  refine v_iconst F (v := nI 1) dL_law_831 (by decide) ?_
  refine v_icmp_ne F (tgt := 839) dL_law_832 (by decide) (fun h => absurd (rfl) h) (fun c832 => ?_)
  refine v_iconst F (v := 1) dL_law_835 (by decide) ?_
  refine v_goto F (tgt := 840) dL_law_836 (by decide) ?_
  refine v_iload F dL_law_840 1 rfl ?_
  refine v_if_lt F (tgt := 849) dL_law_842 (by decide) (fun h => absurd h ((nI_pos (by omega)))) (fun c842 => ?_)
  refine v_iconst F (v := 1) dL_law_845 (by decide) ?_
  refine v_goto F (tgt := 850) dL_law_846 (by decide) ?_
  refine v_icmp_ne F (tgt := 960) dL_law_850 (by decide) (fun h => absurd (rfl) h) (fun c850 => ?_)
  refine v_iload F dL_law_853 3 rfl ?_
  refine v_iconst F (v := nI 2) dL_law_855 (by decide) ?_
  refine v_icmp_ne F (tgt := 863) dL_law_856 (by decide) (fun c856 => ?_) (fun h => absurd h ((by decide)))
  refine v_iconst F (v := 0) dL_law_863 (by decide) ?_
  refine v_iload F dL_law_864 0 rfl ?_
  refine v_if_lt F (tgt := 873) dL_law_866 (by decide) (fun c866 => ?_) (fun h => absurd ((by decide)) h)
  refine v_iconst F (v := 0) dL_law_873 (by decide) ?_
  refine v_icmp_ne F (tgt := 960) dL_law_874 (by decide) (fun h => absurd (rfl) h) (fun c874 => ?_)
  refine v_iload F dL_law_877 0 rfl ?_
  refine v_bipush F (v := nI 9) dL_law_879 (by decide) ?_
  refine v_icmp_gt F (tgt := 960) dL_law_881 (by decide) (fun h => absurd h ((by decide))) (fun c881 => ?_)
  refine v_iload F dL_law_884 3 rfl ?_
  refine v_iconst F (v := nI 3) dL_law_886 (by decide) ?_
  refine v_icmp_ne F (tgt := 894) dL_law_887 (by decide) (fun c887 => ?_) (fun h => absurd h ((by decide)))
  refine v_iconst F (v := 0) dL_law_894 (by decide) ?_
  refine v_iload F dL_law_895 4 rfl ?_
  refine v_iconst F (v := 2) dL_law_897 (by decide) ?_
  refine v_icmp_ne F (tgt := 917) dL_law_898 (by decide) (fun c898 => ?_) (fun h => absurd h (hk2))
  refine v_iconst F (v := 0) dL_law_917 (by decide) ?_
  refine v_icmp_ne F (tgt := 960) dL_law_918 (by decide) (fun h => absurd (rfl) h) (fun c918 => ?_)
  refine v_iload F dL_law_921 4 rfl ?_
  refine v_iconst F (v := 2) dL_law_923 (by decide) ?_
  refine v_icmp_ne F (tgt := 939) dL_law_924 (by decide) (fun c924 => ?_) (fun h => absurd h (hk2))
  refine v_iload F dL_law_939 3 rfl ?_
  refine v_iconst F (v := nI 1) dL_law_941 (by decide) ?_
  refine v_icmp_ne F (tgt := 962) dL_law_942 (by decide) (fun h => absurd (rfl) h) (fun c942 => ?_)
  refine v_aload_n F dL_law_945 rfl 15 rfl ?_
  refine v_iload F dL_law_946 2 rfl ?_
  refine v_iconst F (v := nI 2) dL_law_948 (by decide) ?_
  refine v_iload F dL_law_949 1 rfl ?_
  refine v_iadd F dL_law_951 ?_
  refine v_topr (nI (2 + h)) (nI_add _ _) ?_
  refine v_callVi F (As := [_, _]) (rest := []) rfl (c_X4_juggler G hS hi (q := 2 + h) (by omega)) Rv_H wm_L_57 rfl ⟨rfl, rfl, Nat.le_of_ble_eq_true rfl, Nat.le_of_ble_eq_true rfl, (by show _ ≤ 787500; omega), (by show _ ≤ 6738968; omega), Nat.le_of_ble_eq_true rfl⟩ dL_law_952 ?_
  refine v_topr (nI k) (by rw [hM]; exact (tellJ_h hh).trans e6) ?_
  refine v_iload F dL_law_955 5 rfl ?_
  refine v_icmp_eq F (tgt := 962) dL_law_957 (by decide) (fun c957 => ?_) (fun h => absurd (rfl) h)
  exact v_locs [5, 6, 7, 8, 9, 10, 11, 12, 13, 14, 15, 16] rfl (K)
set_option maxHeartbeats 4000000 in
set_option maxRecDepth 100000 in
theorem th2_2e (F : Fx p l s m #[Value.ref b] meth c cL_law 28 RL X) (G : Gx X l) {C S t jc tc q a a2 k : Nat} {r : Nat → Nat} {g : Nat → Nat → Int32} {fa fb : Nat → Int32} {σ : Sg} {ln : Nat → Nat} (hC : C ≤ 787500) (hS0 : S ≤ 6738968) (hM : M 0 = σ) (hS : Shp (M 0) jc tc ln) (hk : k < tc) {i d : Nat} (hi : i < jc) (h9 : d ≤ 9) (hk2 : σ 8 k 0 = 2) (e7 : σ 8 k 7 = 0) (K : V p l e room_1 s m #[Value.ref b] below meth c Q X 28 (exE X q jc r g a fa a2 (upd fb i (fb i + nI 1))) (M) lf (C) (S) 962 [(22, .int (nI k)), (21, .ref a2), (20, .int (sHam σ (k + 1))), (19, .int (sFel σ (k + 1))), (18, .int (sThr σ (k + 1))), (17, .ref a), (15, .ref q), (5, .int (nI tc)), (4, .int (nI jc)), (2, .int (nI t)), (1, .ref (X.2.1 5 0 0)), (0, .ref b)] [])  : V p l e room_1 s m #[Value.ref b] below meth c Q X 28 (exE X q jc r g a fa a2 fb) (M) lf (C) (S) 784 [(27, .int (nI d)), (26, .int (-1)), (25, .int (nI i)), (24, .int (nI 2)), (23, .int (σ 8 k 0)), (22, .int (nI k)), (21, .ref a2), (20, .int (sHam σ (k + 1))), (19, .int (sFel σ (k + 1))), (18, .int (sThr σ (k + 1))), (17, .ref a), (15, .ref q), (5, .int (nI tc)), (4, .int (nI jc)), (2, .int (nI t)), (1, .ref (X.2.1 5 0 0)), (0, .ref b)] [] := by
  have h4 := hS.1
  have h12 := hS.2.1
  refine v_iload F dL_law_784 3 rfl ?_
  refine v_iconst F (v := nI 2) dL_law_786 (by decide) ?_
  refine v_icmp_ne F (tgt := 799) dL_law_787 (by decide) (fun h => absurd (rfl) h) (fun c787 => ?_)
  refine v_aload F dL_law_790 6 rfl ?_
  refine v_iload F dL_law_792 2 rfl ?_
  refine v_dup2_11 F dL_law_794 rfl rfl ?_
  refine v_xald F (jc + 2) exE_b i (Ix_nI hi (by omega)) dL_law_795 ?_
  refine v_iconst F (v := nI 1) dL_law_796 (by decide) ?_
  refine v_iadd F dL_law_797 ?_
  refine v_xast F (jc + 2) exE_b i (Ix_nI hi (by omega)) exE_sb dL_law_798 ?_
  refine v_iload F dL_law_799 3 rfl ?_
  refine v_iconst F (v := nI 1) dL_law_801 (by decide) ?_
  refine v_icmp_eq F (tgt := 811) dL_law_802 (by decide) (fun h => absurd h ((by decide))) (fun c802 => ?_)
  refine v_iload F dL_law_805 3 rfl ?_
  refine v_iconst F (v := nI 2) dL_law_807 (by decide) ?_
  refine v_icmp_ne F (tgt := 815) dL_law_808 (by decide) (fun h => absurd (rfl) h) (fun c808 => ?_)
  refine v_iconst F (v := 1) dL_law_811 (by decide) ?_
  refine v_goto F (tgt := 816) dL_law_812 (by decide) ?_
  refine v_iload F dL_law_816 2 rfl ?_
  refine v_if_lt F (tgt := 825) dL_law_818 (by decide) (fun h => absurd h ((nI_pos (by omega)))) (fun c818 => ?_)
  refine v_iconst F (v := 1) dL_law_821 (by decide) ?_
  refine v_goto F (tgt := 826) dL_law_822 (by decide) ?_
  refine v_icmp_ne F (tgt := 960) dL_law_826 (by decide) (fun h => absurd (rfl) h) (fun c826 => ?_)
  refine v_iload F dL_law_829 3 rfl ?_
  refine v_iconst F (v := nI 1) dL_law_831 (by decide) ?_
  refine v_icmp_ne F (tgt := 839) dL_law_832 (by decide) (fun c832 => ?_) (fun h => absurd h ((by decide)))
  refine v_iconst F (v := 0) dL_law_839 (by decide) ?_
  refine v_iload F dL_law_840 1 rfl ?_
  refine v_if_lt F (tgt := 849) dL_law_842 (by decide) (fun c842 => ?_) (fun h => absurd ((by decide)) h)
  refine v_iconst F (v := 0) dL_law_849 (by decide) ?_
  refine v_icmp_ne F (tgt := 960) dL_law_850 (by decide) (fun h => absurd (rfl) h) (fun c850 => ?_)
  refine v_iload F dL_law_853 3 rfl ?_
  refine v_iconst F (v := nI 2) dL_law_855 (by decide) ?_
  refine v_icmp_ne F (tgt := 863) dL_law_856 (by decide) (fun h => absurd (rfl) h) (fun c856 => ?_)
  refine v_iconst F (v := 1) dL_law_859 (by decide) ?_
  refine v_goto F (tgt := 864) dL_law_860 (by decide) ?_
  refine v_iload F dL_law_864 0 rfl ?_
  refine v_if_lt F (tgt := 873) dL_law_866 (by decide) (fun h => absurd h ((nI_pos (by omega)))) (fun c866 => ?_)
  refine v_iconst F (v := 1) dL_law_869 (by decide) ?_
  refine v_goto F (tgt := 874) dL_law_870 (by decide) ?_
  refine v_icmp_ne F (tgt := 960) dL_law_874 (by decide) (fun h => absurd (rfl) h) (fun c874 => ?_)
  refine v_iload F dL_law_877 0 rfl ?_
  refine v_bipush F (v := nI 9) dL_law_879 (by decide) ?_
  refine v_icmp_gt F (tgt := 960) dL_law_881 (by decide) (fun h => absurd h ((nI_nlt h9 (by omega)))) (fun c881 => ?_)
  refine v_iload F dL_law_884 3 rfl ?_
  refine v_iconst F (v := nI 3) dL_law_886 (by decide) ?_
  refine v_icmp_ne F (tgt := 894) dL_law_887 (by decide) (fun c887 => ?_) (fun h => absurd h ((by decide)))
  refine v_iconst F (v := 0) dL_law_894 (by decide) ?_
  refine v_iload F dL_law_895 4 rfl ?_
  refine v_iconst F (v := 2) dL_law_897 (by decide) ?_
  refine v_icmp_ne F (tgt := 917) dL_law_898 (by decide) (fun h => absurd (hk2) h) (fun c898 => ?_)
  refine v_aload_n F dL_law_901 rfl 15 rfl ?_
  refine v_iload F dL_law_902 5 rfl ?_
  refine v_bipush F (v := nI 6) dL_law_904 (by decide) ?_
  refine v_callVi F (As := [_, _]) (rest := [.int _]) rfl (c_X4_thing G hS hk (q := 6) (by decide)) Rv_H wm_L_79 rfl ⟨rfl, rfl, Nat.le_of_ble_eq_true rfl, Nat.le_of_ble_eq_true rfl, (by show _ ≤ 787500; omega), (by show _ ≤ 6738968; omega), Nat.le_of_ble_eq_true rfl⟩ dL_law_906 ?_
  refine v_topr (σ 8 k 7) (by rw [hM]; rfl) ?_
  refine v_iconst F (v := 1) dL_law_909 (by decide) ?_
  refine v_icmp_ne F (tgt := 917) dL_law_910 (by decide) (fun c910 => ?_) (fun h => absurd h ((by rw [e7]; decide)))
  refine v_iconst F (v := 0) dL_law_917 (by decide) ?_
  refine v_icmp_ne F (tgt := 960) dL_law_918 (by decide) (fun h => absurd (rfl) h) (fun c918 => ?_)
  refine v_iload F dL_law_921 4 rfl ?_
  refine v_iconst F (v := 2) dL_law_923 (by decide) ?_
  refine v_icmp_ne F (tgt := 939) dL_law_924 (by decide) (fun h => absurd (hk2) h) (fun c924 => ?_)
  refine v_aload_n F dL_law_927 rfl 15 rfl ?_
  refine v_iload F dL_law_928 5 rfl ?_
  refine v_bipush F (v := nI 6) dL_law_930 (by decide) ?_
  refine v_callVi F (As := [_, _]) (rest := []) rfl (c_X4_thing G hS hk (q := 6) (by decide)) Rv_H wm_L_79 rfl ⟨rfl, rfl, Nat.le_of_ble_eq_true rfl, Nat.le_of_ble_eq_true rfl, (by show _ ≤ 787500; omega), (by show _ ≤ 6738968; omega), Nat.le_of_ble_eq_true rfl⟩ dL_law_932 ?_
  refine v_topr (σ 8 k 7) (by rw [hM]; rfl) ?_
  refine v_iconst F (v := 1) dL_law_935 (by decide) ?_
  refine v_icmp_gt F (tgt := 960) dL_law_936 (by decide) (fun h => absurd h ((by rw [e7]; decide))) (fun c936 => ?_)
  refine v_iload F dL_law_939 3 rfl ?_
  refine v_iconst F (v := nI 1) dL_law_941 (by decide) ?_
  refine v_icmp_ne F (tgt := 962) dL_law_942 (by decide) (fun c942 => ?_) (fun h => absurd h ((by decide)))
  exact v_locs [5, 6, 7, 8, 9, 10, 11, 12, 13, 14, 15, 16] rfl (K)
set_option maxHeartbeats 4000000 in
set_option maxRecDepth 100000 in
theorem th2_2n (F : Fx p l s m #[Value.ref b] meth c cL_law 28 RL X) (G : Gx X l) {C S t jc tc q a a2 k : Nat} {r : Nat → Nat} {g : Nat → Nat → Int32} {fa fb : Nat → Int32} {σ : Sg} {ln : Nat → Nat} (hC : C ≤ 787500) (hS0 : S ≤ 6738968) (hM : M 0 = σ) (hS : Shp (M 0) jc tc ln) (hk : k < tc) {i d : Nat} (hi : i < jc) (h9 : d ≤ 9) (hk2 : ¬ σ 8 k 0 = 2) (K : V p l e room_1 s m #[Value.ref b] below meth c Q X 28 (exE X q jc r g a fa a2 (upd fb i (fb i + nI 1))) (M) lf (C) (S) 962 [(22, .int (nI k)), (21, .ref a2), (20, .int (sHam σ (k + 1))), (19, .int (sFel σ (k + 1))), (18, .int (sThr σ (k + 1))), (17, .ref a), (15, .ref q), (5, .int (nI tc)), (4, .int (nI jc)), (2, .int (nI t)), (1, .ref (X.2.1 5 0 0)), (0, .ref b)] [])  : V p l e room_1 s m #[Value.ref b] below meth c Q X 28 (exE X q jc r g a fa a2 fb) (M) lf (C) (S) 784 [(27, .int (nI d)), (26, .int (-1)), (25, .int (nI i)), (24, .int (nI 2)), (23, .int (σ 8 k 0)), (22, .int (nI k)), (21, .ref a2), (20, .int (sHam σ (k + 1))), (19, .int (sFel σ (k + 1))), (18, .int (sThr σ (k + 1))), (17, .ref a), (15, .ref q), (5, .int (nI tc)), (4, .int (nI jc)), (2, .int (nI t)), (1, .ref (X.2.1 5 0 0)), (0, .ref b)] [] := by
  have h4 := hS.1
  have h12 := hS.2.1
  refine v_iload F dL_law_784 3 rfl ?_
  refine v_iconst F (v := nI 2) dL_law_786 (by decide) ?_
  refine v_icmp_ne F (tgt := 799) dL_law_787 (by decide) (fun h => absurd (rfl) h) (fun c787 => ?_)
  refine v_aload F dL_law_790 6 rfl ?_
  refine v_iload F dL_law_792 2 rfl ?_
  refine v_dup2_11 F dL_law_794 rfl rfl ?_
  refine v_xald F (jc + 2) exE_b i (Ix_nI hi (by omega)) dL_law_795 ?_
  refine v_iconst F (v := nI 1) dL_law_796 (by decide) ?_
  refine v_iadd F dL_law_797 ?_
  refine v_xast F (jc + 2) exE_b i (Ix_nI hi (by omega)) exE_sb dL_law_798 ?_
  refine v_iload F dL_law_799 3 rfl ?_
  refine v_iconst F (v := nI 1) dL_law_801 (by decide) ?_
  refine v_icmp_eq F (tgt := 811) dL_law_802 (by decide) (fun h => absurd h ((by decide))) (fun c802 => ?_)
  refine v_iload F dL_law_805 3 rfl ?_
  refine v_iconst F (v := nI 2) dL_law_807 (by decide) ?_
  refine v_icmp_ne F (tgt := 815) dL_law_808 (by decide) (fun h => absurd (rfl) h) (fun c808 => ?_)
  refine v_iconst F (v := 1) dL_law_811 (by decide) ?_
  refine v_goto F (tgt := 816) dL_law_812 (by decide) ?_
  refine v_iload F dL_law_816 2 rfl ?_
  refine v_if_lt F (tgt := 825) dL_law_818 (by decide) (fun h => absurd h ((nI_pos (by omega)))) (fun c818 => ?_)
  refine v_iconst F (v := 1) dL_law_821 (by decide) ?_
  refine v_goto F (tgt := 826) dL_law_822 (by decide) ?_
  refine v_icmp_ne F (tgt := 960) dL_law_826 (by decide) (fun h => absurd (rfl) h) (fun c826 => ?_)
  refine v_iload F dL_law_829 3 rfl ?_
  refine v_iconst F (v := nI 1) dL_law_831 (by decide) ?_
  refine v_icmp_ne F (tgt := 839) dL_law_832 (by decide) (fun c832 => ?_) (fun h => absurd h ((by decide)))
  refine v_iconst F (v := 0) dL_law_839 (by decide) ?_
  refine v_iload F dL_law_840 1 rfl ?_
  refine v_if_lt F (tgt := 849) dL_law_842 (by decide) (fun c842 => ?_) (fun h => absurd ((by decide)) h)
  refine v_iconst F (v := 0) dL_law_849 (by decide) ?_
  refine v_icmp_ne F (tgt := 960) dL_law_850 (by decide) (fun h => absurd (rfl) h) (fun c850 => ?_)
  refine v_iload F dL_law_853 3 rfl ?_
  refine v_iconst F (v := nI 2) dL_law_855 (by decide) ?_
  refine v_icmp_ne F (tgt := 863) dL_law_856 (by decide) (fun h => absurd (rfl) h) (fun c856 => ?_)
  refine v_iconst F (v := 1) dL_law_859 (by decide) ?_
  refine v_goto F (tgt := 864) dL_law_860 (by decide) ?_
  refine v_iload F dL_law_864 0 rfl ?_
  refine v_if_lt F (tgt := 873) dL_law_866 (by decide) (fun h => absurd h ((nI_pos (by omega)))) (fun c866 => ?_)
  refine v_iconst F (v := 1) dL_law_869 (by decide) ?_
  refine v_goto F (tgt := 874) dL_law_870 (by decide) ?_
  refine v_icmp_ne F (tgt := 960) dL_law_874 (by decide) (fun h => absurd (rfl) h) (fun c874 => ?_)
  refine v_iload F dL_law_877 0 rfl ?_
  refine v_bipush F (v := nI 9) dL_law_879 (by decide) ?_
  refine v_icmp_gt F (tgt := 960) dL_law_881 (by decide) (fun h => absurd h ((nI_nlt h9 (by omega)))) (fun c881 => ?_)
  refine v_iload F dL_law_884 3 rfl ?_
  refine v_iconst F (v := nI 3) dL_law_886 (by decide) ?_
  refine v_icmp_ne F (tgt := 894) dL_law_887 (by decide) (fun c887 => ?_) (fun h => absurd h ((by decide)))
  refine v_iconst F (v := 0) dL_law_894 (by decide) ?_
  refine v_iload F dL_law_895 4 rfl ?_
  refine v_iconst F (v := 2) dL_law_897 (by decide) ?_
  refine v_icmp_ne F (tgt := 917) dL_law_898 (by decide) (fun c898 => ?_) (fun h => absurd h (hk2))
  refine v_iconst F (v := 0) dL_law_917 (by decide) ?_
  refine v_icmp_ne F (tgt := 960) dL_law_918 (by decide) (fun h => absurd (rfl) h) (fun c918 => ?_)
  refine v_iload F dL_law_921 4 rfl ?_
  refine v_iconst F (v := 2) dL_law_923 (by decide) ?_
  refine v_icmp_ne F (tgt := 939) dL_law_924 (by decide) (fun c924 => ?_) (fun h => absurd h (hk2))
  refine v_iload F dL_law_939 3 rfl ?_
  refine v_iconst F (v := nI 1) dL_law_941 (by decide) ?_
  refine v_icmp_ne F (tgt := 962) dL_law_942 (by decide) (fun c942 => ?_) (fun h => absurd h ((by decide)))
  exact v_locs [5, 6, 7, 8, 9, 10, 11, 12, 13, 14, 15, 16] rfl (K)
set_option maxHeartbeats 4000000 in
set_option maxRecDepth 100000 in
theorem th2_3e (F : Fx p l s m #[Value.ref b] meth c cL_law 28 RL X) (G : Gx X l) {C S t jc tc q a a2 k : Nat} {r : Nat → Nat} {g : Nat → Nat → Int32} {fa fb : Nat → Int32} {σ : Sg} {ln : Nat → Nat} (hC : C ≤ 787500) (hS0 : S ≤ 6738968) (hM : M 0 = σ) (hS : Shp (M 0) jc tc ln) (hk : k < tc) (hk2 : σ 8 k 0 = 2) (e7 : σ 8 k 7 = 1) (K : V p l e room_1 s m #[Value.ref b] below meth c Q X 28 (exE X q jc r g a fa a2 fb) (M) lf (C) (S) 962 [(22, .int (nI k)), (21, .ref a2), (20, .int (sHam σ (k + 1))), (19, .int (sFel σ (k + 1))), (18, .int (sThr σ (k + 1))), (17, .ref a), (15, .ref q), (5, .int (nI tc)), (4, .int (nI jc)), (2, .int (nI t)), (1, .ref (X.2.1 5 0 0)), (0, .ref b)] [])  : V p l e room_1 s m #[Value.ref b] below meth c Q X 28 (exE X q jc r g a fa a2 fb) (M) lf (C) (S) 784 [(27, .int (-1)), (26, .int (-1)), (25, .int (-1)), (24, .int (nI 3)), (23, .int (σ 8 k 0)), (22, .int (nI k)), (21, .ref a2), (20, .int (sHam σ (k + 1))), (19, .int (sFel σ (k + 1))), (18, .int (sThr σ (k + 1))), (17, .ref a), (15, .ref q), (5, .int (nI tc)), (4, .int (nI jc)), (2, .int (nI t)), (1, .ref (X.2.1 5 0 0)), (0, .ref b)] [] := by
  have h4 := hS.1
  have h12 := hS.2.1
  refine v_iload F dL_law_784 3 rfl ?_
  refine v_iconst F (v := nI 2) dL_law_786 (by decide) ?_
  refine v_icmp_ne F (tgt := 799) dL_law_787 (by decide) (fun c787 => ?_) (fun h => absurd h ((by decide)))
  refine v_iload F dL_law_799 3 rfl ?_
  refine v_iconst F (v := nI 1) dL_law_801 (by decide) ?_
  refine v_icmp_eq F (tgt := 811) dL_law_802 (by decide) (fun h => absurd h ((by decide))) (fun c802 => ?_)
  refine v_iload F dL_law_805 3 rfl ?_
  refine v_iconst F (v := nI 2) dL_law_807 (by decide) ?_
  refine v_icmp_ne F (tgt := 815) dL_law_808 (by decide) (fun c808 => ?_) (fun h => absurd h ((by decide)))
  refine v_iconst F (v := 0) dL_law_815 (by decide) ?_
  refine v_iload F dL_law_816 2 rfl ?_
  refine v_if_lt F (tgt := 825) dL_law_818 (by decide) (fun c818 => ?_) (fun h => absurd ((by decide)) h)
  refine v_iconst F (v := 0) dL_law_825 (by decide) ?_
  refine v_icmp_ne F (tgt := 960) dL_law_826 (by decide) (fun h => absurd (rfl) h) (fun c826 => ?_)
  refine v_iload F dL_law_829 3 rfl ?_
  refine v_iconst F (v := nI 1) dL_law_831 (by decide) ?_
  refine v_icmp_ne F (tgt := 839) dL_law_832 (by decide) (fun c832 => ?_) (fun h => absurd h ((by decide)))
  refine v_iconst F (v := 0) dL_law_839 (by decide) ?_
  refine v_iload F dL_law_840 1 rfl ?_
  refine v_if_lt F (tgt := 849) dL_law_842 (by decide) (fun c842 => ?_) (fun h => absurd ((by decide)) h)
  refine v_iconst F (v := 0) dL_law_849 (by decide) ?_
  refine v_icmp_ne F (tgt := 960) dL_law_850 (by decide) (fun h => absurd (rfl) h) (fun c850 => ?_)
  refine v_iload F dL_law_853 3 rfl ?_
  refine v_iconst F (v := nI 2) dL_law_855 (by decide) ?_
  refine v_icmp_ne F (tgt := 863) dL_law_856 (by decide) (fun c856 => ?_) (fun h => absurd h ((by decide)))
  refine v_iconst F (v := 0) dL_law_863 (by decide) ?_
  refine v_iload F dL_law_864 0 rfl ?_
  refine v_if_lt F (tgt := 873) dL_law_866 (by decide) (fun c866 => ?_) (fun h => absurd ((by decide)) h)
  refine v_iconst F (v := 0) dL_law_873 (by decide) ?_
  refine v_icmp_ne F (tgt := 960) dL_law_874 (by decide) (fun h => absurd (rfl) h) (fun c874 => ?_)
  refine v_iload F dL_law_877 0 rfl ?_
  refine v_bipush F (v := nI 9) dL_law_879 (by decide) ?_
  refine v_icmp_gt F (tgt := 960) dL_law_881 (by decide) (fun h => absurd h ((by decide))) (fun c881 => ?_)
  refine v_iload F dL_law_884 3 rfl ?_
  refine v_iconst F (v := nI 3) dL_law_886 (by decide) ?_
  refine v_icmp_ne F (tgt := 894) dL_law_887 (by decide) (fun h => absurd (rfl) h) (fun c887 => ?_)
  refine v_iconst F (v := 1) dL_law_890 (by decide) ?_
  refine v_goto F (tgt := 895) dL_law_891 (by decide) ?_
  refine v_iload F dL_law_895 4 rfl ?_
  refine v_iconst F (v := 2) dL_law_897 (by decide) ?_
  refine v_icmp_ne F (tgt := 917) dL_law_898 (by decide) (fun h => absurd (hk2) h) (fun c898 => ?_)
  refine v_aload_n F dL_law_901 rfl 15 rfl ?_
  refine v_iload F dL_law_902 5 rfl ?_
  refine v_bipush F (v := nI 6) dL_law_904 (by decide) ?_
  refine v_callVi F (As := [_, _]) (rest := [.int _]) rfl (c_X4_thing G hS hk (q := 6) (by decide)) Rv_H wm_L_79 rfl ⟨rfl, rfl, Nat.le_of_ble_eq_true rfl, Nat.le_of_ble_eq_true rfl, (by show _ ≤ 787500; omega), (by show _ ≤ 6738968; omega), Nat.le_of_ble_eq_true rfl⟩ dL_law_906 ?_
  refine v_topr (σ 8 k 7) (by rw [hM]; rfl) ?_
  refine v_iconst F (v := 1) dL_law_909 (by decide) ?_
  refine v_icmp_ne F (tgt := 917) dL_law_910 (by decide) (fun h => absurd (e7) h) (fun c910 => ?_)
  refine v_iconst F (v := 1) dL_law_913 (by decide) ?_
  refine v_goto F (tgt := 918) dL_law_914 (by decide) ?_
  refine v_icmp_ne F (tgt := 960) dL_law_918 (by decide) (fun h => absurd (rfl) h) (fun c918 => ?_)
  refine v_iload F dL_law_921 4 rfl ?_
  refine v_iconst F (v := 2) dL_law_923 (by decide) ?_
  refine v_icmp_ne F (tgt := 939) dL_law_924 (by decide) (fun h => absurd (hk2) h) (fun c924 => ?_)
  refine v_aload_n F dL_law_927 rfl 15 rfl ?_
  refine v_iload F dL_law_928 5 rfl ?_
  refine v_bipush F (v := nI 6) dL_law_930 (by decide) ?_
  refine v_callVi F (As := [_, _]) (rest := []) rfl (c_X4_thing G hS hk (q := 6) (by decide)) Rv_H wm_L_79 rfl ⟨rfl, rfl, Nat.le_of_ble_eq_true rfl, Nat.le_of_ble_eq_true rfl, (by show _ ≤ 787500; omega), (by show _ ≤ 6738968; omega), Nat.le_of_ble_eq_true rfl⟩ dL_law_932 ?_
  refine v_topr (σ 8 k 7) (by rw [hM]; rfl) ?_
  refine v_iconst F (v := 1) dL_law_935 (by decide) ?_
  refine v_icmp_gt F (tgt := 960) dL_law_936 (by decide) (fun h => absurd h ((by rw [e7]; decide))) (fun c936 => ?_)
  refine v_iload F dL_law_939 3 rfl ?_
  refine v_iconst F (v := nI 1) dL_law_941 (by decide) ?_
  refine v_icmp_ne F (tgt := 962) dL_law_942 (by decide) (fun c942 => ?_) (fun h => absurd h ((by decide)))
  exact v_locs [5, 6, 7, 8, 9, 10, 11, 12, 13, 14, 15, 16] rfl (K)
set_option maxHeartbeats 4000000 in
set_option maxRecDepth 100000 in
theorem th_one (F : Fx p l s m #[Value.ref b] meth c cL_law 28 RL X) (G : Gx X l) {C S t jc tc q a a2 k : Nat} {r : Nat → Nat} {g : Nat → Nat → Int32} {fa fb : Nat → Int32} {σ : Sg} {ln : Nat → Nat} (hC : C ≤ 787500) (hS0 : S ≤ 6738968) (hM : M 0 = σ) (hS : Shp (M 0) jc tc ln) (hk : k < tc) {B : Nat} (hb : B + 10 < 2 ^ 31) (I : RI σ jc tc B ln) (hA : tlA σ k fa) (hF : tlF σ jc k fb) (K : ∀ fa fb : Nat → Int32, tlA σ (k + 1) fa → tlF σ jc (k + 1) fb → V p l e room_1 s m #[Value.ref b] below meth c Q X 28 (exE X q jc r g a fa a2 fb) (M) lf (C) (S) 962 [(22, .int (nI k)), (21, .ref a2), (20, .int (sHam σ (k + 1))), (19, .int (sFel σ (k + 1))), (18, .int (sThr σ (k + 1))), (17, .ref a), (15, .ref q), (5, .int (nI tc)), (4, .int (nI jc)), (2, .int (nI t)), (1, .ref (X.2.1 5 0 0)), (0, .ref b)] []) : V p l e room_1 s m #[Value.ref b] below meth c Q X 28 (exE X q jc r g a fa a2 fb) (M) lf (C) (S) 682 [(22, .int (nI k)), (21, .ref a2), (20, .int (sHam σ k)), (19, .int (sFel σ k)), (18, .int (sThr σ k)), (17, .ref a), (15, .ref q), (5, .int (nI tc)), (4, .int (nI jc)), (2, .int (nI t)), (1, .ref (X.2.1 5 0 0)), (0, .ref b)] [] := by
  have h4 := hS.1
  by_cases hk2 : σ 8 k 0 = 2
  · rcases th_cases hb I hk with ⟨e1, e2, e3, e4, e7⟩ | ⟨e1, ⟨i, h, hi, hh, e2, e3, e6⟩, e4, e7⟩ | ⟨e1, ⟨i, hi, e2⟩, e3, ⟨d, h9, e4⟩, e7⟩ | ⟨e1, e2, e3, e4, e0, e7⟩
    · refine th1 F G hC hS0 hM hS hk (w := 0) (by decide) e1 ?_
      rw [e2, e3, e4]
      exact th2_0e F G hC hS0 hM hS hk hk2 (e7 hk2) (K _ _ (tlA_s hA (by decide) e1) (tlF_n hF (by rw [e1]; decide)))
    · refine th1 F G hC hS0 hM hS hk (w := 1) (by decide) e1 ?_
      rw [e2, e3, e4]
      exact th2_1e F G hC hS0 hM hS hk hi hh e6 hk2 (e7 hk2) (K _ _ (tlA_s hA (by decide) e1) (tlF_n hF (by rw [e1]; decide)))
    · refine th1 F G hC hS0 hM hS hk (w := 2) (by decide) e1 ?_
      rw [e2, e3, e4]
      exact th2_2e F G hC hS0 hM hS hk hi h9 hk2 (e7 hk2) (K _ _ (tlA_s hA (by decide) e1) (tlF_s hF hi h4 e1 e2))
    · refine th1 F G hC hS0 hM hS hk (w := 3) (by decide) e1 ?_
      rw [e2, e3, e4]
      exact th2_3e F G hC hS0 hM hS hk hk2 e7 (K _ _ (tlA_s hA (by decide) e1) (tlF_n hF (by rw [e1]; decide)))
  · rcases th_cases hb I hk with ⟨e1, e2, e3, e4, e7⟩ | ⟨e1, ⟨i, h, hi, hh, e2, e3, e6⟩, e4, e7⟩ | ⟨e1, ⟨i, hi, e2⟩, e3, ⟨d, h9, e4⟩, e7⟩ | ⟨e1, e2, e3, e4, e0, e7⟩
    · refine th1 F G hC hS0 hM hS hk (w := 0) (by decide) e1 ?_
      rw [e2, e3, e4]
      exact th2_0n F G hC hS0 hM hS hk hk2 (K _ _ (tlA_s hA (by decide) e1) (tlF_n hF (by rw [e1]; decide)))
    · refine th1 F G hC hS0 hM hS hk (w := 1) (by decide) e1 ?_
      rw [e2, e3, e4]
      exact th2_1n F G hC hS0 hM hS hk hi hh e6 hk2 (K _ _ (tlA_s hA (by decide) e1) (tlF_n hF (by rw [e1]; decide)))
    · refine th1 F G hC hS0 hM hS hk (w := 2) (by decide) e1 ?_
      rw [e2, e3, e4]
      exact th2_2n F G hC hS0 hM hS hk hi h9 hk2 (K _ _ (tlA_s hA (by decide) e1) (tlF_s hF hi h4 e1 e2))
    · exact absurd e0 hk2
set_option maxHeartbeats 4000000 in
set_option maxRecDepth 100000 in
theorem L_things (F : Fx p l s m #[Value.ref b] meth c cL_law 28 RL X) (G : Gx X l) {C S t jc tc q a a2 B : Nat} {r : Nat → Nat} {g : Nat → Nat → Int32} {σ : Sg} {ln : Nat → Nat} (hC : C ≤ 787500) (hS0 : S ≤ 6738968) (hM : M 0 = σ) (hS : Shp (M 0) jc tc ln) (hb : B + 10 < 2 ^ 31) (I : RI σ jc tc B ln) (K : ∀ fa fb : Nat → Int32, tlA σ tc fa → tlF σ jc tc fb → V p l e room_1 s m #[Value.ref b] below meth c Q X 28 (exE X q jc r g a fa a2 fb) (M) lf (C) (S) 968 [(21, .ref a2), (20, .int (sHam σ tc)), (19, .int (sFel σ tc)), (18, .int (sThr σ tc)), (17, .ref a), (15, .ref q), (5, .int (nI tc)), (4, .int (nI jc)), (2, .int (nI t)), (1, .ref (X.2.1 5 0 0)), (0, .ref b)] [])  : ∀ (f k : Nat) (fa fb : Nat → Int32), f + k = tc → tlA σ k fa → tlF σ jc k fb → V p l e room_1 s m #[Value.ref b] below meth c Q X 28 (exE X q jc r g a fa a2 fb) (M) lf (C) (S) 675 [(22, .int (nI k)), (21, .ref a2), (20, .int (sHam σ k)), (19, .int (sFel σ k)), (18, .int (sThr σ k)), (17, .ref a), (15, .ref q), (5, .int (nI tc)), (4, .int (nI jc)), (2, .int (nI t)), (1, .ref (X.2.1 5 0 0)), (0, .ref b)] [] := by
  have h4 := hS.1
  have h12 := hS.2.1
  intro f
  induction f with
  | zero =>
    intro k fa fb hf hA hF
    obtain rfl : k = tc := by omega
    refine v_iload F dL_law_675 0 rfl ?_
    refine v_iload F dL_law_677 7 rfl ?_
    refine v_icmp_ge F (tgt := 968) dL_law_679 (by decide) (fun c679 => ?_) (fun h => absurd ((nI_le (Nat.le_refl _) (by omega))) h)
    exact v_locs [1, 2, 3, 4, 5, 6, 7, 8, 9, 10, 11] rfl (K fa fb hA hF)
  | succ f ih =>
    intro k fa fb hf hA hF
    refine v_iload F dL_law_675 0 rfl ?_
    refine v_iload F dL_law_677 7 rfl ?_
    refine v_icmp_ge F (tgt := 968) dL_law_679 (by decide) (fun h => absurd h ((nI_ge (by omega) (by omega)))) (fun c679 => ?_)
    refine v_locs [0, 1, 2, 3, 4, 5, 6, 7, 8, 9, 10, 11] rfl ?_
    refine th_one F G hC hS0 hM hS (show k < tc by omega) hb I hA hF (fun fa fb hA hF => ?_)
    refine v_iinc F (k := 0) (nI (k + 1)) dL_law_962 rfl (iinc_nI k) (by decide) (lv' := [(22, .int _), (21, .ref _), (20, .int _), (19, .int _), (18, .int _), (17, .ref _), (15, .ref _), (5, .int _), (4, .int _), (2, .int _), (1, .ref _), (0, .ref _)]) rfl ?_
    refine v_goto F (tgt := 675) dL_law_965 (by decide) ?_
    exact ih (k + 1) fa fb (by omega) hA hF
set_option maxHeartbeats 4000000 in
set_option maxRecDepth 100000 in
theorem law_things (F : Fx p l s m #[Value.ref b] meth c cL_law 28 RL X) (G : Gx X l) {C S t jc tc q B : Nat} {r : Nat → Nat} {g : Nat → Nat → Int32} {σ : Sg} {ln : Nat → Nat} (hC : C + 2 ≤ 787500) (hS0 : S + 8 ≤ 6738968) (hM : M 0 = σ) (hb : B + 10 < 2 ^ 31) (I : RI σ jc tc B ln) (K : ∀ (a a2 : Nat) (fa fb : Nat → Int32), tlA σ tc fa → tlF σ jc tc fb → V p l e room_1 s m #[Value.ref b] below meth c Q X 28 (exE X q jc r g a fa a2 fb) (M) lf (C + 1 + 1) (S + 4 + jc) 968 [(21, .ref a2), (20, .int (sHam σ tc)), (19, .int (sFel σ tc)), (18, .int (sThr σ tc)), (17, .ref a), (15, .ref q), (5, .int (nI tc)), (4, .int (nI jc)), (2, .int (nI t)), (1, .ref (X.2.1 5 0 0)), (0, .ref b)] [])  : V p l e room_1 s m #[Value.ref b] below meth c Q X 28 (exR X q jc r g) (M) lf (C) (S) 652 [(15, .ref q), (5, .int (nI tc)), (4, .int (nI jc)), (2, .int (nI t)), (1, .ref (X.2.1 5 0 0)), (0, .ref b)] [] := by
  have h4 := I.1.1
  have h12 := I.1.2.1
  have hS : Shp (M 0) jc tc ln := by rw [hM]; exact I.1
  refine v_iconst F (v := nI 4) dL_law_652 (by decide) ?_
  refine v_xnew F 4 war_int (nI_pos (by decide)) (nI_clamp (by decide)) (by decide) (by show _ ≤ 787500; omega) (by show _ ≤ 6738968; omega) dL_law_653 (fun a => ?_)
  refine v_astore F dL_law_655 (by decide) (lv' := [(17, .ref _), (15, .ref _), (5, .int _), (4, .int _), (2, .int _), (1, .ref _), (0, .ref _)]) rfl ?_
  refine v_iconst F (v := 0) dL_law_657 (by decide) ?_
  refine v_istore F dL_law_658 (by decide) (lv' := [(18, .int _), (17, .ref _), (15, .ref _), (5, .int _), (4, .int _), (2, .int _), (1, .ref _), (0, .ref _)]) rfl ?_
  refine v_iconst F (v := 0) dL_law_660 (by decide) ?_
  refine v_istore F dL_law_661 (by decide) (lv' := [(19, .int _), (18, .int _), (17, .ref _), (15, .ref _), (5, .int _), (4, .int _), (2, .int _), (1, .ref _), (0, .ref _)]) rfl ?_
  refine v_iconst F (v := 0) dL_law_663 (by decide) ?_
  refine v_istore F dL_law_664 (by decide) (lv' := [(20, .int _), (19, .int _), (18, .int _), (17, .ref _), (15, .ref _), (5, .int _), (4, .int _), (2, .int _), (1, .ref _), (0, .ref _)]) rfl ?_
  refine v_iload F dL_law_666 6 rfl ?_
  refine v_xnew F jc war_int (nI_pos (by omega)) (nI_clamp (by omega)) (by show jc * 4 ≤ 536870912; omega) (by show _ ≤ 787500; omega) (by show _ ≤ 6738968; omega) dL_law_668 (fun a2 => ?_)
  refine v_astore F dL_law_670 (by decide) (lv' := [(21, .ref _), (20, .int _), (19, .int _), (18, .int _), (17, .ref _), (15, .ref _), (5, .int _), (4, .int _), (2, .int _), (1, .ref _), (0, .ref _)]) rfl ?_
  refine v_ex (ex' := exE X q jc r g a (fun _ => 0) a2 (fun _ => 0)) (List.append_assoc _ _ _) ?_
  refine v_iconst F (v := nI 0) dL_law_672 (by decide) ?_
  refine v_istore F dL_law_673 (by decide) (lv' := [(22, .int _), (21, .ref _), (20, .int _), (19, .int _), (18, .int _), (17, .ref _), (15, .ref _), (5, .int _), (4, .int _), (2, .int _), (1, .ref _), (0, .ref _)]) rfl ?_
  refine v_locs [0, 1, 2, 3, 4, 5, 6, 7, 8, 9, 10, 11] rfl ?_
  exact L_things F G (by omega) (by omega) hM hS hb I (K a a2) tc 0 _ _ (Nat.add_zero tc) tlA_0 tlF_0
end LGO
