/-! ===== the law: each juggler; the last checks ===== -/
section LJUG
variable {p : Program} {l : Launch} {e : Env} {s : State} {m : MethodId} {below : List Frame} {meth : Method} {c : Code} {Q : State → Prop} {X : Cx} {M : Mem} {lf : Lf} {b L : Nat} {xs : Nat → Int32}
set_option maxHeartbeats 4000000 in
set_option maxRecDepth 100000 in
theorem jh_m (F : Fx p l s m #[Value.ref b] meth c cL_law 28 RL X) (G : Gx X l) {C S t jc tc q a a2 B : Nat} {r : Nat → Nat} {g : Nat → Nat → Int32} {fa fb : Nat → Int32} {σ : Sg} {ln : Nat → Nat} (hC : C ≤ 787500) (hS0 : S ≤ 6738968) (hM : M 0 = σ) (I : RI σ jc tc B ln) {i h : Nat} {u : Int32} (hi : i < jc) (hh : h < 2) (hg : ¬ g i h < 0 → σ 6 i h = g i h) (e6 : σ 6 i h = -1) (K : V p l e room_1 s m #[Value.ref b] below meth c Q X 28 (exE X q jc r g a fa a2 fb) (M) lf (C) (S) 1089 [(26, .int (nI h)), (25, .int (nI i)), (24, .int (sBru σ i)), (23, .int (sCau σ i)), (22, .int (u + hv (σ 6 i h))), (21, .ref a2), (20, .int (sHam σ tc)), (19, .int (sFel σ tc)), (18, .int (sThr σ tc)), (17, .ref a), (15, .ref q), (5, .int (nI tc)), (4, .int (nI jc)), (2, .int (nI t)), (1, .ref (X.2.1 5 0 0)), (0, .ref b)] [])  : V p l e room_1 s m #[Value.ref b] below meth c Q X 28 (exE X q jc r g a fa a2 fb) (M) lf (C) (S) 996 [(26, .int (nI h)), (25, .int (nI i)), (24, .int (sBru σ i)), (23, .int (sCau σ i)), (22, .int u), (21, .ref a2), (20, .int (sHam σ tc)), (19, .int (sFel σ tc)), (18, .int (sThr σ tc)), (17, .ref a), (15, .ref q), (5, .int (nI tc)), (4, .int (nI jc)), (2, .int (nI t)), (1, .ref (X.2.1 5 0 0)), (0, .ref b)] [] := by
  have h4 := I.1.1
  have h12 := I.1.2.1
  have hS : Shp (M 0) jc tc ln := by rw [hM]; exact I.1
  refine v_aload_n F dL_law_996 rfl 14 rfl ?_
  refine v_iload F dL_law_997 1 rfl ?_
  refine v_iconst F (v := nI 2) dL_law_999 (by decide) ?_
  refine v_iload F dL_law_1000 0 rfl ?_
  refine v_iadd F dL_law_1002 ?_
  refine v_topr (nI (2 + h)) (nI_add _ _) ?_
  refine v_callVi F (As := [_, _]) (rest := []) rfl (c_X4_juggler G hS hi (q := 2 + h) (by omega)) Rv_H wm_L_57 rfl ⟨rfl, rfl, Nat.le_of_ble_eq_true rfl, Nat.le_of_ble_eq_true rfl, (by show _ ≤ 787500; omega), (by show _ ≤ 6738968; omega), Nat.le_of_ble_eq_true rfl⟩ dL_law_1003 ?_
  refine v_topr (-1) (by rw [hM]; exact (tellJ_h hh).trans e6) ?_
  refine v_istore F dL_law_1006 (by decide) (lv' := [(27, .int _), (26, .int _), (25, .int _), (24, .int _), (23, .int _), (22, .int _), (21, .ref _), (20, .int _), (19, .int _), (18, .int _), (17, .ref _), (15, .ref _), (5, .int _), (4, .int _), (2, .int _), (1, .ref _), (0, .ref _)]) rfl ?_
  refine v_iload F dL_law_1008 5 rfl ?_
  refine v_iload F dL_law_1010 0 rfl ?_
  refine v_if_ge F (tgt := 1019) dL_law_1012 (by decide) (fun h => absurd h ((by decide))) (fun c1012 => ?_)
  refine v_iconst F (v := 0) dL_law_1015 (by decide) ?_
  refine v_goto F (tgt := 1020) dL_law_1016 (by decide) ?_
  refine v_iadd F dL_law_1020 ?_
  refine v_topr (u + hv (σ 6 i h)) (by rw [e6, hv_m]) ?_
  refine v_istore F dL_law_1021 (by decide) (lv' := [(22, .int _), (27, .int _), (26, .int _), (25, .int _), (24, .int _), (23, .int _), (21, .ref _), (20, .int _), (19, .int _), (18, .int _), (17, .ref _), (15, .ref _), (5, .int _), (4, .int _), (2, .int _), (1, .ref _), (0, .ref _)]) rfl ?_
  refine v_iload F dL_law_1023 1 rfl ?_
  refine v_if_lt F (tgt := 1063) dL_law_1025 (by decide) (fun c1025 => ?_) (fun h => absurd ((by decide)) h)
  refine v_aload F dL_law_1063 11 rfl ?_
  refine v_iload F dL_law_1065 3 rfl ?_
  refine v_xaald F 0 rfl i (Ix_nI hi (by omega)) (if_pos hi) dL_law_1067 ?_
  refine v_iload F dL_law_1068 2 rfl ?_
  refine v_xald F (i + 1) (exR_out hi) h (Ix_nI hh) dL_law_1070 ?_
  refine v_if_lt F (tgt := 1089) dL_law_1071 (by decide) (fun c1071 => ?_) (fun c1071 => ?_)
  · have := c1071
    exact v_locs [2, 3, 4, 5, 0, 6, 7, 8, 9, 10, 11, 12, 13, 14, 15, 16] rfl (K)
  · have := c1071
    refine v_iload F dL_law_1074 1 rfl ?_
    refine v_aload F dL_law_1076 11 rfl ?_
    refine v_iload F dL_law_1078 3 rfl ?_
    refine v_xaald F 0 rfl i (Ix_nI hi (by omega)) (if_pos hi) dL_law_1080 ?_
    refine v_iload F dL_law_1081 2 rfl ?_
    refine v_xald F (i + 1) (exR_out hi) h (Ix_nI hh) dL_law_1083 ?_
    refine v_icmp_eq F (tgt := 1089) dL_law_1084 (by decide) (fun c1084 => ?_) (fun h => absurd ((e6.symm.trans (hg c1071))) h)
    exact v_locs [2, 3, 4, 5, 0, 6, 7, 8, 9, 10, 11, 12, 13, 14, 15, 16] rfl (K)
set_option maxHeartbeats 4000000 in
set_option maxRecDepth 100000 in
theorem jh_k (F : Fx p l s m #[Value.ref b] meth c cL_law 28 RL X) (G : Gx X l) {C S t jc tc q a a2 B : Nat} {r : Nat → Nat} {g : Nat → Nat → Int32} {fa fb : Nat → Int32} {σ : Sg} {ln : Nat → Nat} (hC : C ≤ 787500) (hS0 : S ≤ 6738968) (hM : M 0 = σ) (I : RI σ jc tc B ln) {i h : Nat} {u : Int32} (hi : i < jc) (hh : h < 2) (hg : ¬ g i h < 0 → σ 6 i h = g i h) {k : Nat} (hk : k < tc) (e6 : σ 6 i h = nI k) (y3 : σ 8 k 1 = 1) (y4 : σ 8 k 2 = nI i) (y5 : σ 8 k 3 = nI h) (K : V p l e room_1 s m #[Value.ref b] below meth c Q X 28 (exE X q jc r g a fa a2 fb) (M) lf (C) (S) 1089 [(26, .int (nI h)), (25, .int (nI i)), (24, .int (sBru σ i)), (23, .int (sCau σ i)), (22, .int (u + hv (σ 6 i h))), (21, .ref a2), (20, .int (sHam σ tc)), (19, .int (sFel σ tc)), (18, .int (sThr σ tc)), (17, .ref a), (15, .ref q), (5, .int (nI tc)), (4, .int (nI jc)), (2, .int (nI t)), (1, .ref (X.2.1 5 0 0)), (0, .ref b)] [])  : V p l e room_1 s m #[Value.ref b] below meth c Q X 28 (exE X q jc r g a fa a2 fb) (M) lf (C) (S) 996 [(26, .int (nI h)), (25, .int (nI i)), (24, .int (sBru σ i)), (23, .int (sCau σ i)), (22, .int u), (21, .ref a2), (20, .int (sHam σ tc)), (19, .int (sFel σ tc)), (18, .int (sThr σ tc)), (17, .ref a), (15, .ref q), (5, .int (nI tc)), (4, .int (nI jc)), (2, .int (nI t)), (1, .ref (X.2.1 5 0 0)), (0, .ref b)] [] := by
  have h4 := I.1.1
  have h12 := I.1.2.1
  have hS : Shp (M 0) jc tc ln := by rw [hM]; exact I.1
  refine v_aload_n F dL_law_996 rfl 14 rfl ?_
  refine v_iload F dL_law_997 1 rfl ?_
  refine v_iconst F (v := nI 2) dL_law_999 (by decide) ?_
  refine v_iload F dL_law_1000 0 rfl ?_
  refine v_iadd F dL_law_1002 ?_
  refine v_topr (nI (2 + h)) (nI_add _ _) ?_
  refine v_callVi F (As := [_, _]) (rest := []) rfl (c_X4_juggler G hS hi (q := 2 + h) (by omega)) Rv_H wm_L_57 rfl ⟨rfl, rfl, Nat.le_of_ble_eq_true rfl, Nat.le_of_ble_eq_true rfl, (by show _ ≤ 787500; omega), (by show _ ≤ 6738968; omega), Nat.le_of_ble_eq_true rfl⟩ dL_law_1003 ?_
  refine v_topr (nI k) (by rw [hM]; exact (tellJ_h hh).trans e6) ?_
  refine v_istore F dL_law_1006 (by decide) (lv' := [(27, .int _), (26, .int _), (25, .int _), (24, .int _), (23, .int _), (22, .int _), (21, .ref _), (20, .int _), (19, .int _), (18, .int _), (17, .ref _), (15, .ref _), (5, .int _), (4, .int _), (2, .int _), (1, .ref _), (0, .ref _)]) rfl ?_
  refine v_iload F dL_law_1008 5 rfl ?_
  refine v_iload F dL_law_1010 0 rfl ?_
  refine v_if_ge F (tgt := 1019) dL_law_1012 (by decide) (fun c1012 => ?_) (fun h => absurd ((nI_pos' (by omega))) h)
  refine v_iconst F (v := 1) dL_law_1019 (by decide) ?_
  refine v_iadd F dL_law_1020 ?_
  refine v_topr (u + hv (σ 6 i h)) (by rw [e6, hv_n (by omega)]) ?_
  refine v_istore F dL_law_1021 (by decide) (lv' := [(22, .int _), (27, .int _), (26, .int _), (25, .int _), (24, .int _), (23, .int _), (21, .ref _), (20, .int _), (19, .int _), (18, .int _), (17, .ref _), (15, .ref _), (5, .int _), (4, .int _), (2, .int _), (1, .ref _), (0, .ref _)]) rfl ?_
  refine v_iload F dL_law_1023 1 rfl ?_
  refine v_if_lt F (tgt := 1063) dL_law_1025 (by decide) (fun h => absurd h ((nI_pos (by omega)))) (fun c1025 => ?_)
  refine v_aload_n F dL_law_1028 rfl 15 rfl ?_
  refine v_iload F dL_law_1029 1 rfl ?_
  refine v_iconst F (v := nI 1) dL_law_1031 (by decide) ?_
  refine v_callVi F (As := [_, _]) (rest := []) rfl (c_X4_thing G hS hk (q := 1) (by decide)) Rv_H wm_L_79 rfl ⟨rfl, rfl, Nat.le_of_ble_eq_true rfl, Nat.le_of_ble_eq_true rfl, (by show _ ≤ 787500; omega), (by show _ ≤ 6738968; omega), Nat.le_of_ble_eq_true rfl⟩ dL_law_1032 ?_
  refine v_topr (1) (by rw [hM]; exact y3) ?_
  refine v_iconst F (v := 1) dL_law_1035 (by decide) ?_
  refine v_icmp_ne F (tgt := 1087) dL_law_1036 (by decide) (fun h => absurd (rfl) h) (fun c1036 => ?_)
  refine v_aload_n F dL_law_1039 rfl 15 rfl ?_
  refine v_iload F dL_law_1040 1 rfl ?_
  refine v_iconst F (v := nI 2) dL_law_1042 (by decide) ?_
  refine v_callVi F (As := [_, _]) (rest := []) rfl (c_X4_thing G hS hk (q := 2) (by decide)) Rv_H wm_L_79 rfl ⟨rfl, rfl, Nat.le_of_ble_eq_true rfl, Nat.le_of_ble_eq_true rfl, (by show _ ≤ 787500; omega), (by show _ ≤ 6738968; omega), Nat.le_of_ble_eq_true rfl⟩ dL_law_1043 ?_
  refine v_topr (nI i) (by rw [hM]; exact y4) ?_
  refine v_iload F dL_law_1046 3 rfl ?_
  refine v_icmp_ne F (tgt := 1087) dL_law_1048 (by decide) (fun h => absurd (rfl) h) (fun c1048 => ?_)
  refine v_aload_n F dL_law_1051 rfl 15 rfl ?_
  refine v_iload F dL_law_1052 1 rfl ?_
  refine v_iconst F (v := nI 3) dL_law_1054 (by decide) ?_
  refine v_callVi F (As := [_, _]) (rest := []) rfl (c_X4_thing G hS hk (q := 3) (by decide)) Rv_H wm_L_79 rfl ⟨rfl, rfl, Nat.le_of_ble_eq_true rfl, Nat.le_of_ble_eq_true rfl, (by show _ ≤ 787500; omega), (by show _ ≤ 6738968; omega), Nat.le_of_ble_eq_true rfl⟩ dL_law_1055 ?_
  refine v_topr (nI h) (by rw [hM]; exact y5) ?_
  refine v_iload F dL_law_1058 2 rfl ?_
  refine v_icmp_ne F (tgt := 1087) dL_law_1060 (by decide) (fun h => absurd (rfl) h) (fun c1060 => ?_)
  refine v_aload F dL_law_1063 11 rfl ?_
  refine v_iload F dL_law_1065 3 rfl ?_
  refine v_xaald F 0 rfl i (Ix_nI hi (by omega)) (if_pos hi) dL_law_1067 ?_
  refine v_iload F dL_law_1068 2 rfl ?_
  refine v_xald F (i + 1) (exR_out hi) h (Ix_nI hh) dL_law_1070 ?_
  refine v_if_lt F (tgt := 1089) dL_law_1071 (by decide) (fun c1071 => ?_) (fun c1071 => ?_)
  · have := c1071
    exact v_locs [2, 3, 4, 5, 0, 6, 7, 8, 9, 10, 11, 12, 13, 14, 15, 16] rfl (K)
  · have := c1071
    refine v_iload F dL_law_1074 1 rfl ?_
    refine v_aload F dL_law_1076 11 rfl ?_
    refine v_iload F dL_law_1078 3 rfl ?_
    refine v_xaald F 0 rfl i (Ix_nI hi (by omega)) (if_pos hi) dL_law_1080 ?_
    refine v_iload F dL_law_1081 2 rfl ?_
    refine v_xald F (i + 1) (exR_out hi) h (Ix_nI hh) dL_law_1083 ?_
    refine v_icmp_eq F (tgt := 1089) dL_law_1084 (by decide) (fun c1084 => ?_) (fun h => absurd ((e6.symm.trans (hg c1071))) h)
    exact v_locs [2, 3, 4, 5, 0, 6, 7, 8, 9, 10, 11, 12, 13, 14, 15, 16] rfl (K)
set_option maxHeartbeats 4000000 in
set_option maxRecDepth 100000 in
theorem jh (F : Fx p l s m #[Value.ref b] meth c cL_law 28 RL X) (G : Gx X l) {C S t jc tc q a a2 B : Nat} {r : Nat → Nat} {g : Nat → Nat → Int32} {fa fb : Nat → Int32} {σ : Sg} {ln : Nat → Nat} (hC : C ≤ 787500) (hS0 : S ≤ 6738968) (hM : M 0 = σ) (I : RI σ jc tc B ln) {i h : Nat} {u : Int32} (hi : i < jc) (hh : h < 2) (hg : ¬ g i h < 0 → σ 6 i h = g i h) (K : V p l e room_1 s m #[Value.ref b] below meth c Q X 28 (exE X q jc r g a fa a2 fb) (M) lf (C) (S) 1089 [(26, .int (nI h)), (25, .int (nI i)), (24, .int (sBru σ i)), (23, .int (sCau σ i)), (22, .int (u + hv (σ 6 i h))), (21, .ref a2), (20, .int (sHam σ tc)), (19, .int (sFel σ tc)), (18, .int (sThr σ tc)), (17, .ref a), (15, .ref q), (5, .int (nI tc)), (4, .int (nI jc)), (2, .int (nI t)), (1, .ref (X.2.1 5 0 0)), (0, .ref b)] []) : V p l e room_1 s m #[Value.ref b] below meth c Q X 28 (exE X q jc r g a fa a2 fb) (M) lf (C) (S) 996 [(26, .int (nI h)), (25, .int (nI i)), (24, .int (sBru σ i)), (23, .int (sCau σ i)), (22, .int u), (21, .ref a2), (20, .int (sHam σ tc)), (19, .int (sFel σ tc)), (18, .int (sThr σ tc)), (17, .ref a), (15, .ref q), (5, .int (nI tc)), (4, .int (nI jc)), (2, .int (nI t)), (1, .ref (X.2.1 5 0 0)), (0, .ref b)] [] := by
  rcases I.2.2.2.1 i h hi hh with e6 | ⟨k, hk, e6, y3, y4, y5⟩
  · exact jh_m F G hC hS0 hM I hi hh hg e6 K
  · exact jh_k F G hC hS0 hM I hi hh hg hk e6 y3 y4 y5 K
set_option maxHeartbeats 4000000 in
set_option maxRecDepth 100000 in
theorem jo (F : Fx p l s m #[Value.ref b] meth c cL_law 28 RL X) (G : Gx X l) {C S t jc tc q a a2 B : Nat} {r : Nat → Nat} {g : Nat → Nat → Int32} {fa fb : Nat → Int32} {σ : Sg} {ln : Nat → Nat} (hC : C ≤ 787500) (hS0 : S ≤ 6738968) (hM : M 0 = σ) (I : RI σ jc tc B ln) {i : Nat} (hi : i < jc) (hg : ∀ i h, i < jc → h < 2 → ¬ g i h < 0 → σ 6 i h = g i h) (tF : tlF σ jc tc fb) (K : V p l e room_1 s m #[Value.ref b] below meth c Q X 28 (exE X q jc r g a fa a2 fb) (M) lf (C) (S) 980 [(25, .int (nI (i + 1))), (24, .int (sBru σ (i + 1))), (23, .int (sCau σ (i + 1))), (22, .int (sHan σ (i + 1))), (21, .ref a2), (20, .int (sHam σ tc)), (19, .int (sFel σ tc)), (18, .int (sThr σ tc)), (17, .ref a), (15, .ref q), (5, .int (nI tc)), (4, .int (nI jc)), (2, .int (nI t)), (1, .ref (X.2.1 5 0 0)), (0, .ref b)] []) : V p l e room_1 s m #[Value.ref b] below meth c Q X 28 (exE X q jc r g a fa a2 fb) (M) lf (C) (S) 987 [(25, .int (nI i)), (24, .int (sBru σ i)), (23, .int (sCau σ i)), (22, .int (sHan σ i)), (21, .ref a2), (20, .int (sHam σ tc)), (19, .int (sFel σ tc)), (18, .int (sThr σ tc)), (17, .ref a), (15, .ref q), (5, .int (nI tc)), (4, .int (nI jc)), (2, .int (nI t)), (1, .ref (X.2.1 5 0 0)), (0, .ref b)] [] := by
  have h4 := I.1.1
  have h12 := I.1.2.1
  have hS : Shp (M 0) jc tc ln := by rw [hM]; exact I.1
  refine v_iconst F (v := nI 0) dL_law_987 (by decide) ?_
  refine v_istore F dL_law_988 (by decide) (lv' := [(26, .int _), (25, .int _), (24, .int _), (23, .int _), (22, .int _), (21, .ref _), (20, .int _), (19, .int _), (18, .int _), (17, .ref _), (15, .ref _), (5, .int _), (4, .int _), (2, .int _), (1, .ref _), (0, .ref _)]) rfl ?_
  refine v_iload F dL_law_990 0 rfl ?_
  refine v_iconst F (v := nI 2) dL_law_992 (by decide) ?_
  refine v_icmp_ge F (tgt := 1095) dL_law_993 (by decide) (fun h => absurd h ((by decide))) (fun c993 => ?_)
  refine v_locs [0, 1, 2, 3, 4, 5, 6, 7, 8, 9, 10, 11, 12, 13, 14, 15] rfl ?_
  refine jh F G hC hS0 hM I hi (h := 0) (by decide) (hg i 0 hi (by decide)) ?_
  refine v_iinc F (k := 0) (nI 1) dL_law_1089 rfl (iinc_nI 0) (by decide) (lv' := [(26, .int _), (25, .int _), (24, .int _), (23, .int _), (22, .int _), (21, .ref _), (20, .int _), (19, .int _), (18, .int _), (17, .ref _), (15, .ref _), (5, .int _), (4, .int _), (2, .int _), (1, .ref _), (0, .ref _)]) rfl ?_
  refine v_goto F (tgt := 990) dL_law_1092 (by decide) ?_
  refine v_iload F dL_law_990 0 rfl ?_
  refine v_iconst F (v := nI 2) dL_law_992 (by decide) ?_
  refine v_icmp_ge F (tgt := 1095) dL_law_993 (by decide) (fun h => absurd h ((by decide))) (fun c993 => ?_)
  refine v_locs [0, 1, 2, 3, 4, 5, 6, 7, 8, 9, 10, 11, 12, 13, 14, 15] rfl ?_
  refine jh F G hC hS0 hM I hi (h := 1) (by decide) (hg i 1 hi (by decide)) ?_
  refine v_iinc F (k := 0) (nI 2) dL_law_1089 rfl (iinc_nI 1) (by decide) (lv' := [(26, .int _), (25, .int _), (24, .int _), (23, .int _), (22, .int _), (21, .ref _), (20, .int _), (19, .int _), (18, .int _), (17, .ref _), (15, .ref _), (5, .int _), (4, .int _), (2, .int _), (1, .ref _), (0, .ref _)]) rfl ?_
  refine v_goto F (tgt := 990) dL_law_1092 (by decide) ?_
  refine v_iload F dL_law_990 0 rfl ?_
  refine v_iconst F (v := nI 2) dL_law_992 (by decide) ?_
  refine v_icmp_ge F (tgt := 1095) dL_law_993 (by decide) (fun c993 => ?_) (fun h => absurd ((by decide)) h)
  refine v_iload F dL_law_1095 3 rfl ?_
  refine v_aload_n F dL_law_1097 rfl 14 rfl ?_
  refine v_iload F dL_law_1098 1 rfl ?_
  refine v_bipush F (v := nI 6) dL_law_1100 (by decide) ?_
  refine v_callVi F (As := [_, _]) (rest := [.int _]) rfl (c_X4_juggler G hS hi (q := 6) (by decide)) Rv_H wm_L_57 rfl ⟨rfl, rfl, Nat.le_of_ble_eq_true rfl, Nat.le_of_ble_eq_true rfl, (by show _ ≤ 787500; omega), (by show _ ≤ 6738968; omega), Nat.le_of_ble_eq_true rfl⟩ dL_law_1102 ?_
  refine v_topr (σ 2 i 4) (by rw [hM]; rfl) ?_
  refine v_iadd F dL_law_1105 ?_
  refine v_topr (sCau σ (i + 1)) rfl ?_
  refine v_istore F dL_law_1106 (by decide) (lv' := [(23, .int _), (26, .int _), (25, .int _), (24, .int _), (22, .int _), (21, .ref _), (20, .int _), (19, .int _), (18, .int _), (17, .ref _), (15, .ref _), (5, .int _), (4, .int _), (2, .int _), (1, .ref _), (0, .ref _)]) rfl ?_
  refine v_iload F dL_law_1108 3 rfl ?_
  refine v_aload_n F dL_law_1110 rfl 14 rfl ?_
  refine v_iload F dL_law_1111 2 rfl ?_
  refine v_iconst F (v := nI 1) dL_law_1113 (by decide) ?_
  refine v_callVi F (As := [_, _]) (rest := [.int _]) rfl (c_X4_juggler G hS hi (q := 1) (by decide)) Rv_H wm_L_57 rfl ⟨rfl, rfl, Nat.le_of_ble_eq_true rfl, Nat.le_of_ble_eq_true rfl, (by show _ ≤ 787500; omega), (by show _ ≤ 6738968; omega), Nat.le_of_ble_eq_true rfl⟩ dL_law_1114 ?_
  refine v_topr (σ 2 i 3) (by rw [hM]; rfl) ?_
  refine v_iadd F dL_law_1117 ?_
  refine v_topr (sBru σ (i + 1)) rfl ?_
  refine v_istore F dL_law_1118 (by decide) (lv' := [(24, .int _), (23, .int _), (26, .int _), (25, .int _), (22, .int _), (21, .ref _), (20, .int _), (19, .int _), (18, .int _), (17, .ref _), (15, .ref _), (5, .int _), (4, .int _), (2, .int _), (1, .ref _), (0, .ref _)]) rfl ?_
  refine v_aload_n F dL_law_1120 rfl 14 rfl ?_
  refine v_iload F dL_law_1121 3 rfl ?_
  refine v_iconst F (v := nI 5) dL_law_1123 (by decide) ?_
  refine v_callVi F (As := [_, _]) (rest := []) rfl (c_X4_juggler G hS hi (q := 5) (by decide)) Rv_H wm_L_57 rfl ⟨rfl, rfl, Nat.le_of_ble_eq_true rfl, Nat.le_of_ble_eq_true rfl, (by show _ ≤ 787500; omega), (by show _ ≤ 6738968; omega), Nat.le_of_ble_eq_true rfl⟩ dL_law_1124 ?_
  refine v_topr (fFlies σ tc (nI i)) (by rw [hM]; rfl) ?_
  refine v_aload F dL_law_1127 5 rfl ?_
  refine v_iload F dL_law_1129 3 rfl ?_
  refine v_xald F (jc + 2) exE_b i (Ix_nI hi (by omega)) dL_law_1131 ?_
  refine v_icmp_eq F (tgt := 1137) dL_law_1132 (by decide) (fun c1132 => ?_) (fun h => absurd ((tF i hi).symm) h)
  refine v_iinc F (k := 3) (nI (i + 1)) dL_law_1137 rfl (iinc_nI i) (by decide) (lv' := [(25, .int _), (24, .int _), (23, .int _), (26, .int _), (22, .int _), (21, .ref _), (20, .int _), (19, .int _), (18, .int _), (17, .ref _), (15, .ref _), (5, .int _), (4, .int _), (2, .int _), (1, .ref _), (0, .ref _)]) rfl ?_
  refine v_goto F (tgt := 980) dL_law_1140 (by decide) ?_
  refine v_locs [0, 1, 2, 4, 5, 6, 7, 8, 9, 10, 11, 12, 13, 14, 15] rfl ?_
  have e : sHan σ i + hv (σ 6 i 0) + hv (σ 6 i 1) = sHan σ (i + 1) := by
    show _ = sHan σ i + (hv (σ 6 i 0) + hv (σ 6 i 1))
    rw [Int32.add_assoc]
  rw [e]
  exact K
set_option maxHeartbeats 4000000 in
set_option maxRecDepth 100000 in
theorem L_jug (F : Fx p l s m #[Value.ref b] meth c cL_law 28 RL X) (G : Gx X l) {C S t jc tc q a a2 B : Nat} {r : Nat → Nat} {g : Nat → Nat → Int32} {fa fb : Nat → Int32} {σ : Sg} {ln : Nat → Nat} (hC : C ≤ 787500) (hS0 : S ≤ 6738968) (hM : M 0 = σ) (I : RI σ jc tc B ln) (hg : ∀ i h, i < jc → h < 2 → ¬ g i h < 0 → σ 6 i h = g i h) (tF : tlF σ jc tc fb) (K : V p l e room_1 s m #[Value.ref b] below meth c Q X 28 (exE X q jc r g a fa a2 fb) (M) lf (C) (S) 1143 [(24, .int (sBru σ jc)), (23, .int (sCau σ jc)), (22, .int (sHan σ jc)), (21, .ref a2), (20, .int (sHam σ tc)), (19, .int (sFel σ tc)), (18, .int (sThr σ tc)), (17, .ref a), (15, .ref q), (5, .int (nI tc)), (4, .int (nI jc)), (2, .int (nI t)), (1, .ref (X.2.1 5 0 0)), (0, .ref b)] [])  : ∀ (f i : Nat), f + i = jc → V p l e room_1 s m #[Value.ref b] below meth c Q X 28 (exE X q jc r g a fa a2 fb) (M) lf (C) (S) 980 [(25, .int (nI i)), (24, .int (sBru σ i)), (23, .int (sCau σ i)), (22, .int (sHan σ i)), (21, .ref a2), (20, .int (sHam σ tc)), (19, .int (sFel σ tc)), (18, .int (sThr σ tc)), (17, .ref a), (15, .ref q), (5, .int (nI tc)), (4, .int (nI jc)), (2, .int (nI t)), (1, .ref (X.2.1 5 0 0)), (0, .ref b)] [] := by
  have h4 := I.1.1
  intro f
  induction f with
  | zero =>
    intro i hf
    obtain rfl : i = jc := by omega
    refine v_iload F dL_law_980 0 rfl ?_
    refine v_iload F dL_law_982 11 rfl ?_
    refine v_icmp_ge F (tgt := 1143) dL_law_984 (by decide) (fun c984 => ?_) (fun h => absurd ((nI_le (Nat.le_refl _) (by omega))) h)
    exact v_locs [1, 2, 3, 4, 5, 6, 7, 8, 9, 10, 11, 12, 13, 14] rfl (K)
  | succ f ih =>
    intro i hf
    refine v_iload F dL_law_980 0 rfl ?_
    refine v_iload F dL_law_982 11 rfl ?_
    refine v_icmp_ge F (tgt := 1143) dL_law_984 (by decide) (fun h => absurd h ((nI_ge (by omega) (by omega)))) (fun c984 => ?_)
    refine v_locs [0, 1, 2, 3, 4, 5, 6, 7, 8, 9, 10, 11, 12, 13, 14] rfl ?_
    exact jo F G hC hS0 hM I (show i < jc by omega) hg tF (ih (i + 1) (by omega))
set_option maxHeartbeats 4000000 in
set_option maxRecDepth 100000 in
theorem law_cnt (F : Fx p l s m #[Value.ref b] meth c cL_law 28 RL X) (G : Gx X l) {C S t jc tc q a a2 B : Nat} {r : Nat → Nat} {g : Nat → Nat → Int32} {fa fb : Nat → Int32} {σ : Sg} {ln : Nat → Nat} (hC : C ≤ 787500) (hS0 : S ≤ 6738968) (hM : M 0 = σ) (I : RI σ jc tc B ln) (tA : tlA σ tc fa) (K : V p l e room_1 s m #[Value.ref b] below meth c Q X 28 (exE X q jc r g a fa a2 fb) (M) lf (C) (S) 1196 [(24, .int (sBru σ jc)), (23, .int (sCau σ jc)), (22, .int (sHan σ jc)), (21, .ref a2), (20, .int (sHam σ tc)), (19, .int (sFel σ tc)), (18, .int (sThr σ tc)), (17, .ref a), (15, .ref q), (5, .int (nI tc)), (4, .int (nI jc)), (2, .int (nI t)), (1, .ref (X.2.1 5 0 0)), (0, .ref b)] [])  : V p l e room_1 s m #[Value.ref b] below meth c Q X 28 (exE X q jc r g a fa a2 fb) (M) lf (C) (S) 1143 [(24, .int (sBru σ jc)), (23, .int (sCau σ jc)), (22, .int (sHan σ jc)), (21, .ref a2), (20, .int (sHam σ tc)), (19, .int (sFel σ tc)), (18, .int (sThr σ tc)), (17, .ref a), (15, .ref q), (5, .int (nI tc)), (4, .int (nI jc)), (2, .int (nI t)), (1, .ref (X.2.1 5 0 0)), (0, .ref b)] [] := by
  have h4 := I.1.1
  have h12 := I.1.2.1
  have hS : Shp (M 0) jc tc ln := by rw [hM]; exact I.1
  refine v_iconst F (v := nI 0) dL_law_1143 (by decide) ?_
  refine v_istore F dL_law_1144 (by decide) (lv' := [(25, .int _), (24, .int _), (23, .int _), (22, .int _), (21, .ref _), (20, .int _), (19, .int _), (18, .int _), (17, .ref _), (15, .ref _), (5, .int _), (4, .int _), (2, .int _), (1, .ref _), (0, .ref _)]) rfl ?_
  refine v_iload F dL_law_1146 0 rfl ?_
  refine v_iconst F (v := nI 4) dL_law_1148 (by decide) ?_
  refine v_icmp_ge F (tgt := 1196) dL_law_1149 (by decide) (fun h => absurd h ((by decide))) (fun c1149 => ?_)
  refine v_aload_n F dL_law_1152 rfl 13 rfl ?_
  refine v_iload F dL_law_1153 0 rfl ?_
  refine v_if_ne F (tgt := 1162) dL_law_1155 (by decide) (fun h => absurd (rfl) h) (fun c1155 => ?_)
  refine v_iconst F (v := nI 5) dL_law_1158 (by decide) ?_
  refine v_goto F (tgt := 1177) dL_law_1159 (by decide) ?_
  refine v_callVi F (As := [_]) (rest := []) rfl (c_X4_count G hS (q := 5) (by decide)) Rv_H wm_L_54 rfl ⟨rfl, rfl, Nat.le_of_ble_eq_true rfl, Nat.le_of_ble_eq_true rfl, (by show _ ≤ 787500; omega), (by show _ ≤ 6738968; omega), Nat.le_of_ble_eq_true rfl⟩ dL_law_1177 ?_
  refine v_topr (fIn σ tc 0) (by rw [hM]; rfl) ?_
  refine v_aload F dL_law_1180 8 rfl ?_
  refine v_iload F dL_law_1182 0 rfl ?_
  refine v_xald F (jc + 1) exE_a 0 (Ix_nI (by decide)) dL_law_1184 ?_
  refine v_icmp_eq F (tgt := 1190) dL_law_1185 (by decide) (fun c1185 => ?_) (fun h => absurd ((tA 0 (by decide)).symm) h)
  refine v_iinc F (k := 0) (nI 1) dL_law_1190 rfl (iinc_nI 0) (by decide) (lv' := [(25, .int _), (24, .int _), (23, .int _), (22, .int _), (21, .ref _), (20, .int _), (19, .int _), (18, .int _), (17, .ref _), (15, .ref _), (5, .int _), (4, .int _), (2, .int _), (1, .ref _), (0, .ref _)]) rfl ?_
  refine v_goto F (tgt := 1146) dL_law_1193 (by decide) ?_
  refine v_iload F dL_law_1146 0 rfl ?_
  refine v_iconst F (v := nI 4) dL_law_1148 (by decide) ?_
  refine v_icmp_ge F (tgt := 1196) dL_law_1149 (by decide) (fun h => absurd h ((by decide))) (fun c1149 => ?_)
  refine v_aload_n F dL_law_1152 rfl 13 rfl ?_
  refine v_iload F dL_law_1153 0 rfl ?_
  refine v_if_ne F (tgt := 1162) dL_law_1155 (by decide) (fun c1155 => ?_) (fun h => absurd h ((by decide)))
  refine v_iload F dL_law_1162 0 rfl ?_
  refine v_iconst F (v := nI 3) dL_law_1164 (by decide) ?_
  refine v_icmp_ne F (tgt := 1173) dL_law_1165 (by decide) (fun c1165 => ?_) (fun h => absurd h ((by decide)))
  refine v_iconst F (v := nI 2) dL_law_1173 (by decide) ?_
  refine v_iload F dL_law_1174 0 rfl ?_
  refine v_iadd F dL_law_1176 ?_
  refine v_topr (nI 3) (nI_add _ _) ?_
  refine v_callVi F (As := [_]) (rest := []) rfl (c_X4_count G hS (q := 3) (by decide)) Rv_H wm_L_54 rfl ⟨rfl, rfl, Nat.le_of_ble_eq_true rfl, Nat.le_of_ble_eq_true rfl, (by show _ ≤ 787500; omega), (by show _ ≤ 6738968; omega), Nat.le_of_ble_eq_true rfl⟩ dL_law_1177 ?_
  refine v_topr (fIn σ tc 1) (by rw [hM]; rfl) ?_
  refine v_aload F dL_law_1180 8 rfl ?_
  refine v_iload F dL_law_1182 0 rfl ?_
  refine v_xald F (jc + 1) exE_a 1 (Ix_nI (by decide)) dL_law_1184 ?_
  refine v_icmp_eq F (tgt := 1190) dL_law_1185 (by decide) (fun c1185 => ?_) (fun h => absurd ((tA 1 (by decide)).symm) h)
  refine v_iinc F (k := 0) (nI 2) dL_law_1190 rfl (iinc_nI 1) (by decide) (lv' := [(25, .int _), (24, .int _), (23, .int _), (22, .int _), (21, .ref _), (20, .int _), (19, .int _), (18, .int _), (17, .ref _), (15, .ref _), (5, .int _), (4, .int _), (2, .int _), (1, .ref _), (0, .ref _)]) rfl ?_
  refine v_goto F (tgt := 1146) dL_law_1193 (by decide) ?_
  refine v_iload F dL_law_1146 0 rfl ?_
  refine v_iconst F (v := nI 4) dL_law_1148 (by decide) ?_
  refine v_icmp_ge F (tgt := 1196) dL_law_1149 (by decide) (fun h => absurd h ((by decide))) (fun c1149 => ?_)
  refine v_aload_n F dL_law_1152 rfl 13 rfl ?_
  refine v_iload F dL_law_1153 0 rfl ?_
  refine v_if_ne F (tgt := 1162) dL_law_1155 (by decide) (fun c1155 => ?_) (fun h => absurd h ((by decide)))
  refine v_iload F dL_law_1162 0 rfl ?_
  refine v_iconst F (v := nI 3) dL_law_1164 (by decide) ?_
  refine v_icmp_ne F (tgt := 1173) dL_law_1165 (by decide) (fun c1165 => ?_) (fun h => absurd h ((by decide)))
  refine v_iconst F (v := nI 2) dL_law_1173 (by decide) ?_
  refine v_iload F dL_law_1174 0 rfl ?_
  refine v_iadd F dL_law_1176 ?_
  refine v_topr (nI 4) (nI_add _ _) ?_
  refine v_callVi F (As := [_]) (rest := []) rfl (c_X4_count G hS (q := 4) (by decide)) Rv_H wm_L_54 rfl ⟨rfl, rfl, Nat.le_of_ble_eq_true rfl, Nat.le_of_ble_eq_true rfl, (by show _ ≤ 787500; omega), (by show _ ≤ 6738968; omega), Nat.le_of_ble_eq_true rfl⟩ dL_law_1177 ?_
  refine v_topr (fIn σ tc 2) (by rw [hM]; rfl) ?_
  refine v_aload F dL_law_1180 8 rfl ?_
  refine v_iload F dL_law_1182 0 rfl ?_
  refine v_xald F (jc + 1) exE_a 2 (Ix_nI (by decide)) dL_law_1184 ?_
  refine v_icmp_eq F (tgt := 1190) dL_law_1185 (by decide) (fun c1185 => ?_) (fun h => absurd ((tA 2 (by decide)).symm) h)
  refine v_iinc F (k := 0) (nI 3) dL_law_1190 rfl (iinc_nI 2) (by decide) (lv' := [(25, .int _), (24, .int _), (23, .int _), (22, .int _), (21, .ref _), (20, .int _), (19, .int _), (18, .int _), (17, .ref _), (15, .ref _), (5, .int _), (4, .int _), (2, .int _), (1, .ref _), (0, .ref _)]) rfl ?_
  refine v_goto F (tgt := 1146) dL_law_1193 (by decide) ?_
  refine v_iload F dL_law_1146 0 rfl ?_
  refine v_iconst F (v := nI 4) dL_law_1148 (by decide) ?_
  refine v_icmp_ge F (tgt := 1196) dL_law_1149 (by decide) (fun h => absurd h ((by decide))) (fun c1149 => ?_)
  refine v_aload_n F dL_law_1152 rfl 13 rfl ?_
  refine v_iload F dL_law_1153 0 rfl ?_
  refine v_if_ne F (tgt := 1162) dL_law_1155 (by decide) (fun c1155 => ?_) (fun h => absurd h ((by decide)))
  refine v_iload F dL_law_1162 0 rfl ?_
  refine v_iconst F (v := nI 3) dL_law_1164 (by decide) ?_
  refine v_icmp_ne F (tgt := 1173) dL_law_1165 (by decide) (fun h => absurd (rfl) h) (fun c1165 => ?_)
  refine v_bipush F (v := nI 6) dL_law_1168 (by decide) ?_
  refine v_goto F (tgt := 1177) dL_law_1170 (by decide) ?_
  refine v_callVi F (As := [_]) (rest := []) rfl (c_X4_count G hS (q := 6) (by decide)) Rv_H wm_L_54 rfl ⟨rfl, rfl, Nat.le_of_ble_eq_true rfl, Nat.le_of_ble_eq_true rfl, (by show _ ≤ 787500; omega), (by show _ ≤ 6738968; omega), Nat.le_of_ble_eq_true rfl⟩ dL_law_1177 ?_
  refine v_topr (fIn σ tc 3) (by rw [hM]; rfl) ?_
  refine v_aload F dL_law_1180 8 rfl ?_
  refine v_iload F dL_law_1182 0 rfl ?_
  refine v_xald F (jc + 1) exE_a 3 (Ix_nI (by decide)) dL_law_1184 ?_
  refine v_icmp_eq F (tgt := 1190) dL_law_1185 (by decide) (fun c1185 => ?_) (fun h => absurd ((tA 3 (by decide)).symm) h)
  refine v_iinc F (k := 0) (nI 4) dL_law_1190 rfl (iinc_nI 3) (by decide) (lv' := [(25, .int _), (24, .int _), (23, .int _), (22, .int _), (21, .ref _), (20, .int _), (19, .int _), (18, .int _), (17, .ref _), (15, .ref _), (5, .int _), (4, .int _), (2, .int _), (1, .ref _), (0, .ref _)]) rfl ?_
  refine v_goto F (tgt := 1146) dL_law_1193 (by decide) ?_
  refine v_iload F dL_law_1146 0 rfl ?_
  refine v_iconst F (v := nI 4) dL_law_1148 (by decide) ?_
  refine v_icmp_ge F (tgt := 1196) dL_law_1149 (by decide) (fun c1149 => ?_) (fun h => absurd ((by decide)) h)
  exact v_locs [1, 2, 3, 4, 5, 6, 7, 8, 9, 10, 11, 12, 13, 14] rfl (K)
set_option maxHeartbeats 4000000 in
set_option maxRecDepth 100000 in
theorem law_fin (F : Fx p l s m #[Value.ref b] meth c cL_law 28 RL X) (G : Gx X l) {C S t jc tc q a a2 B : Nat} {r : Nat → Nat} {g : Nat → Nat → Int32} {fa fb : Nat → Int32} {σ : Sg} {ln : Nat → Nat} (hC : C ≤ 787500) (hS0 : S ≤ 6738968) (hM : M 0 = σ) (I : RI σ jc tc B ln) (hB : 1 ≤ B) (hB2 : B < 2 ^ 31) (tA : tlA σ tc fa) (K : V p l e room_1 s m #[Value.ref b] below meth c Q X 28 (exE X q jc r g a fa a2 fb) (M) lf (C) (S) 1269 [(2, .int (nI t)), (1, .ref (X.2.1 5 0 0)), (0, .ref b)] [])  : V p l e room_1 s m #[Value.ref b] below meth c Q X 28 (exE X q jc r g a fa a2 fb) (M) lf (C) (S) 1196 [(24, .int (sBru σ jc)), (23, .int (sCau σ jc)), (22, .int (sHan σ jc)), (21, .ref a2), (20, .int (sHam σ tc)), (19, .int (sFel σ tc)), (18, .int (sThr σ tc)), (17, .ref a), (15, .ref q), (5, .int (nI tc)), (4, .int (nI jc)), (2, .int (nI t)), (1, .ref (X.2.1 5 0 0)), (0, .ref b)] [] := by
  have h4 := I.1.1
  have h12 := I.1.2.1
  have hS : Shp (M 0) jc tc ln := by rw [hM]; exact I.1
  refine v_iload F dL_law_1196 2 rfl ?_
  refine v_aload F dL_law_1198 7 rfl ?_
  refine v_iconst F (v := nI 1) dL_law_1200 (by decide) ?_
  refine v_xald F (jc + 1) exE_a 1 (Ix_nI (by decide)) dL_law_1201 ?_
  refine v_icmp_ne F (tgt := 1267) dL_law_1202 (by decide) (fun h => absurd ((I.2.2.2.2.2.2.2.2.trans ((fIn_s tc).symm.trans (tA 1 (by decide)).symm))) h) (fun c1202 => ?_)
  refine v_iload F dL_law_1205 6 rfl ?_
  refine v_iload F dL_law_1207 1 rfl ?_
  refine v_iload F dL_law_1209 5 rfl ?_
  refine v_iadd F dL_law_1211 ?_
  refine v_aload F dL_law_1212 7 rfl ?_
  refine v_iconst F (v := nI 2) dL_law_1214 (by decide) ?_
  refine v_xald F (jc + 1) exE_a 2 (Ix_nI (by decide)) dL_law_1215 ?_
  refine v_iadd F dL_law_1216 ?_
  refine v_icmp_ne F (tgt := 1267) dL_law_1217 (by decide) (fun h => absurd ((by rw [tA 2 (by decide)]; exact I.2.2.2.2.2.2.1.trans (congrArg (fun z => sCau σ jc + sFel σ tc + z) (fIn_s tc).symm))) h) (fun c1217 => ?_)
  refine v_iload F dL_law_1220 6 rfl ?_
  refine v_aload_n F dL_law_1222 rfl 12 rfl ?_
  refine v_bipush F (v := nI 8) dL_law_1223 (by decide) ?_
  refine v_callVi F (As := [_]) (rest := [.int _]) rfl (c_X4_count G hS (q := 8) (by decide)) Rv_H wm_L_54 rfl ⟨rfl, rfl, Nat.le_of_ble_eq_true rfl, Nat.le_of_ble_eq_true rfl, (by show _ ≤ 787500; omega), (by show _ ≤ 6738968; omega), Nat.le_of_ble_eq_true rfl⟩ dL_law_1225 ?_
  refine v_topr (sThr σ tc) (by rw [hM]; rfl) ?_
  refine v_icmp_ne F (tgt := 1267) dL_law_1228 (by decide) (fun h => absurd (rfl) h) (fun c1228 => ?_)
  refine v_iload F dL_law_1231 5 rfl ?_
  refine v_aload_n F dL_law_1233 rfl 12 rfl ?_
  refine v_bipush F (v := nI 7) dL_law_1234 (by decide) ?_
  refine v_callVi F (As := [_]) (rest := [.int _]) rfl (c_X4_count G hS (q := 7) (by decide)) Rv_H wm_L_54 rfl ⟨rfl, rfl, Nat.le_of_ble_eq_true rfl, Nat.le_of_ble_eq_true rfl, (by show _ ≤ 787500; omega), (by show _ ≤ 6738968; omega), Nat.le_of_ble_eq_true rfl⟩ dL_law_1236 ?_
  refine v_topr (sFel σ tc) (by rw [hM]; rfl) ?_
  refine v_icmp_ne F (tgt := 1267) dL_law_1239 (by decide) (fun h => absurd (rfl) h) (fun c1239 => ?_)
  refine v_iload F dL_law_1242 0 rfl ?_
  refine v_iload F dL_law_1244 4 rfl ?_
  refine v_icmp_ne F (tgt := 1267) dL_law_1246 (by decide) (fun h => absurd (I.2.2.2.2.2.2.2.1) h) (fun c1246 => ?_)
  refine v_aload_n F dL_law_1249 rfl 12 rfl ?_
  refine v_callVd F (As := []) (rest := []) rfl (c_X4_mean G hS) Rv_H wm_L_82 rfl ⟨rfl, rfl, Nat.le_of_ble_eq_true rfl, Nat.le_of_ble_eq_true rfl, (by show _ ≤ 787500; omega), (by show _ ≤ 6738968; omega), Nat.le_of_ble_eq_true rfl⟩ dL_law_1250 ?_
  refine v_topd (FP.ddiv (FP.i2d (sThr σ tc)) (FP.i2d (nI B))) (by rw [hM]; unfold fMean; rw [I.2.1, if_neg (nI_ne0 hB hB2)]; rfl) ?_
  refine v_iload F dL_law_1253 6 rfl ?_
  refine v_i2d F dL_law_1255 ?_
  refine v_aload_n F dL_law_1256 rfl 12 rfl ?_
  refine v_iconst F (v := nI 0) dL_law_1257 (by decide) ?_
  refine v_callVi F (As := [_]) (rest := [.double _, .double _]) rfl (c_X4_count G hS (q := 0) (by decide)) Rv_H wm_L_54 rfl ⟨rfl, rfl, Nat.le_of_ble_eq_true rfl, Nat.le_of_ble_eq_true rfl, (by show _ ≤ 787500; omega), (by show _ ≤ 6738968; omega), Nat.le_of_ble_eq_true rfl⟩ dL_law_1258 ?_
  refine v_topr (nI B) (by rw [hM]; exact I.2.1) ?_
  refine v_i2d F dL_law_1261 ?_
  refine v_ddiv F dL_law_1262 (mean_num _ (nI_ne0 hB hB2)) ?_
  refine v_dcmp F dL_law_1263 ?_
  refine v_topr 0 (mean_cmp _ (nI_ne0 hB hB2) _) ?_
  refine v_if_eq F (tgt := 1269) dL_law_1264 (by decide) (fun c1264 => ?_) (fun h => absurd (rfl) h)
  exact v_locs [11, 12, 13] rfl (K)
end LJUG
