/-! ===== the law's own methods that call the class and catch what it throws ===== -/
theorem wc_L_come : Cond.codeWith yL_come cL_come 4 (some .int) [(0, 9, 12, 13), (0, 9, 15, 15)] ∈ wAll := wAll_in (i := 327) (by decide +kernel) (by decide +kernel)
abbrev rm_L_come : Room := { frames := 3, cells := 0, slots := 0, locals := 68 }
abbrev rx_L_come : Room := { frames := 7, cells := 1, slots := 6, locals := 103 }
set_option maxHeartbeats 4000000 in
set_option maxRecDepth 100000 in
theorem c_L_come {X : Cx} {l : Launch} (G : Gx X l) {M : Mem} {lf : Lf} {j n : Nat} (hj : j < 4) (hσ : M 0 0 0 2 = nI j) (h1 : 1 ≤ n) (h9 : n ≤ 9) : CI X l yL_come (wsh yL_come cL_come 4 (some .int) [(0, 9, 12, 13), (0, 9, 15, 15)]) rm_L_come [.ref (X.2.1 5 0 0), .int (nI n), .ref (X.2.1 6 0 0)] (M) lf 0 (uC M 0 (fAddJ (M 0) j (nI n))) (vp_updL lf 0 (nI j).toInt64) 0 0 := by
  refine CI_ofH (lv := [(0, .ref _), (1, .int _), (2, .ref _)]) G (by decide) (Nat.le_of_ble_eq_true rfl) rfl (fun p e s m args below meth c F hr htab => ?_)
  have F : Fx p l s m args meth c cL_come 4 RL X := F
  refine v_aload_n F dL_come_0 rfl 2 rfl ?_
  refine v_iconst F (v := 0) dL_come_1 (by decide) ?_
  refine v_aload_n F dL_come_2 rfl 0 rfl ?_
  refine v_iload_n F dL_come_3 rfl 1 rfl ?_
  refine v_callVi F (As := [_]) (rest := [.int _, .ref _]) rfl (c_X4_come G hj hσ h1 h9 (j := j) (n := n)) Rv_H wm_L_7 rfl ⟨rfl, rfl, Nat.le_of_ble_eq_true rfl, Nat.le_of_ble_eq_true rfl, Nat.le_of_ble_eq_true rfl, Nat.le_of_ble_eq_true rfl, Nat.le_of_ble_eq_true rfl⟩ dL_come_4 ?_
  refine v_i2l F dL_come_7 ?_
  refine v_last F ⟨by decide, by decide, by decide⟩ dL_come_8 ?_
  refine v_goto F (tgt := 18) dL_come_9 (by decide) ?_
  refine v_iconst F (v := 0) dL_come_18 (by decide) ?_
  exact v_iret F hr dL_come_19 rfl rfl rfl
set_option maxHeartbeats 4000000 in
set_option maxRecDepth 100000 in
theorem x_L_come_a {X : Cx} {l : Launch} (G : Gx X l) {M : Mem} {lf : Lf} {x : Int32} (hx : x < 1 ∨ 9 < x) : CI X l yL_come (wsh yL_come cL_come 4 (some .int) [(0, 9, 12, 13), (0, 9, 15, 15)]) rx_L_come [.ref (X.2.1 5 0 0), .int x, .ref (X.2.1 6 0 0)] (M) lf 1 (M) lf 1 6 := by
  refine CI_ofH (lv := [(0, .ref _), (1, .int _), (2, .ref _)]) G (by decide) (Nat.le_of_ble_eq_true rfl) rfl (fun p e s m args below meth c F hr htab => ?_)
  have F : Fx p l s m args meth c cL_come 4 RL X := F
  refine v_aload_n F dL_come_0 rfl 2 rfl ?_
  refine v_iconst F (v := 0) dL_come_1 (by decide) ?_
  refine v_aload_n F dL_come_2 rfl 0 rfl ?_
  refine v_iload_n F dL_come_3 rfl 1 rfl ?_
  refine v_callXVi F (As := [_]) (rest := [.int _, .ref _]) rfl (x_X4_come_a G hx (x := x)) Rv_H wm_L_7 rfl ⟨rfl, rfl, Nat.le_of_ble_eq_true rfl, Nat.le_of_ble_eq_true rfl, Nat.le_of_ble_eq_true rfl, Nat.le_of_ble_eq_true rfl, Nat.le_of_ble_eq_true rfl⟩ dL_come_4 (fun H1 locs1 ls ce q9 a1 a2 a3 a4 a5 a6 a7 => ?_)
  refine v_catch F htab [] ⟨0, 9, 12, 13⟩ [⟨0, 9, 15, 15⟩] rfl (fun z hz => absurd hz List.not_mem_nil) (by decide) (by decide) wcl_L_13 wca_a H1 locs1 ls ce q9 a1 a2 a3 a4 a5 a6 a7 ?_
  refine v_astore_n F dL_come_12 rfl (by decide) (lv' := [(3, .ref _), (0, .ref _), (1, .int _), (2, .ref _)]) rfl ?_
  refine v_iconst F (v := 1) dL_come_13 (by decide) ?_
  exact v_iret F hr dL_come_14 rfl rfl rfl
set_option maxHeartbeats 4000000 in
set_option maxRecDepth 100000 in
theorem x_L_come_s {X : Cx} {l : Launch} (G : Gx X l) {M : Mem} {lf : Lf} {n : Nat} (hσ : M 0 0 0 2 = nI 4) (h1 : 1 ≤ n) (h9 : n ≤ 9) : CI X l yL_come (wsh yL_come cL_come 4 (some .int) [(0, 9, 12, 13), (0, 9, 15, 15)]) rx_L_come [.ref (X.2.1 5 0 0), .int (nI n), .ref (X.2.1 6 0 0)] (M) lf 2 (M) lf 1 6 := by
  refine CI_ofH (lv := [(0, .ref _), (1, .int _), (2, .ref _)]) G (by decide) (Nat.le_of_ble_eq_true rfl) rfl (fun p e s m args below meth c F hr htab => ?_)
  have F : Fx p l s m args meth c cL_come 4 RL X := F
  refine v_aload_n F dL_come_0 rfl 2 rfl ?_
  refine v_iconst F (v := 0) dL_come_1 (by decide) ?_
  refine v_aload_n F dL_come_2 rfl 0 rfl ?_
  refine v_iload_n F dL_come_3 rfl 1 rfl ?_
  refine v_callXVi F (As := [_]) (rest := [.int _, .ref _]) rfl (x_X4_come_s G hσ h1 h9 (n := n)) Rv_H wm_L_7 rfl ⟨rfl, rfl, Nat.le_of_ble_eq_true rfl, Nat.le_of_ble_eq_true rfl, Nat.le_of_ble_eq_true rfl, Nat.le_of_ble_eq_true rfl, Nat.le_of_ble_eq_true rfl⟩ dL_come_4 (fun H1 locs1 ls ce q9 a1 a2 a3 a4 a5 a6 a7 => ?_)
  refine v_catch F htab [⟨0, 9, 12, 13⟩] ⟨0, 9, 15, 15⟩ [] rfl (fun z hz => by rw [List.mem_singleton.mp hz]; exact Or.inr ⟨by decide, _, wcl_L_13, by decide +kernel⟩) (by decide) (by decide) wcl_L_15 wca_s H1 locs1 ls ce q9 a1 a2 a3 a4 a5 a6 a7 ?_
  refine v_astore_n F dL_come_15 rfl (by decide) (lv' := [(3, .ref _), (0, .ref _), (1, .int _), (2, .ref _)]) rfl ?_
  refine v_iconst F (v := 2) dL_come_16 (by decide) ?_
  exact v_iret F hr dL_come_17 rfl rfl rfl
theorem wc_L_setPattern : Cond.codeWith yL_setPattern cL_setPattern 6 (some .int) [(0, 12, 15, 21), (0, 12, 19, 13)] ∈ wAll := wAll_in (i := 428) (by decide +kernel) (by decide +kernel)
abbrev rm_L_setPattern : Room := { frames := 3, cells := 0, slots := 0, locals := 67 }
abbrev rx_L_setPattern : Room := { frames := 8, cells := 1, slots := 6, locals := 128 }
set_option maxHeartbeats 4000000 in
set_option maxRecDepth 100000 in
theorem c_L_setPattern {X : Cx} {l : Launch} (G : Gx X l) {M : Mem} {lf : Lf} {jc tc : Nat} {ln : Nat → Nat} (hS : Shp (M 0) jc tc ln) {j n d : Nat} (hj : j < jc) (h1 : 1 ≤ n) (h8 : n ≤ 8) (hd : d < 10 ^ n) : CI X l yL_setPattern (wsh yL_setPattern cL_setPattern 6 (some .int) [(0, 12, 15, 21), (0, 12, 19, 13)]) rm_L_setPattern [.ref (X.2.1 5 0 0), .int (nI j), .int (nI n), .int (nI d), .ref (X.2.1 6 0 0)] (M) lf 0 (uC M 0 (fWrite (M 0) j (nI j) n (nI d))) (vp_updL lf 0 (nI (ln j)).toInt64) 0 0 := by
  refine CI_ofH (lv := [(0, .ref _), (1, .int _), (2, .int _), (3, .int _), (4, .ref _)]) G (by decide) (Nat.le_of_ble_eq_true rfl) rfl (fun p e s m args below meth c F hr htab => ?_)
  have F : Fx p l s m args meth c cL_setPattern 6 RL X := F
  refine v_aload F dL_setPattern_0 4 rfl ?_
  refine v_iconst F (v := 0) dL_setPattern_2 (by decide) ?_
  refine v_aload_n F dL_setPattern_3 rfl 0 rfl ?_
  refine v_iload_n F dL_setPattern_4 rfl 1 rfl ?_
  refine v_iload_n F dL_setPattern_5 rfl 2 rfl ?_
  refine v_iload_n F dL_setPattern_6 rfl 3 rfl ?_
  refine v_callVi F (As := [_, _, _]) (rest := [.int _, .ref _]) rfl (c_X4_setPattern G hS hj h1 h8 hd (jc := jc) (tc := tc) (ln := ln) (j := j) (n := n) (d := d)) Rv_H wm_L_17 rfl ⟨rfl, rfl, Nat.le_of_ble_eq_true rfl, Nat.le_of_ble_eq_true rfl, Nat.le_of_ble_eq_true rfl, Nat.le_of_ble_eq_true rfl, Nat.le_of_ble_eq_true rfl⟩ dL_setPattern_7 ?_
  refine v_i2l F dL_setPattern_10 ?_
  refine v_last F ⟨by decide, by decide, by decide⟩ dL_setPattern_11 ?_
  refine v_goto F (tgt := 23) dL_setPattern_12 (by decide) ?_
  refine v_iconst F (v := 0) dL_setPattern_23 (by decide) ?_
  exact v_iret F hr dL_setPattern_24 rfl rfl rfl
set_option maxHeartbeats 4000000 in
set_option maxRecDepth 100000 in
theorem x_L_setPattern_j {X : Cx} {l : Launch} (G : Gx X l) {M : Mem} {lf : Lf} {jc tc : Nat} {ln : Nat → Nat} (hS : Shp (M 0) jc tc ln) {x y z : Int32} (hx : x < 0 ∨ nI jc ≤ x) : CI X l yL_setPattern (wsh yL_setPattern cL_setPattern 6 (some .int) [(0, 12, 15, 21), (0, 12, 19, 13)]) rx_L_setPattern [.ref (X.2.1 5 0 0), .int x, .int y, .int z, .ref (X.2.1 6 0 0)] (M) lf 1 (M) lf 1 6 := by
  refine CI_ofH (lv := [(0, .ref _), (1, .int _), (2, .int _), (3, .int _), (4, .ref _)]) G (by decide) (Nat.le_of_ble_eq_true rfl) rfl (fun p e s m args below meth c F hr htab => ?_)
  have F : Fx p l s m args meth c cL_setPattern 6 RL X := F
  refine v_aload F dL_setPattern_0 4 rfl ?_
  refine v_iconst F (v := 0) dL_setPattern_2 (by decide) ?_
  refine v_aload_n F dL_setPattern_3 rfl 0 rfl ?_
  refine v_iload_n F dL_setPattern_4 rfl 1 rfl ?_
  refine v_iload_n F dL_setPattern_5 rfl 2 rfl ?_
  refine v_iload_n F dL_setPattern_6 rfl 3 rfl ?_
  refine v_callXVi F (As := [_, _, _]) (rest := [.int _, .ref _]) rfl (x_X4_setPattern_j G hS hx (jc := jc) (tc := tc) (ln := ln) (x := x) (y := y) (z := z)) Rv_H wm_L_17 rfl ⟨rfl, rfl, Nat.le_of_ble_eq_true rfl, Nat.le_of_ble_eq_true rfl, Nat.le_of_ble_eq_true rfl, Nat.le_of_ble_eq_true rfl, Nat.le_of_ble_eq_true rfl⟩ dL_setPattern_7 (fun H1 locs1 ls ce q9 a1 a2 a3 a4 a5 a6 a7 => ?_)
  refine v_catch F htab [] ⟨0, 12, 15, 21⟩ [⟨0, 12, 19, 13⟩] rfl (fun z hz => absurd hz List.not_mem_nil) (by decide) (by decide) wcl_L_21 wca_i H1 locs1 ls ce q9 a1 a2 a3 a4 a5 a6 a7 ?_
  refine v_astore F dL_setPattern_15 (by decide) (lv' := [(5, .ref _), (0, .ref _), (1, .int _), (2, .int _), (3, .int _), (4, .ref _)]) rfl ?_
  refine v_iconst F (v := 1) dL_setPattern_17 (by decide) ?_
  exact v_iret F hr dL_setPattern_18 rfl rfl rfl
set_option maxHeartbeats 4000000 in
set_option maxRecDepth 100000 in
theorem x_L_setPattern_n {X : Cx} {l : Launch} (G : Gx X l) {M : Mem} {lf : Lf} {jc tc : Nat} {ln : Nat → Nat} (hS : Shp (M 0) jc tc ln) {j : Nat} (hj : j < jc) {y z : Int32} (hy : y < 1 ∨ 8 < y) : CI X l yL_setPattern (wsh yL_setPattern cL_setPattern 6 (some .int) [(0, 12, 15, 21), (0, 12, 19, 13)]) rx_L_setPattern [.ref (X.2.1 5 0 0), .int (nI j), .int y, .int z, .ref (X.2.1 6 0 0)] (M) lf 2 (M) lf 1 6 := by
  refine CI_ofH (lv := [(0, .ref _), (1, .int _), (2, .int _), (3, .int _), (4, .ref _)]) G (by decide) (Nat.le_of_ble_eq_true rfl) rfl (fun p e s m args below meth c F hr htab => ?_)
  have F : Fx p l s m args meth c cL_setPattern 6 RL X := F
  refine v_aload F dL_setPattern_0 4 rfl ?_
  refine v_iconst F (v := 0) dL_setPattern_2 (by decide) ?_
  refine v_aload_n F dL_setPattern_3 rfl 0 rfl ?_
  refine v_iload_n F dL_setPattern_4 rfl 1 rfl ?_
  refine v_iload_n F dL_setPattern_5 rfl 2 rfl ?_
  refine v_iload_n F dL_setPattern_6 rfl 3 rfl ?_
  refine v_callXVi F (As := [_, _, _]) (rest := [.int _, .ref _]) rfl (x_X4_setPattern_n G hS hj hy (jc := jc) (tc := tc) (ln := ln) (j := j) (y := y) (z := z)) Rv_H wm_L_17 rfl ⟨rfl, rfl, Nat.le_of_ble_eq_true rfl, Nat.le_of_ble_eq_true rfl, Nat.le_of_ble_eq_true rfl, Nat.le_of_ble_eq_true rfl, Nat.le_of_ble_eq_true rfl⟩ dL_setPattern_7 (fun H1 locs1 ls ce q9 a1 a2 a3 a4 a5 a6 a7 => ?_)
  refine v_catch F htab [⟨0, 12, 15, 21⟩] ⟨0, 12, 19, 13⟩ [] rfl (fun z hz => by rw [List.mem_singleton.mp hz]; exact Or.inr ⟨by decide, _, wcl_L_21, by decide +kernel⟩) (by decide) (by decide) wcl_L_13 wca_a H1 locs1 ls ce q9 a1 a2 a3 a4 a5 a6 a7 ?_
  refine v_astore F dL_setPattern_19 (by decide) (lv' := [(5, .ref _), (0, .ref _), (1, .int _), (2, .int _), (3, .int _), (4, .ref _)]) rfl ?_
  refine v_iconst F (v := 2) dL_setPattern_21 (by decide) ?_
  exact v_iret F hr dL_setPattern_22 rfl rfl rfl
set_option maxHeartbeats 4000000 in
set_option maxRecDepth 100000 in
theorem x_L_setPattern_d {X : Cx} {l : Launch} (G : Gx X l) {M : Mem} {lf : Lf} {jc tc : Nat} {ln : Nat → Nat} (hS : Shp (M 0) jc tc ln) {j n : Nat} (hj : j < jc) (h1 : 1 ≤ n) (h8 : n ≤ 8) {z : Int32} (hz : z < 0 ∨ nI (10 ^ n) ≤ z) : CI X l yL_setPattern (wsh yL_setPattern cL_setPattern 6 (some .int) [(0, 12, 15, 21), (0, 12, 19, 13)]) rx_L_setPattern [.ref (X.2.1 5 0 0), .int (nI j), .int (nI n), .int z, .ref (X.2.1 6 0 0)] (M) lf 2 (M) lf 1 6 := by
  refine CI_ofH (lv := [(0, .ref _), (1, .int _), (2, .int _), (3, .int _), (4, .ref _)]) G (by decide) (Nat.le_of_ble_eq_true rfl) rfl (fun p e s m args below meth c F hr htab => ?_)
  have F : Fx p l s m args meth c cL_setPattern 6 RL X := F
  refine v_aload F dL_setPattern_0 4 rfl ?_
  refine v_iconst F (v := 0) dL_setPattern_2 (by decide) ?_
  refine v_aload_n F dL_setPattern_3 rfl 0 rfl ?_
  refine v_iload_n F dL_setPattern_4 rfl 1 rfl ?_
  refine v_iload_n F dL_setPattern_5 rfl 2 rfl ?_
  refine v_iload_n F dL_setPattern_6 rfl 3 rfl ?_
  refine v_callXVi F (As := [_, _, _]) (rest := [.int _, .ref _]) rfl (x_X4_setPattern_d G hS hj h1 h8 hz (jc := jc) (tc := tc) (ln := ln) (j := j) (n := n) (z := z)) Rv_H wm_L_17 rfl ⟨rfl, rfl, Nat.le_of_ble_eq_true rfl, Nat.le_of_ble_eq_true rfl, Nat.le_of_ble_eq_true rfl, Nat.le_of_ble_eq_true rfl, Nat.le_of_ble_eq_true rfl⟩ dL_setPattern_7 (fun H1 locs1 ls ce q9 a1 a2 a3 a4 a5 a6 a7 => ?_)
  refine v_catch F htab [⟨0, 12, 15, 21⟩] ⟨0, 12, 19, 13⟩ [] rfl (fun z hz => by rw [List.mem_singleton.mp hz]; exact Or.inr ⟨by decide, _, wcl_L_21, by decide +kernel⟩) (by decide) (by decide) wcl_L_13 wca_a H1 locs1 ls ce q9 a1 a2 a3 a4 a5 a6 a7 ?_
  refine v_astore F dL_setPattern_19 (by decide) (lv' := [(5, .ref _), (0, .ref _), (1, .int _), (2, .int _), (3, .int _), (4, .ref _)]) rfl ?_
  refine v_iconst F (v := 2) dL_setPattern_21 (by decide) ?_
  exact v_iret F hr dL_setPattern_22 rfl rfl rfl
theorem wc_L_pass : Cond.codeWith yL_pass cL_pass 6 (some .int) [(0, 12, 15, 21)] ∈ wAll := wAll_in (i := 463) (by decide +kernel) (by decide +kernel)
abbrev rm_L_pass : Room := { frames := 4, cells := 0, slots := 0, locals := 89 }
abbrev rx_L_pass : Room := { frames := 9, cells := 1, slots := 6, locals := 150 }
set_option maxHeartbeats 4000000 in
set_option maxRecDepth 100000 in
theorem c_L_pass {X : Cx} {l : Launch} (G : Gx X l) {M : Mem} {lf : Lf} {jc tc : Nat} {ln : Nat → Nat} (hS : Shp (M 0) jc tc ln) {j q t : Nat} (hj : j < jc) (hq : q < ln j) (ht : t < jc) : CI X l yL_pass (wsh yL_pass cL_pass 6 (some .int) [(0, 12, 15, 21)]) rm_L_pass [.ref (X.2.1 5 0 0), .int (nI j), .int (nI q), .int (nI t), .ref (X.2.1 6 0 0)] (M) lf 0 (uC M 0 (u3 (M 0) 5 j q (nI t))) (vp_updL lf 0 (M 0 5 j q).toInt64) 0 0 := by
  refine CI_ofH (lv := [(0, .ref _), (1, .int _), (2, .int _), (3, .int _), (4, .ref _)]) G (by decide) (Nat.le_of_ble_eq_true rfl) rfl (fun p e s m args below meth c F hr htab => ?_)
  have F : Fx p l s m args meth c cL_pass 6 RL X := F
  refine v_aload F dL_pass_0 4 rfl ?_
  refine v_iconst F (v := 0) dL_pass_2 (by decide) ?_
  refine v_aload_n F dL_pass_3 rfl 0 rfl ?_
  refine v_iload_n F dL_pass_4 rfl 1 rfl ?_
  refine v_iload_n F dL_pass_5 rfl 2 rfl ?_
  refine v_iload_n F dL_pass_6 rfl 3 rfl ?_
  refine v_callVi F (As := [_, _, _]) (rest := [.int _, .ref _]) rfl (c_X4_pass G hS hj hq ht (jc := jc) (tc := tc) (ln := ln) (j := j) (q := q) (t := t)) Rv_H wm_L_23 rfl ⟨rfl, rfl, Nat.le_of_ble_eq_true rfl, Nat.le_of_ble_eq_true rfl, Nat.le_of_ble_eq_true rfl, Nat.le_of_ble_eq_true rfl, Nat.le_of_ble_eq_true rfl⟩ dL_pass_7 ?_
  refine v_i2l F dL_pass_10 ?_
  refine v_last F ⟨by decide, by decide, by decide⟩ dL_pass_11 ?_
  refine v_goto F (tgt := 19) dL_pass_12 (by decide) ?_
  refine v_iconst F (v := 0) dL_pass_19 (by decide) ?_
  exact v_iret F hr dL_pass_20 rfl rfl rfl
set_option maxHeartbeats 4000000 in
set_option maxRecDepth 100000 in
theorem x_L_pass_j {X : Cx} {l : Launch} (G : Gx X l) {M : Mem} {lf : Lf} {jc tc : Nat} {ln : Nat → Nat} (hS : Shp (M 0) jc tc ln) {x y z : Int32} (hx : x < 0 ∨ nI jc ≤ x) : CI X l yL_pass (wsh yL_pass cL_pass 6 (some .int) [(0, 12, 15, 21)]) rx_L_pass [.ref (X.2.1 5 0 0), .int x, .int y, .int z, .ref (X.2.1 6 0 0)] (M) lf 1 (M) lf 1 6 := by
  refine CI_ofH (lv := [(0, .ref _), (1, .int _), (2, .int _), (3, .int _), (4, .ref _)]) G (by decide) (Nat.le_of_ble_eq_true rfl) rfl (fun p e s m args below meth c F hr htab => ?_)
  have F : Fx p l s m args meth c cL_pass 6 RL X := F
  refine v_aload F dL_pass_0 4 rfl ?_
  refine v_iconst F (v := 0) dL_pass_2 (by decide) ?_
  refine v_aload_n F dL_pass_3 rfl 0 rfl ?_
  refine v_iload_n F dL_pass_4 rfl 1 rfl ?_
  refine v_iload_n F dL_pass_5 rfl 2 rfl ?_
  refine v_iload_n F dL_pass_6 rfl 3 rfl ?_
  refine v_callXVi F (As := [_, _, _]) (rest := [.int _, .ref _]) rfl (x_X4_pass_j G hS hx (jc := jc) (tc := tc) (ln := ln) (x := x) (y := y) (z := z)) Rv_H wm_L_23 rfl ⟨rfl, rfl, Nat.le_of_ble_eq_true rfl, Nat.le_of_ble_eq_true rfl, Nat.le_of_ble_eq_true rfl, Nat.le_of_ble_eq_true rfl, Nat.le_of_ble_eq_true rfl⟩ dL_pass_7 (fun H1 locs1 ls ce q9 a1 a2 a3 a4 a5 a6 a7 => ?_)
  refine v_catch F htab [] ⟨0, 12, 15, 21⟩ [] rfl (fun z hz => absurd hz List.not_mem_nil) (by decide) (by decide) wcl_L_21 wca_i H1 locs1 ls ce q9 a1 a2 a3 a4 a5 a6 a7 ?_
  refine v_astore F dL_pass_15 (by decide) (lv' := [(5, .ref _), (0, .ref _), (1, .int _), (2, .int _), (3, .int _), (4, .ref _)]) rfl ?_
  refine v_iconst F (v := 1) dL_pass_17 (by decide) ?_
  exact v_iret F hr dL_pass_18 rfl rfl rfl
set_option maxHeartbeats 4000000 in
set_option maxRecDepth 100000 in
theorem x_L_pass_q {X : Cx} {l : Launch} (G : Gx X l) {M : Mem} {lf : Lf} {jc tc : Nat} {ln : Nat → Nat} (hS : Shp (M 0) jc tc ln) {j : Nat} (hj : j < jc) {y z : Int32} (hx : y < 0 ∨ nI (ln j) ≤ y) : CI X l yL_pass (wsh yL_pass cL_pass 6 (some .int) [(0, 12, 15, 21)]) rx_L_pass [.ref (X.2.1 5 0 0), .int (nI j), .int y, .int z, .ref (X.2.1 6 0 0)] (M) lf 1 (M) lf 1 6 := by
  refine CI_ofH (lv := [(0, .ref _), (1, .int _), (2, .int _), (3, .int _), (4, .ref _)]) G (by decide) (Nat.le_of_ble_eq_true rfl) rfl (fun p e s m args below meth c F hr htab => ?_)
  have F : Fx p l s m args meth c cL_pass 6 RL X := F
  refine v_aload F dL_pass_0 4 rfl ?_
  refine v_iconst F (v := 0) dL_pass_2 (by decide) ?_
  refine v_aload_n F dL_pass_3 rfl 0 rfl ?_
  refine v_iload_n F dL_pass_4 rfl 1 rfl ?_
  refine v_iload_n F dL_pass_5 rfl 2 rfl ?_
  refine v_iload_n F dL_pass_6 rfl 3 rfl ?_
  refine v_callXVi F (As := [_, _, _]) (rest := [.int _, .ref _]) rfl (x_X4_pass_q G hS hj hx (jc := jc) (tc := tc) (ln := ln) (j := j) (y := y) (z := z)) Rv_H wm_L_23 rfl ⟨rfl, rfl, Nat.le_of_ble_eq_true rfl, Nat.le_of_ble_eq_true rfl, Nat.le_of_ble_eq_true rfl, Nat.le_of_ble_eq_true rfl, Nat.le_of_ble_eq_true rfl⟩ dL_pass_7 (fun H1 locs1 ls ce q9 a1 a2 a3 a4 a5 a6 a7 => ?_)
  refine v_catch F htab [] ⟨0, 12, 15, 21⟩ [] rfl (fun z hz => absurd hz List.not_mem_nil) (by decide) (by decide) wcl_L_21 wca_i H1 locs1 ls ce q9 a1 a2 a3 a4 a5 a6 a7 ?_
  refine v_astore F dL_pass_15 (by decide) (lv' := [(5, .ref _), (0, .ref _), (1, .int _), (2, .int _), (3, .int _), (4, .ref _)]) rfl ?_
  refine v_iconst F (v := 1) dL_pass_17 (by decide) ?_
  exact v_iret F hr dL_pass_18 rfl rfl rfl
set_option maxHeartbeats 4000000 in
set_option maxRecDepth 100000 in
theorem x_L_pass_t {X : Cx} {l : Launch} (G : Gx X l) {M : Mem} {lf : Lf} {jc tc : Nat} {ln : Nat → Nat} (hS : Shp (M 0) jc tc ln) {j q : Nat} (hj : j < jc) (hq : q < ln j) {z : Int32} (hx : z < 0 ∨ nI jc ≤ z) : CI X l yL_pass (wsh yL_pass cL_pass 6 (some .int) [(0, 12, 15, 21)]) rx_L_pass [.ref (X.2.1 5 0 0), .int (nI j), .int (nI q), .int z, .ref (X.2.1 6 0 0)] (M) lf 1 (M) lf 1 6 := by
  refine CI_ofH (lv := [(0, .ref _), (1, .int _), (2, .int _), (3, .int _), (4, .ref _)]) G (by decide) (Nat.le_of_ble_eq_true rfl) rfl (fun p e s m args below meth c F hr htab => ?_)
  have F : Fx p l s m args meth c cL_pass 6 RL X := F
  refine v_aload F dL_pass_0 4 rfl ?_
  refine v_iconst F (v := 0) dL_pass_2 (by decide) ?_
  refine v_aload_n F dL_pass_3 rfl 0 rfl ?_
  refine v_iload_n F dL_pass_4 rfl 1 rfl ?_
  refine v_iload_n F dL_pass_5 rfl 2 rfl ?_
  refine v_iload_n F dL_pass_6 rfl 3 rfl ?_
  refine v_callXVi F (As := [_, _, _]) (rest := [.int _, .ref _]) rfl (x_X4_pass_t G hS hj hq hx (jc := jc) (tc := tc) (ln := ln) (j := j) (q := q) (z := z)) Rv_H wm_L_23 rfl ⟨rfl, rfl, Nat.le_of_ble_eq_true rfl, Nat.le_of_ble_eq_true rfl, Nat.le_of_ble_eq_true rfl, Nat.le_of_ble_eq_true rfl, Nat.le_of_ble_eq_true rfl⟩ dL_pass_7 (fun H1 locs1 ls ce q9 a1 a2 a3 a4 a5 a6 a7 => ?_)
  refine v_catch F htab [] ⟨0, 12, 15, 21⟩ [] rfl (fun z hz => absurd hz List.not_mem_nil) (by decide) (by decide) wcl_L_21 wca_i H1 locs1 ls ce q9 a1 a2 a3 a4 a5 a6 a7 ?_
  refine v_astore F dL_pass_15 (by decide) (lv' := [(5, .ref _), (0, .ref _), (1, .int _), (2, .int _), (3, .int _), (4, .ref _)]) rfl ?_
  refine v_iconst F (v := 1) dL_pass_17 (by decide) ?_
  exact v_iret F hr dL_pass_18 rfl rfl rfl
theorem wc_L_written : Cond.codeWith yL_written cL_written 6 (some .int) [(0, 12, 15, 21)] ∈ wAll := wAll_in (i := 475) (by decide +kernel) (by decide +kernel)
abbrev rm_L_written : Room := { frames := 4, cells := 0, slots := 0, locals := 88 }
abbrev rx_L_written : Room := { frames := 9, cells := 1, slots := 6, locals := 149 }
set_option maxHeartbeats 4000000 in
set_option maxRecDepth 100000 in
theorem c_L_written_0 {X : Cx} {l : Launch} (G : Gx X l) {M : Mem} {lf : Lf} {jc tc : Nat} {ln : Nat → Nat} (hS : Shp (M 0) jc tc ln) {j q : Nat} (hj : j < jc) (hq : q < ln j) : CI X l yL_written (wsh yL_written cL_written 6 (some .int) [(0, 12, 15, 21)]) rm_L_written [.ref (X.2.1 5 0 0), .int (nI j), .int (nI q), .int (nI 0), .ref (X.2.1 6 0 0)] (M) lf 0 (M) (vp_updL lf 0 (M 0 4 j q).toInt64) 0 0 := by
  refine CI_ofH (lv := [(0, .ref _), (1, .int _), (2, .int _), (3, .int _), (4, .ref _)]) G (by decide) (Nat.le_of_ble_eq_true rfl) rfl (fun p e s m args below meth c F hr htab => ?_)
  have F : Fx p l s m args meth c cL_written 6 RL X := F
  refine v_aload F dL_written_0 4 rfl ?_
  refine v_iconst F (v := 0) dL_written_2 (by decide) ?_
  refine v_aload_n F dL_written_3 rfl 0 rfl ?_
  refine v_iload_n F dL_written_4 rfl 1 rfl ?_
  refine v_iload_n F dL_written_5 rfl 2 rfl ?_
  refine v_iload_n F dL_written_6 rfl 3 rfl ?_
  refine v_callVi F (As := [_, _, _]) (rest := [.int _, .ref _]) rfl (c_X4_written_0 G hS hj hq (jc := jc) (tc := tc) (ln := ln) (j := j) (q := q)) Rv_H wm_L_26 rfl ⟨rfl, rfl, Nat.le_of_ble_eq_true rfl, Nat.le_of_ble_eq_true rfl, Nat.le_of_ble_eq_true rfl, Nat.le_of_ble_eq_true rfl, Nat.le_of_ble_eq_true rfl⟩ dL_written_7 ?_
  refine v_i2l F dL_written_10 ?_
  refine v_last F ⟨by decide, by decide, by decide⟩ dL_written_11 ?_
  refine v_goto F (tgt := 19) dL_written_12 (by decide) ?_
  refine v_iconst F (v := 0) dL_written_19 (by decide) ?_
  exact v_iret F hr dL_written_20 rfl rfl rfl
set_option maxHeartbeats 4000000 in
set_option maxRecDepth 100000 in
theorem c_L_written_1 {X : Cx} {l : Launch} (G : Gx X l) {M : Mem} {lf : Lf} {jc tc : Nat} {ln : Nat → Nat} (hS : Shp (M 0) jc tc ln) {j q : Nat} (hj : j < jc) (hq : q < ln j) : CI X l yL_written (wsh yL_written cL_written 6 (some .int) [(0, 12, 15, 21)]) rm_L_written [.ref (X.2.1 5 0 0), .int (nI j), .int (nI q), .int (nI 1), .ref (X.2.1 6 0 0)] (M) lf 0 (M) (vp_updL lf 0 (M 0 5 j q).toInt64) 0 0 := by
  refine CI_ofH (lv := [(0, .ref _), (1, .int _), (2, .int _), (3, .int _), (4, .ref _)]) G (by decide) (Nat.le_of_ble_eq_true rfl) rfl (fun p e s m args below meth c F hr htab => ?_)
  have F : Fx p l s m args meth c cL_written 6 RL X := F
  refine v_aload F dL_written_0 4 rfl ?_
  refine v_iconst F (v := 0) dL_written_2 (by decide) ?_
  refine v_aload_n F dL_written_3 rfl 0 rfl ?_
  refine v_iload_n F dL_written_4 rfl 1 rfl ?_
  refine v_iload_n F dL_written_5 rfl 2 rfl ?_
  refine v_iload_n F dL_written_6 rfl 3 rfl ?_
  refine v_callVi F (As := [_, _, _]) (rest := [.int _, .ref _]) rfl (c_X4_written_1 G hS hj hq (jc := jc) (tc := tc) (ln := ln) (j := j) (q := q)) Rv_H wm_L_26 rfl ⟨rfl, rfl, Nat.le_of_ble_eq_true rfl, Nat.le_of_ble_eq_true rfl, Nat.le_of_ble_eq_true rfl, Nat.le_of_ble_eq_true rfl, Nat.le_of_ble_eq_true rfl⟩ dL_written_7 ?_
  refine v_i2l F dL_written_10 ?_
  refine v_last F ⟨by decide, by decide, by decide⟩ dL_written_11 ?_
  refine v_goto F (tgt := 19) dL_written_12 (by decide) ?_
  refine v_iconst F (v := 0) dL_written_19 (by decide) ?_
  exact v_iret F hr dL_written_20 rfl rfl rfl
set_option maxHeartbeats 4000000 in
set_option maxRecDepth 100000 in
theorem x_L_written_j {X : Cx} {l : Launch} (G : Gx X l) {M : Mem} {lf : Lf} {jc tc : Nat} {ln : Nat → Nat} (hS : Shp (M 0) jc tc ln) {x y z : Int32} (hx : x < 0 ∨ nI jc ≤ x) : CI X l yL_written (wsh yL_written cL_written 6 (some .int) [(0, 12, 15, 21)]) rx_L_written [.ref (X.2.1 5 0 0), .int x, .int y, .int z, .ref (X.2.1 6 0 0)] (M) lf 1 (M) lf 1 6 := by
  refine CI_ofH (lv := [(0, .ref _), (1, .int _), (2, .int _), (3, .int _), (4, .ref _)]) G (by decide) (Nat.le_of_ble_eq_true rfl) rfl (fun p e s m args below meth c F hr htab => ?_)
  have F : Fx p l s m args meth c cL_written 6 RL X := F
  refine v_aload F dL_written_0 4 rfl ?_
  refine v_iconst F (v := 0) dL_written_2 (by decide) ?_
  refine v_aload_n F dL_written_3 rfl 0 rfl ?_
  refine v_iload_n F dL_written_4 rfl 1 rfl ?_
  refine v_iload_n F dL_written_5 rfl 2 rfl ?_
  refine v_iload_n F dL_written_6 rfl 3 rfl ?_
  refine v_callXVi F (As := [_, _, _]) (rest := [.int _, .ref _]) rfl (x_X4_written_j G hS hx (jc := jc) (tc := tc) (ln := ln) (x := x) (y := y) (z := z)) Rv_H wm_L_26 rfl ⟨rfl, rfl, Nat.le_of_ble_eq_true rfl, Nat.le_of_ble_eq_true rfl, Nat.le_of_ble_eq_true rfl, Nat.le_of_ble_eq_true rfl, Nat.le_of_ble_eq_true rfl⟩ dL_written_7 (fun H1 locs1 ls ce q9 a1 a2 a3 a4 a5 a6 a7 => ?_)
  refine v_catch F htab [] ⟨0, 12, 15, 21⟩ [] rfl (fun z hz => absurd hz List.not_mem_nil) (by decide) (by decide) wcl_L_21 wca_i H1 locs1 ls ce q9 a1 a2 a3 a4 a5 a6 a7 ?_
  refine v_astore F dL_written_15 (by decide) (lv' := [(5, .ref _), (0, .ref _), (1, .int _), (2, .int _), (3, .int _), (4, .ref _)]) rfl ?_
  refine v_iconst F (v := 1) dL_written_17 (by decide) ?_
  exact v_iret F hr dL_written_18 rfl rfl rfl
set_option maxHeartbeats 4000000 in
set_option maxRecDepth 100000 in
theorem x_L_written_q {X : Cx} {l : Launch} (G : Gx X l) {M : Mem} {lf : Lf} {jc tc : Nat} {ln : Nat → Nat} (hS : Shp (M 0) jc tc ln) {j : Nat} (hj : j < jc) {y z : Int32} (hx : y < 0 ∨ nI (ln j) ≤ y) : CI X l yL_written (wsh yL_written cL_written 6 (some .int) [(0, 12, 15, 21)]) rx_L_written [.ref (X.2.1 5 0 0), .int (nI j), .int y, .int z, .ref (X.2.1 6 0 0)] (M) lf 1 (M) lf 1 6 := by
  refine CI_ofH (lv := [(0, .ref _), (1, .int _), (2, .int _), (3, .int _), (4, .ref _)]) G (by decide) (Nat.le_of_ble_eq_true rfl) rfl (fun p e s m args below meth c F hr htab => ?_)
  have F : Fx p l s m args meth c cL_written 6 RL X := F
  refine v_aload F dL_written_0 4 rfl ?_
  refine v_iconst F (v := 0) dL_written_2 (by decide) ?_
  refine v_aload_n F dL_written_3 rfl 0 rfl ?_
  refine v_iload_n F dL_written_4 rfl 1 rfl ?_
  refine v_iload_n F dL_written_5 rfl 2 rfl ?_
  refine v_iload_n F dL_written_6 rfl 3 rfl ?_
  refine v_callXVi F (As := [_, _, _]) (rest := [.int _, .ref _]) rfl (x_X4_written_q G hS hj hx (jc := jc) (tc := tc) (ln := ln) (j := j) (y := y) (z := z)) Rv_H wm_L_26 rfl ⟨rfl, rfl, Nat.le_of_ble_eq_true rfl, Nat.le_of_ble_eq_true rfl, Nat.le_of_ble_eq_true rfl, Nat.le_of_ble_eq_true rfl, Nat.le_of_ble_eq_true rfl⟩ dL_written_7 (fun H1 locs1 ls ce q9 a1 a2 a3 a4 a5 a6 a7 => ?_)
  refine v_catch F htab [] ⟨0, 12, 15, 21⟩ [] rfl (fun z hz => absurd hz List.not_mem_nil) (by decide) (by decide) wcl_L_21 wca_i H1 locs1 ls ce q9 a1 a2 a3 a4 a5 a6 a7 ?_
  refine v_astore F dL_written_15 (by decide) (lv' := [(5, .ref _), (0, .ref _), (1, .int _), (2, .int _), (3, .int _), (4, .ref _)]) rfl ?_
  refine v_iconst F (v := 1) dL_written_17 (by decide) ?_
  exact v_iret F hr dL_written_18 rfl rfl rfl
set_option maxHeartbeats 4000000 in
set_option maxRecDepth 100000 in
theorem x_L_written_w {X : Cx} {l : Launch} (G : Gx X l) {M : Mem} {lf : Lf} {jc tc : Nat} {ln : Nat → Nat} (hS : Shp (M 0) jc tc ln) {j q : Nat} (hj : j < jc) (hq : q < ln j) {z : Int32} (hx : z < 0 ∨ nI 2 ≤ z) : CI X l yL_written (wsh yL_written cL_written 6 (some .int) [(0, 12, 15, 21)]) rx_L_written [.ref (X.2.1 5 0 0), .int (nI j), .int (nI q), .int z, .ref (X.2.1 6 0 0)] (M) lf 1 (M) lf 1 6 := by
  refine CI_ofH (lv := [(0, .ref _), (1, .int _), (2, .int _), (3, .int _), (4, .ref _)]) G (by decide) (Nat.le_of_ble_eq_true rfl) rfl (fun p e s m args below meth c F hr htab => ?_)
  have F : Fx p l s m args meth c cL_written 6 RL X := F
  refine v_aload F dL_written_0 4 rfl ?_
  refine v_iconst F (v := 0) dL_written_2 (by decide) ?_
  refine v_aload_n F dL_written_3 rfl 0 rfl ?_
  refine v_iload_n F dL_written_4 rfl 1 rfl ?_
  refine v_iload_n F dL_written_5 rfl 2 rfl ?_
  refine v_iload_n F dL_written_6 rfl 3 rfl ?_
  refine v_callXVi F (As := [_, _, _]) (rest := [.int _, .ref _]) rfl (x_X4_written_w G hS hj hq hx (jc := jc) (tc := tc) (ln := ln) (j := j) (q := q) (z := z)) Rv_H wm_L_26 rfl ⟨rfl, rfl, Nat.le_of_ble_eq_true rfl, Nat.le_of_ble_eq_true rfl, Nat.le_of_ble_eq_true rfl, Nat.le_of_ble_eq_true rfl, Nat.le_of_ble_eq_true rfl⟩ dL_written_7 (fun H1 locs1 ls ce q9 a1 a2 a3 a4 a5 a6 a7 => ?_)
  refine v_catch F htab [] ⟨0, 12, 15, 21⟩ [] rfl (fun z hz => absurd hz List.not_mem_nil) (by decide) (by decide) wcl_L_21 wca_i H1 locs1 ls ce q9 a1 a2 a3 a4 a5 a6 a7 ?_
  refine v_astore F dL_written_15 (by decide) (lv' := [(5, .ref _), (0, .ref _), (1, .int _), (2, .int _), (3, .int _), (4, .ref _)]) rfl ?_
  refine v_iconst F (v := 1) dL_written_17 (by decide) ?_
  exact v_iret F hr dL_written_18 rfl rfl rfl
theorem wc_L_make : Cond.codeWith yL_make cL_make 4 (some .int) [(0, 9, 12, 13), (0, 9, 15, 15)] ∈ wAll := wAll_in (i := 486) (by decide +kernel) (by decide +kernel)
abbrev rm_L_make : Room := { frames := 2, cells := 0, slots := 0, locals := 43 }
abbrev rx_L_make : Room := { frames := 7, cells := 1, slots := 6, locals := 103 }
set_option maxHeartbeats 4000000 in
set_option maxRecDepth 100000 in
theorem c_L_make {X : Cx} {l : Launch} (G : Gx X l) {M : Mem} {lf : Lf} {k n : Nat} (hk : k < 12) (hσ : M 0 0 0 3 = nI k) (h3 : n < 3) : CI X l yL_make (wsh yL_make cL_make 4 (some .int) [(0, 9, 12, 13), (0, 9, 15, 15)]) rm_L_make [.ref (X.2.1 5 0 0), .int (nI n), .ref (X.2.1 6 0 0)] (M) lf 0 (uC M 0 (fAddT (M 0) k (nI n))) (vp_updL lf 0 (nI k).toInt64) 0 0 := by
  refine CI_ofH (lv := [(0, .ref _), (1, .int _), (2, .ref _)]) G (by decide) (Nat.le_of_ble_eq_true rfl) rfl (fun p e s m args below meth c F hr htab => ?_)
  have F : Fx p l s m args meth c cL_make 4 RL X := F
  refine v_aload_n F dL_make_0 rfl 2 rfl ?_
  refine v_iconst F (v := 0) dL_make_1 (by decide) ?_
  refine v_aload_n F dL_make_2 rfl 0 rfl ?_
  refine v_iload_n F dL_make_3 rfl 1 rfl ?_
  refine v_callVi F (As := [_]) (rest := [.int _, .ref _]) rfl (c_X4_make G hk hσ h3 (k := k) (n := n)) Rv_H wm_L_29 rfl ⟨rfl, rfl, Nat.le_of_ble_eq_true rfl, Nat.le_of_ble_eq_true rfl, Nat.le_of_ble_eq_true rfl, Nat.le_of_ble_eq_true rfl, Nat.le_of_ble_eq_true rfl⟩ dL_make_4 ?_
  refine v_i2l F dL_make_7 ?_
  refine v_last F ⟨by decide, by decide, by decide⟩ dL_make_8 ?_
  refine v_goto F (tgt := 18) dL_make_9 (by decide) ?_
  refine v_iconst F (v := 0) dL_make_18 (by decide) ?_
  exact v_iret F hr dL_make_19 rfl rfl rfl
set_option maxHeartbeats 4000000 in
set_option maxRecDepth 100000 in
theorem x_L_make_a {X : Cx} {l : Launch} (G : Gx X l) {M : Mem} {lf : Lf} {x : Int32} (hx : x < 0 ∨ nI 3 ≤ x) : CI X l yL_make (wsh yL_make cL_make 4 (some .int) [(0, 9, 12, 13), (0, 9, 15, 15)]) rx_L_make [.ref (X.2.1 5 0 0), .int x, .ref (X.2.1 6 0 0)] (M) lf 1 (M) lf 1 6 := by
  refine CI_ofH (lv := [(0, .ref _), (1, .int _), (2, .ref _)]) G (by decide) (Nat.le_of_ble_eq_true rfl) rfl (fun p e s m args below meth c F hr htab => ?_)
  have F : Fx p l s m args meth c cL_make 4 RL X := F
  refine v_aload_n F dL_make_0 rfl 2 rfl ?_
  refine v_iconst F (v := 0) dL_make_1 (by decide) ?_
  refine v_aload_n F dL_make_2 rfl 0 rfl ?_
  refine v_iload_n F dL_make_3 rfl 1 rfl ?_
  refine v_callXVi F (As := [_]) (rest := [.int _, .ref _]) rfl (x_X4_make_a G hx (x := x)) Rv_H wm_L_29 rfl ⟨rfl, rfl, Nat.le_of_ble_eq_true rfl, Nat.le_of_ble_eq_true rfl, Nat.le_of_ble_eq_true rfl, Nat.le_of_ble_eq_true rfl, Nat.le_of_ble_eq_true rfl⟩ dL_make_4 (fun H1 locs1 ls ce q9 a1 a2 a3 a4 a5 a6 a7 => ?_)
  refine v_catch F htab [] ⟨0, 9, 12, 13⟩ [⟨0, 9, 15, 15⟩] rfl (fun z hz => absurd hz List.not_mem_nil) (by decide) (by decide) wcl_L_13 wca_a H1 locs1 ls ce q9 a1 a2 a3 a4 a5 a6 a7 ?_
  refine v_astore_n F dL_make_12 rfl (by decide) (lv' := [(3, .ref _), (0, .ref _), (1, .int _), (2, .ref _)]) rfl ?_
  refine v_iconst F (v := 1) dL_make_13 (by decide) ?_
  exact v_iret F hr dL_make_14 rfl rfl rfl
set_option maxHeartbeats 4000000 in
set_option maxRecDepth 100000 in
theorem x_L_make_s {X : Cx} {l : Launch} (G : Gx X l) {M : Mem} {lf : Lf} {n : Nat} (hσ : M 0 0 0 3 = nI 12) (h3 : n < 3) : CI X l yL_make (wsh yL_make cL_make 4 (some .int) [(0, 9, 12, 13), (0, 9, 15, 15)]) rx_L_make [.ref (X.2.1 5 0 0), .int (nI n), .ref (X.2.1 6 0 0)] (M) lf 2 (M) lf 1 6 := by
  refine CI_ofH (lv := [(0, .ref _), (1, .int _), (2, .ref _)]) G (by decide) (Nat.le_of_ble_eq_true rfl) rfl (fun p e s m args below meth c F hr htab => ?_)
  have F : Fx p l s m args meth c cL_make 4 RL X := F
  refine v_aload_n F dL_make_0 rfl 2 rfl ?_
  refine v_iconst F (v := 0) dL_make_1 (by decide) ?_
  refine v_aload_n F dL_make_2 rfl 0 rfl ?_
  refine v_iload_n F dL_make_3 rfl 1 rfl ?_
  refine v_callXVi F (As := [_]) (rest := [.int _, .ref _]) rfl (x_X4_make_s G hσ h3 (n := n)) Rv_H wm_L_29 rfl ⟨rfl, rfl, Nat.le_of_ble_eq_true rfl, Nat.le_of_ble_eq_true rfl, Nat.le_of_ble_eq_true rfl, Nat.le_of_ble_eq_true rfl, Nat.le_of_ble_eq_true rfl⟩ dL_make_4 (fun H1 locs1 ls ce q9 a1 a2 a3 a4 a5 a6 a7 => ?_)
  refine v_catch F htab [⟨0, 9, 12, 13⟩] ⟨0, 9, 15, 15⟩ [] rfl (fun z hz => by rw [List.mem_singleton.mp hz]; exact Or.inr ⟨by decide, _, wcl_L_13, by decide +kernel⟩) (by decide) (by decide) wcl_L_15 wca_s H1 locs1 ls ce q9 a1 a2 a3 a4 a5 a6 a7 ?_
  refine v_astore_n F dL_make_15 rfl (by decide) (lv' := [(3, .ref _), (0, .ref _), (1, .int _), (2, .ref _)]) rfl ?_
  refine v_iconst F (v := 2) dL_make_16 (by decide) ?_
  exact v_iret F hr dL_make_17 rfl rfl rfl
theorem wc_L_give : Cond.codeWith yL_give cL_give 6 (some .int) [(0, 12, 15, 21), (0, 12, 19, 15)] ∈ wAll := wAll_in (i := 499) (by decide +kernel) (by decide +kernel)
abbrev rm_L_give : Room := { frames := 3, cells := 0, slots := 0, locals := 65 }
abbrev rx_L_give : Room := { frames := 8, cells := 1, slots := 6, locals := 126 }
set_option maxHeartbeats 4000000 in
set_option maxRecDepth 100000 in
theorem c_L_give {X : Cx} {l : Launch} (G : Gx X l) {M : Mem} {lf : Lf} {jc tc : Nat} {ln : Nat → Nat} (hS : Shp (M 0) jc tc ln) {k j hd : Nat} (hk : k < tc) (hj : j < jc) (hh : hd < 2) (hst : M 0 8 k 1 = 0) (hhd : M 0 6 j hd = -1) : CI X l yL_give (wsh yL_give cL_give 6 (some .int) [(0, 12, 15, 21), (0, 12, 19, 15)]) rm_L_give [.ref (X.2.1 5 0 0), .int (nI k), .int (nI j), .int (nI hd), .ref (X.2.1 6 0 0)] (M) lf 0 (uC M 0 (fPut (M 0) k (nI j) j hd)) (vp_updL lf 0 (fHeld (fPut (M 0) k (nI j) j hd) j).toInt64) 0 0 := by
  refine CI_ofH (lv := [(0, .ref _), (1, .int _), (2, .int _), (3, .int _), (4, .ref _)]) G (by decide) (Nat.le_of_ble_eq_true rfl) rfl (fun p e s m args below meth c F hr htab => ?_)
  have F : Fx p l s m args meth c cL_give 6 RL X := F
  refine v_aload F dL_give_0 4 rfl ?_
  refine v_iconst F (v := 0) dL_give_2 (by decide) ?_
  refine v_aload_n F dL_give_3 rfl 0 rfl ?_
  refine v_iload_n F dL_give_4 rfl 1 rfl ?_
  refine v_iload_n F dL_give_5 rfl 2 rfl ?_
  refine v_iload_n F dL_give_6 rfl 3 rfl ?_
  refine v_callVi F (As := [_, _, _]) (rest := [.int _, .ref _]) rfl (c_X4_give G hS hk hj hh hst hhd (jc := jc) (tc := tc) (ln := ln) (k := k) (j := j) (hd := hd)) Rv_H wm_L_32 rfl ⟨rfl, rfl, Nat.le_of_ble_eq_true rfl, Nat.le_of_ble_eq_true rfl, Nat.le_of_ble_eq_true rfl, Nat.le_of_ble_eq_true rfl, Nat.le_of_ble_eq_true rfl⟩ dL_give_7 ?_
  refine v_i2l F dL_give_10 ?_
  refine v_last F ⟨by decide, by decide, by decide⟩ dL_give_11 ?_
  refine v_goto F (tgt := 23) dL_give_12 (by decide) ?_
  refine v_iconst F (v := 0) dL_give_23 (by decide) ?_
  exact v_iret F hr dL_give_24 rfl rfl rfl
set_option maxHeartbeats 4000000 in
set_option maxRecDepth 100000 in
theorem x_L_give_k {X : Cx} {l : Launch} (G : Gx X l) {M : Mem} {lf : Lf} {jc tc : Nat} {ln : Nat → Nat} (hS : Shp (M 0) jc tc ln) {x y z : Int32} (hx : x < 0 ∨ nI tc ≤ x) : CI X l yL_give (wsh yL_give cL_give 6 (some .int) [(0, 12, 15, 21), (0, 12, 19, 15)]) rx_L_give [.ref (X.2.1 5 0 0), .int x, .int y, .int z, .ref (X.2.1 6 0 0)] (M) lf 1 (M) lf 1 6 := by
  refine CI_ofH (lv := [(0, .ref _), (1, .int _), (2, .int _), (3, .int _), (4, .ref _)]) G (by decide) (Nat.le_of_ble_eq_true rfl) rfl (fun p e s m args below meth c F hr htab => ?_)
  have F : Fx p l s m args meth c cL_give 6 RL X := F
  refine v_aload F dL_give_0 4 rfl ?_
  refine v_iconst F (v := 0) dL_give_2 (by decide) ?_
  refine v_aload_n F dL_give_3 rfl 0 rfl ?_
  refine v_iload_n F dL_give_4 rfl 1 rfl ?_
  refine v_iload_n F dL_give_5 rfl 2 rfl ?_
  refine v_iload_n F dL_give_6 rfl 3 rfl ?_
  refine v_callXVi F (As := [_, _, _]) (rest := [.int _, .ref _]) rfl (x_X4_give_k G hS hx (jc := jc) (tc := tc) (ln := ln) (x := x) (y := y) (z := z)) Rv_H wm_L_32 rfl ⟨rfl, rfl, Nat.le_of_ble_eq_true rfl, Nat.le_of_ble_eq_true rfl, Nat.le_of_ble_eq_true rfl, Nat.le_of_ble_eq_true rfl, Nat.le_of_ble_eq_true rfl⟩ dL_give_7 (fun H1 locs1 ls ce q9 a1 a2 a3 a4 a5 a6 a7 => ?_)
  refine v_catch F htab [] ⟨0, 12, 15, 21⟩ [⟨0, 12, 19, 15⟩] rfl (fun z hz => absurd hz List.not_mem_nil) (by decide) (by decide) wcl_L_21 wca_i H1 locs1 ls ce q9 a1 a2 a3 a4 a5 a6 a7 ?_
  refine v_astore F dL_give_15 (by decide) (lv' := [(5, .ref _), (0, .ref _), (1, .int _), (2, .int _), (3, .int _), (4, .ref _)]) rfl ?_
  refine v_iconst F (v := 1) dL_give_17 (by decide) ?_
  exact v_iret F hr dL_give_18 rfl rfl rfl
set_option maxHeartbeats 4000000 in
set_option maxRecDepth 100000 in
theorem x_L_give_j {X : Cx} {l : Launch} (G : Gx X l) {M : Mem} {lf : Lf} {jc tc : Nat} {ln : Nat → Nat} (hS : Shp (M 0) jc tc ln) {k : Nat} (hk : k < tc) {y z : Int32} (hx : y < 0 ∨ nI jc ≤ y) : CI X l yL_give (wsh yL_give cL_give 6 (some .int) [(0, 12, 15, 21), (0, 12, 19, 15)]) rx_L_give [.ref (X.2.1 5 0 0), .int (nI k), .int y, .int z, .ref (X.2.1 6 0 0)] (M) lf 1 (M) lf 1 6 := by
  refine CI_ofH (lv := [(0, .ref _), (1, .int _), (2, .int _), (3, .int _), (4, .ref _)]) G (by decide) (Nat.le_of_ble_eq_true rfl) rfl (fun p e s m args below meth c F hr htab => ?_)
  have F : Fx p l s m args meth c cL_give 6 RL X := F
  refine v_aload F dL_give_0 4 rfl ?_
  refine v_iconst F (v := 0) dL_give_2 (by decide) ?_
  refine v_aload_n F dL_give_3 rfl 0 rfl ?_
  refine v_iload_n F dL_give_4 rfl 1 rfl ?_
  refine v_iload_n F dL_give_5 rfl 2 rfl ?_
  refine v_iload_n F dL_give_6 rfl 3 rfl ?_
  refine v_callXVi F (As := [_, _, _]) (rest := [.int _, .ref _]) rfl (x_X4_give_j G hS hk hx (jc := jc) (tc := tc) (ln := ln) (k := k) (y := y) (z := z)) Rv_H wm_L_32 rfl ⟨rfl, rfl, Nat.le_of_ble_eq_true rfl, Nat.le_of_ble_eq_true rfl, Nat.le_of_ble_eq_true rfl, Nat.le_of_ble_eq_true rfl, Nat.le_of_ble_eq_true rfl⟩ dL_give_7 (fun H1 locs1 ls ce q9 a1 a2 a3 a4 a5 a6 a7 => ?_)
  refine v_catch F htab [] ⟨0, 12, 15, 21⟩ [⟨0, 12, 19, 15⟩] rfl (fun z hz => absurd hz List.not_mem_nil) (by decide) (by decide) wcl_L_21 wca_i H1 locs1 ls ce q9 a1 a2 a3 a4 a5 a6 a7 ?_
  refine v_astore F dL_give_15 (by decide) (lv' := [(5, .ref _), (0, .ref _), (1, .int _), (2, .int _), (3, .int _), (4, .ref _)]) rfl ?_
  refine v_iconst F (v := 1) dL_give_17 (by decide) ?_
  exact v_iret F hr dL_give_18 rfl rfl rfl
set_option maxHeartbeats 4000000 in
set_option maxRecDepth 100000 in
theorem x_L_give_h {X : Cx} {l : Launch} (G : Gx X l) {M : Mem} {lf : Lf} {jc tc : Nat} {ln : Nat → Nat} (hS : Shp (M 0) jc tc ln) {k j : Nat} (hk : k < tc) (hj : j < jc) {z : Int32} (hx : z < 0 ∨ nI 2 ≤ z) : CI X l yL_give (wsh yL_give cL_give 6 (some .int) [(0, 12, 15, 21), (0, 12, 19, 15)]) rx_L_give [.ref (X.2.1 5 0 0), .int (nI k), .int (nI j), .int z, .ref (X.2.1 6 0 0)] (M) lf 1 (M) lf 1 6 := by
  refine CI_ofH (lv := [(0, .ref _), (1, .int _), (2, .int _), (3, .int _), (4, .ref _)]) G (by decide) (Nat.le_of_ble_eq_true rfl) rfl (fun p e s m args below meth c F hr htab => ?_)
  have F : Fx p l s m args meth c cL_give 6 RL X := F
  refine v_aload F dL_give_0 4 rfl ?_
  refine v_iconst F (v := 0) dL_give_2 (by decide) ?_
  refine v_aload_n F dL_give_3 rfl 0 rfl ?_
  refine v_iload_n F dL_give_4 rfl 1 rfl ?_
  refine v_iload_n F dL_give_5 rfl 2 rfl ?_
  refine v_iload_n F dL_give_6 rfl 3 rfl ?_
  refine v_callXVi F (As := [_, _, _]) (rest := [.int _, .ref _]) rfl (x_X4_give_h G hS hk hj hx (jc := jc) (tc := tc) (ln := ln) (k := k) (j := j) (z := z)) Rv_H wm_L_32 rfl ⟨rfl, rfl, Nat.le_of_ble_eq_true rfl, Nat.le_of_ble_eq_true rfl, Nat.le_of_ble_eq_true rfl, Nat.le_of_ble_eq_true rfl, Nat.le_of_ble_eq_true rfl⟩ dL_give_7 (fun H1 locs1 ls ce q9 a1 a2 a3 a4 a5 a6 a7 => ?_)
  refine v_catch F htab [] ⟨0, 12, 15, 21⟩ [⟨0, 12, 19, 15⟩] rfl (fun z hz => absurd hz List.not_mem_nil) (by decide) (by decide) wcl_L_21 wca_i H1 locs1 ls ce q9 a1 a2 a3 a4 a5 a6 a7 ?_
  refine v_astore F dL_give_15 (by decide) (lv' := [(5, .ref _), (0, .ref _), (1, .int _), (2, .int _), (3, .int _), (4, .ref _)]) rfl ?_
  refine v_iconst F (v := 1) dL_give_17 (by decide) ?_
  exact v_iret F hr dL_give_18 rfl rfl rfl
set_option maxHeartbeats 4000000 in
set_option maxRecDepth 100000 in
theorem x_L_give_s {X : Cx} {l : Launch} (G : Gx X l) {M : Mem} {lf : Lf} {jc tc : Nat} {ln : Nat → Nat} (hS : Shp (M 0) jc tc ln) {k j hd : Nat} (hk : k < tc) (hj : j < jc) (hh : hd < 2) (hst : ¬ M 0 8 k 1 = 0) : CI X l yL_give (wsh yL_give cL_give 6 (some .int) [(0, 12, 15, 21), (0, 12, 19, 15)]) rx_L_give [.ref (X.2.1 5 0 0), .int (nI k), .int (nI j), .int (nI hd), .ref (X.2.1 6 0 0)] (M) lf 2 (M) lf 1 6 := by
  refine CI_ofH (lv := [(0, .ref _), (1, .int _), (2, .int _), (3, .int _), (4, .ref _)]) G (by decide) (Nat.le_of_ble_eq_true rfl) rfl (fun p e s m args below meth c F hr htab => ?_)
  have F : Fx p l s m args meth c cL_give 6 RL X := F
  refine v_aload F dL_give_0 4 rfl ?_
  refine v_iconst F (v := 0) dL_give_2 (by decide) ?_
  refine v_aload_n F dL_give_3 rfl 0 rfl ?_
  refine v_iload_n F dL_give_4 rfl 1 rfl ?_
  refine v_iload_n F dL_give_5 rfl 2 rfl ?_
  refine v_iload_n F dL_give_6 rfl 3 rfl ?_
  refine v_callXVi F (As := [_, _, _]) (rest := [.int _, .ref _]) rfl (x_X4_give_s G hS hk hj hh hst (jc := jc) (tc := tc) (ln := ln) (k := k) (j := j) (hd := hd)) Rv_H wm_L_32 rfl ⟨rfl, rfl, Nat.le_of_ble_eq_true rfl, Nat.le_of_ble_eq_true rfl, Nat.le_of_ble_eq_true rfl, Nat.le_of_ble_eq_true rfl, Nat.le_of_ble_eq_true rfl⟩ dL_give_7 (fun H1 locs1 ls ce q9 a1 a2 a3 a4 a5 a6 a7 => ?_)
  refine v_catch F htab [⟨0, 12, 15, 21⟩] ⟨0, 12, 19, 15⟩ [] rfl (fun z hz => by rw [List.mem_singleton.mp hz]; exact Or.inr ⟨by decide, _, wcl_L_21, by decide +kernel⟩) (by decide) (by decide) wcl_L_15 wca_s H1 locs1 ls ce q9 a1 a2 a3 a4 a5 a6 a7 ?_
  refine v_astore F dL_give_19 (by decide) (lv' := [(5, .ref _), (0, .ref _), (1, .int _), (2, .int _), (3, .int _), (4, .ref _)]) rfl ?_
  refine v_iconst F (v := 2) dL_give_21 (by decide) ?_
  exact v_iret F hr dL_give_22 rfl rfl rfl
set_option maxHeartbeats 4000000 in
set_option maxRecDepth 100000 in
theorem x_L_give_o {X : Cx} {l : Launch} (G : Gx X l) {M : Mem} {lf : Lf} {jc tc : Nat} {ln : Nat → Nat} (hS : Shp (M 0) jc tc ln) {k j hd : Nat} (hk : k < tc) (hj : j < jc) (hh : hd < 2) (hst : M 0 8 k 1 = 0) (hhd : ¬ M 0 6 j hd = -1) : CI X l yL_give (wsh yL_give cL_give 6 (some .int) [(0, 12, 15, 21), (0, 12, 19, 15)]) rx_L_give [.ref (X.2.1 5 0 0), .int (nI k), .int (nI j), .int (nI hd), .ref (X.2.1 6 0 0)] (M) lf 2 (M) lf 1 6 := by
  refine CI_ofH (lv := [(0, .ref _), (1, .int _), (2, .int _), (3, .int _), (4, .ref _)]) G (by decide) (Nat.le_of_ble_eq_true rfl) rfl (fun p e s m args below meth c F hr htab => ?_)
  have F : Fx p l s m args meth c cL_give 6 RL X := F
  refine v_aload F dL_give_0 4 rfl ?_
  refine v_iconst F (v := 0) dL_give_2 (by decide) ?_
  refine v_aload_n F dL_give_3 rfl 0 rfl ?_
  refine v_iload_n F dL_give_4 rfl 1 rfl ?_
  refine v_iload_n F dL_give_5 rfl 2 rfl ?_
  refine v_iload_n F dL_give_6 rfl 3 rfl ?_
  refine v_callXVi F (As := [_, _, _]) (rest := [.int _, .ref _]) rfl (x_X4_give_o G hS hk hj hh hst hhd (jc := jc) (tc := tc) (ln := ln) (k := k) (j := j) (hd := hd)) Rv_H wm_L_32 rfl ⟨rfl, rfl, Nat.le_of_ble_eq_true rfl, Nat.le_of_ble_eq_true rfl, Nat.le_of_ble_eq_true rfl, Nat.le_of_ble_eq_true rfl, Nat.le_of_ble_eq_true rfl⟩ dL_give_7 (fun H1 locs1 ls ce q9 a1 a2 a3 a4 a5 a6 a7 => ?_)
  refine v_catch F htab [⟨0, 12, 15, 21⟩] ⟨0, 12, 19, 15⟩ [] rfl (fun z hz => by rw [List.mem_singleton.mp hz]; exact Or.inr ⟨by decide, _, wcl_L_21, by decide +kernel⟩) (by decide) (by decide) wcl_L_15 wca_s H1 locs1 ls ce q9 a1 a2 a3 a4 a5 a6 a7 ?_
  refine v_astore F dL_give_19 (by decide) (lv' := [(5, .ref _), (0, .ref _), (1, .int _), (2, .int _), (3, .int _), (4, .ref _)]) rfl ?_
  refine v_iconst F (v := 2) dL_give_21 (by decide) ?_
  exact v_iret F hr dL_give_22 rfl rfl rfl
theorem wc_L_thing : Cond.codeWith yL_thing cL_thing 5 (some .int) [(0, 10, 13, 21)] ∈ wAll := wAll_in (i := 520) (by decide +kernel) (by decide +kernel)
abbrev rm_L_thing : Room := { frames := 3, cells := 0, slots := 0, locals := 64 }
abbrev rx_L_thing : Room := { frames := 8, cells := 1, slots := 6, locals := 125 }
set_option maxHeartbeats 4000000 in
set_option maxRecDepth 100000 in
theorem c_L_thing {X : Cx} {l : Launch} (G : Gx X l) {M : Mem} {lf : Lf} {jc tc : Nat} {ln : Nat → Nat} (hS : Shp (M 0) jc tc ln) {k : Nat} (hk : k < tc) {q : Nat} (hq : q < 7) : CI X l yL_thing (wsh yL_thing cL_thing 5 (some .int) [(0, 10, 13, 21)]) rm_L_thing [.ref (X.2.1 5 0 0), .int (nI k), .int (nI q), .ref (X.2.1 6 0 0)] (M) lf 0 (M) (vp_updL lf 0 (fTellT (M 0) k q).toInt64) 0 0 := by
  refine CI_ofH (lv := [(0, .ref _), (1, .int _), (2, .int _), (3, .ref _)]) G (by decide) (Nat.le_of_ble_eq_true rfl) rfl (fun p e s m args below meth c F hr htab => ?_)
  have F : Fx p l s m args meth c cL_thing 5 RL X := F
  refine v_aload_n F dL_thing_0 rfl 3 rfl ?_
  refine v_iconst F (v := 0) dL_thing_1 (by decide) ?_
  refine v_aload_n F dL_thing_2 rfl 0 rfl ?_
  refine v_iload_n F dL_thing_3 rfl 1 rfl ?_
  refine v_iload_n F dL_thing_4 rfl 2 rfl ?_
  refine v_callVi F (As := [_, _]) (rest := [.int _, .ref _]) rfl (c_X4_thing G hS hk hq (jc := jc) (tc := tc) (ln := ln) (k := k) (q := q)) Rv_H wm_L_35 rfl ⟨rfl, rfl, Nat.le_of_ble_eq_true rfl, Nat.le_of_ble_eq_true rfl, Nat.le_of_ble_eq_true rfl, Nat.le_of_ble_eq_true rfl, Nat.le_of_ble_eq_true rfl⟩ dL_thing_5 ?_
  refine v_i2l F dL_thing_8 ?_
  refine v_last F ⟨by decide, by decide, by decide⟩ dL_thing_9 ?_
  refine v_goto F (tgt := 17) dL_thing_10 (by decide) ?_
  refine v_iconst F (v := 0) dL_thing_17 (by decide) ?_
  exact v_iret F hr dL_thing_18 rfl rfl rfl
set_option maxHeartbeats 4000000 in
set_option maxRecDepth 100000 in
theorem x_L_thing_k {X : Cx} {l : Launch} (G : Gx X l) {M : Mem} {lf : Lf} {jc tc : Nat} {ln : Nat → Nat} (hS : Shp (M 0) jc tc ln) {x y : Int32} (hx : x < 0 ∨ nI tc ≤ x) : CI X l yL_thing (wsh yL_thing cL_thing 5 (some .int) [(0, 10, 13, 21)]) rx_L_thing [.ref (X.2.1 5 0 0), .int x, .int y, .ref (X.2.1 6 0 0)] (M) lf 1 (M) lf 1 6 := by
  refine CI_ofH (lv := [(0, .ref _), (1, .int _), (2, .int _), (3, .ref _)]) G (by decide) (Nat.le_of_ble_eq_true rfl) rfl (fun p e s m args below meth c F hr htab => ?_)
  have F : Fx p l s m args meth c cL_thing 5 RL X := F
  refine v_aload_n F dL_thing_0 rfl 3 rfl ?_
  refine v_iconst F (v := 0) dL_thing_1 (by decide) ?_
  refine v_aload_n F dL_thing_2 rfl 0 rfl ?_
  refine v_iload_n F dL_thing_3 rfl 1 rfl ?_
  refine v_iload_n F dL_thing_4 rfl 2 rfl ?_
  refine v_callXVi F (As := [_, _]) (rest := [.int _, .ref _]) rfl (x_X4_thing_k G hS hx (jc := jc) (tc := tc) (ln := ln) (x := x) (y := y)) Rv_H wm_L_35 rfl ⟨rfl, rfl, Nat.le_of_ble_eq_true rfl, Nat.le_of_ble_eq_true rfl, Nat.le_of_ble_eq_true rfl, Nat.le_of_ble_eq_true rfl, Nat.le_of_ble_eq_true rfl⟩ dL_thing_5 (fun H1 locs1 ls ce q9 a1 a2 a3 a4 a5 a6 a7 => ?_)
  refine v_catch F htab [] ⟨0, 10, 13, 21⟩ [] rfl (fun z hz => absurd hz List.not_mem_nil) (by decide) (by decide) wcl_L_21 wca_i H1 locs1 ls ce q9 a1 a2 a3 a4 a5 a6 a7 ?_
  refine v_astore F dL_thing_13 (by decide) (lv' := [(4, .ref _), (0, .ref _), (1, .int _), (2, .int _), (3, .ref _)]) rfl ?_
  refine v_iconst F (v := 1) dL_thing_15 (by decide) ?_
  exact v_iret F hr dL_thing_16 rfl rfl rfl
set_option maxHeartbeats 4000000 in
set_option maxRecDepth 100000 in
theorem x_L_thing_w {X : Cx} {l : Launch} (G : Gx X l) {M : Mem} {lf : Lf} {jc tc : Nat} {ln : Nat → Nat} (hS : Shp (M 0) jc tc ln) {k : Nat} (hk : k < tc) {y : Int32} (hx : y < 0 ∨ nI 7 ≤ y) : CI X l yL_thing (wsh yL_thing cL_thing 5 (some .int) [(0, 10, 13, 21)]) rx_L_thing [.ref (X.2.1 5 0 0), .int (nI k), .int y, .ref (X.2.1 6 0 0)] (M) lf 1 (M) lf 1 6 := by
  refine CI_ofH (lv := [(0, .ref _), (1, .int _), (2, .int _), (3, .ref _)]) G (by decide) (Nat.le_of_ble_eq_true rfl) rfl (fun p e s m args below meth c F hr htab => ?_)
  have F : Fx p l s m args meth c cL_thing 5 RL X := F
  refine v_aload_n F dL_thing_0 rfl 3 rfl ?_
  refine v_iconst F (v := 0) dL_thing_1 (by decide) ?_
  refine v_aload_n F dL_thing_2 rfl 0 rfl ?_
  refine v_iload_n F dL_thing_3 rfl 1 rfl ?_
  refine v_iload_n F dL_thing_4 rfl 2 rfl ?_
  refine v_callXVi F (As := [_, _]) (rest := [.int _, .ref _]) rfl (x_X4_thing_w G hS hk hx (jc := jc) (tc := tc) (ln := ln) (k := k) (y := y)) Rv_H wm_L_35 rfl ⟨rfl, rfl, Nat.le_of_ble_eq_true rfl, Nat.le_of_ble_eq_true rfl, Nat.le_of_ble_eq_true rfl, Nat.le_of_ble_eq_true rfl, Nat.le_of_ble_eq_true rfl⟩ dL_thing_5 (fun H1 locs1 ls ce q9 a1 a2 a3 a4 a5 a6 a7 => ?_)
  refine v_catch F htab [] ⟨0, 10, 13, 21⟩ [] rfl (fun z hz => absurd hz List.not_mem_nil) (by decide) (by decide) wcl_L_21 wca_i H1 locs1 ls ce q9 a1 a2 a3 a4 a5 a6 a7 ?_
  refine v_astore F dL_thing_13 (by decide) (lv' := [(4, .ref _), (0, .ref _), (1, .int _), (2, .int _), (3, .ref _)]) rfl ?_
  refine v_iconst F (v := 1) dL_thing_15 (by decide) ?_
  exact v_iret F hr dL_thing_16 rfl rfl rfl
theorem wc_L_juggler : Cond.codeWith yL_juggler cL_juggler 5 (some .int) [(0, 10, 13, 21)] ∈ wAll := wAll_in (i := 527) (by decide +kernel) (by decide +kernel)
abbrev rm_L_juggler : Room := { frames := 3, cells := 0, slots := 0, locals := 68 }
abbrev rx_L_juggler : Room := { frames := 8, cells := 1, slots := 6, locals := 125 }
set_option maxHeartbeats 4000000 in
set_option maxRecDepth 100000 in
theorem c_L_juggler {X : Cx} {l : Launch} (G : Gx X l) {M : Mem} {lf : Lf} {jc tc : Nat} {ln : Nat → Nat} (hS : Shp (M 0) jc tc ln) {j : Nat} (hj : j < jc) {q : Nat} (hq : q < 7) : CI X l yL_juggler (wsh yL_juggler cL_juggler 5 (some .int) [(0, 10, 13, 21)]) rm_L_juggler [.ref (X.2.1 5 0 0), .int (nI j), .int (nI q), .ref (X.2.1 6 0 0)] (M) lf 0 (M) (vp_updL lf 0 (fTellJ (M 0) tc j q).toInt64) 0 0 := by
  refine CI_ofH (lv := [(0, .ref _), (1, .int _), (2, .int _), (3, .ref _)]) G (by decide) (Nat.le_of_ble_eq_true rfl) rfl (fun p e s m args below meth c F hr htab => ?_)
  have F : Fx p l s m args meth c cL_juggler 5 RL X := F
  refine v_aload_n F dL_juggler_0 rfl 3 rfl ?_
  refine v_iconst F (v := 0) dL_juggler_1 (by decide) ?_
  refine v_aload_n F dL_juggler_2 rfl 0 rfl ?_
  refine v_iload_n F dL_juggler_3 rfl 1 rfl ?_
  refine v_iload_n F dL_juggler_4 rfl 2 rfl ?_
  refine v_callVi F (As := [_, _]) (rest := [.int _, .ref _]) rfl (c_X4_juggler G hS hj hq (jc := jc) (tc := tc) (ln := ln) (j := j) (q := q)) Rv_H wm_L_39 rfl ⟨rfl, rfl, Nat.le_of_ble_eq_true rfl, Nat.le_of_ble_eq_true rfl, Nat.le_of_ble_eq_true rfl, Nat.le_of_ble_eq_true rfl, Nat.le_of_ble_eq_true rfl⟩ dL_juggler_5 ?_
  refine v_i2l F dL_juggler_8 ?_
  refine v_last F ⟨by decide, by decide, by decide⟩ dL_juggler_9 ?_
  refine v_goto F (tgt := 17) dL_juggler_10 (by decide) ?_
  refine v_iconst F (v := 0) dL_juggler_17 (by decide) ?_
  exact v_iret F hr dL_juggler_18 rfl rfl rfl
set_option maxHeartbeats 4000000 in
set_option maxRecDepth 100000 in
theorem x_L_juggler_j {X : Cx} {l : Launch} (G : Gx X l) {M : Mem} {lf : Lf} {jc tc : Nat} {ln : Nat → Nat} (hS : Shp (M 0) jc tc ln) {x y : Int32} (hx : x < 0 ∨ nI jc ≤ x) : CI X l yL_juggler (wsh yL_juggler cL_juggler 5 (some .int) [(0, 10, 13, 21)]) rx_L_juggler [.ref (X.2.1 5 0 0), .int x, .int y, .ref (X.2.1 6 0 0)] (M) lf 1 (M) lf 1 6 := by
  refine CI_ofH (lv := [(0, .ref _), (1, .int _), (2, .int _), (3, .ref _)]) G (by decide) (Nat.le_of_ble_eq_true rfl) rfl (fun p e s m args below meth c F hr htab => ?_)
  have F : Fx p l s m args meth c cL_juggler 5 RL X := F
  refine v_aload_n F dL_juggler_0 rfl 3 rfl ?_
  refine v_iconst F (v := 0) dL_juggler_1 (by decide) ?_
  refine v_aload_n F dL_juggler_2 rfl 0 rfl ?_
  refine v_iload_n F dL_juggler_3 rfl 1 rfl ?_
  refine v_iload_n F dL_juggler_4 rfl 2 rfl ?_
  refine v_callXVi F (As := [_, _]) (rest := [.int _, .ref _]) rfl (x_X4_juggler_j G hS hx (jc := jc) (tc := tc) (ln := ln) (x := x) (y := y)) Rv_H wm_L_39 rfl ⟨rfl, rfl, Nat.le_of_ble_eq_true rfl, Nat.le_of_ble_eq_true rfl, Nat.le_of_ble_eq_true rfl, Nat.le_of_ble_eq_true rfl, Nat.le_of_ble_eq_true rfl⟩ dL_juggler_5 (fun H1 locs1 ls ce q9 a1 a2 a3 a4 a5 a6 a7 => ?_)
  refine v_catch F htab [] ⟨0, 10, 13, 21⟩ [] rfl (fun z hz => absurd hz List.not_mem_nil) (by decide) (by decide) wcl_L_21 wca_i H1 locs1 ls ce q9 a1 a2 a3 a4 a5 a6 a7 ?_
  refine v_astore F dL_juggler_13 (by decide) (lv' := [(4, .ref _), (0, .ref _), (1, .int _), (2, .int _), (3, .ref _)]) rfl ?_
  refine v_iconst F (v := 1) dL_juggler_15 (by decide) ?_
  exact v_iret F hr dL_juggler_16 rfl rfl rfl
set_option maxHeartbeats 4000000 in
set_option maxRecDepth 100000 in
theorem x_L_juggler_w {X : Cx} {l : Launch} (G : Gx X l) {M : Mem} {lf : Lf} {jc tc : Nat} {ln : Nat → Nat} (hS : Shp (M 0) jc tc ln) {j : Nat} (hj : j < jc) {y : Int32} (hx : y < 0 ∨ nI 7 ≤ y) : CI X l yL_juggler (wsh yL_juggler cL_juggler 5 (some .int) [(0, 10, 13, 21)]) rx_L_juggler [.ref (X.2.1 5 0 0), .int (nI j), .int y, .ref (X.2.1 6 0 0)] (M) lf 1 (M) lf 1 6 := by
  refine CI_ofH (lv := [(0, .ref _), (1, .int _), (2, .int _), (3, .ref _)]) G (by decide) (Nat.le_of_ble_eq_true rfl) rfl (fun p e s m args below meth c F hr htab => ?_)
  have F : Fx p l s m args meth c cL_juggler 5 RL X := F
  refine v_aload_n F dL_juggler_0 rfl 3 rfl ?_
  refine v_iconst F (v := 0) dL_juggler_1 (by decide) ?_
  refine v_aload_n F dL_juggler_2 rfl 0 rfl ?_
  refine v_iload_n F dL_juggler_3 rfl 1 rfl ?_
  refine v_iload_n F dL_juggler_4 rfl 2 rfl ?_
  refine v_callXVi F (As := [_, _]) (rest := [.int _, .ref _]) rfl (x_X4_juggler_w G hS hj hx (jc := jc) (tc := tc) (ln := ln) (j := j) (y := y)) Rv_H wm_L_39 rfl ⟨rfl, rfl, Nat.le_of_ble_eq_true rfl, Nat.le_of_ble_eq_true rfl, Nat.le_of_ble_eq_true rfl, Nat.le_of_ble_eq_true rfl, Nat.le_of_ble_eq_true rfl⟩ dL_juggler_5 (fun H1 locs1 ls ce q9 a1 a2 a3 a4 a5 a6 a7 => ?_)
  refine v_catch F htab [] ⟨0, 10, 13, 21⟩ [] rfl (fun z hz => absurd hz List.not_mem_nil) (by decide) (by decide) wcl_L_21 wca_i H1 locs1 ls ce q9 a1 a2 a3 a4 a5 a6 a7 ?_
  refine v_astore F dL_juggler_13 (by decide) (lv' := [(4, .ref _), (0, .ref _), (1, .int _), (2, .int _), (3, .ref _)]) rfl ?_
  refine v_iconst F (v := 1) dL_juggler_15 (by decide) ?_
  exact v_iret F hr dL_juggler_16 rfl rfl rfl
theorem wc_L_lasts : Cond.codeWith yL_lasts cL_lasts 4 (some .int) [(0, 16, 19, 21)] ∈ wAll := wAll_in (i := 534) (by decide +kernel) (by decide +kernel)
abbrev rm_L_lasts : Room := { frames := 3, cells := 0, slots := 0, locals := 63 }
abbrev rx_L_lasts : Room := { frames := 8, cells := 1, slots := 6, locals := 124 }
set_option maxHeartbeats 4000000 in
set_option maxRecDepth 100000 in
theorem c_L_lasts {X : Cx} {l : Launch} (G : Gx X l) {M : Mem} {lf : Lf} {jc tc : Nat} {ln : Nat → Nat} (hS : Shp (M 0) jc tc ln) {j : Nat} (hj : j < jc) : CI X l yL_lasts (wsh yL_lasts cL_lasts 4 (some .int) [(0, 16, 19, 21)]) rm_L_lasts [.ref (X.2.1 5 0 0), .int (nI j), .ref (X.2.1 6 0 0)] (M) lf 0 (M) (vp_updL lf 0 (fLands (M 0) j (ln j)).toInt64) 0 0 := by
  refine CI_ofH (lv := [(0, .ref _), (1, .int _), (2, .ref _)]) G (by decide) (Nat.le_of_ble_eq_true rfl) rfl (fun p e s m args below meth c F hr htab => ?_)
  have F : Fx p l s m args meth c cL_lasts 4 RL X := F
  refine v_aload_n F dL_lasts_0 rfl 2 rfl ?_
  refine v_iconst F (v := 0) dL_lasts_1 (by decide) ?_
  refine v_aload_n F dL_lasts_2 rfl 0 rfl ?_
  refine v_iload_n F dL_lasts_3 rfl 1 rfl ?_
  refine v_callVi F (As := [_]) (rest := [.int _, .ref _]) rfl (c_X4_lasts G hS hj (jc := jc) (tc := tc) (ln := ln) (j := j)) Rv_H wm_L_42 rfl ⟨rfl, rfl, Nat.le_of_ble_eq_true rfl, Nat.le_of_ble_eq_true rfl, Nat.le_of_ble_eq_true rfl, Nat.le_of_ble_eq_true rfl, Nat.le_of_ble_eq_true rfl⟩ dL_lasts_4 ?_
  refine v_if_eq F (tgt := 14) dL_lasts_7 (by decide) (fun c7 => ?_) (fun c7 => ?_)
  · have := c7
    refine v_lconst F (v := 0) dL_lasts_14 (by decide) ?_
    refine v_toprl (fLands (M 0) j (ln j)).toInt64 (by rw [c7]; rfl) ?_
    refine v_last F ⟨by decide, by decide, by decide⟩ dL_lasts_15 ?_
    refine v_goto F (tgt := 22) dL_lasts_16 (by decide) ?_
    refine v_iconst F (v := 0) dL_lasts_22 (by decide) ?_
    exact v_iret F hr dL_lasts_23 rfl rfl rfl
  · have := c7
    have hv : (1 : Int64) = (fLands (M 0) j (ln j)).toInt64 := by rw [show fLands (M 0) j (ln j) = 1 from (laL_01 (M 0) j (ln j) (ln j) 0 0).resolve_left c7]; rfl
    refine v_lconst F (v := 1) dL_lasts_10 (by decide) ?_
    refine v_toprl _ hv ?_
    refine v_goto F (tgt := 15) dL_lasts_11 (by decide) ?_
    refine v_last F ⟨by decide, by decide, by decide⟩ dL_lasts_15 ?_
    refine v_goto F (tgt := 22) dL_lasts_16 (by decide) ?_
    refine v_iconst F (v := 0) dL_lasts_22 (by decide) ?_
    exact v_iret F hr dL_lasts_23 rfl rfl rfl
set_option maxHeartbeats 4000000 in
set_option maxRecDepth 100000 in
theorem x_L_lasts {X : Cx} {l : Launch} (G : Gx X l) {M : Mem} {lf : Lf} {jc tc : Nat} {ln : Nat → Nat} (hS : Shp (M 0) jc tc ln) {x : Int32} (hx : x < 0 ∨ nI jc ≤ x) : CI X l yL_lasts (wsh yL_lasts cL_lasts 4 (some .int) [(0, 16, 19, 21)]) rx_L_lasts [.ref (X.2.1 5 0 0), .int x, .ref (X.2.1 6 0 0)] (M) lf 1 (M) lf 1 6 := by
  refine CI_ofH (lv := [(0, .ref _), (1, .int _), (2, .ref _)]) G (by decide) (Nat.le_of_ble_eq_true rfl) rfl (fun p e s m args below meth c F hr htab => ?_)
  have F : Fx p l s m args meth c cL_lasts 4 RL X := F
  refine v_aload_n F dL_lasts_0 rfl 2 rfl ?_
  refine v_iconst F (v := 0) dL_lasts_1 (by decide) ?_
  refine v_aload_n F dL_lasts_2 rfl 0 rfl ?_
  refine v_iload_n F dL_lasts_3 rfl 1 rfl ?_
  refine v_callXVi F (As := [_]) (rest := [.int _, .ref _]) rfl (x_X4_lasts G hS hx (jc := jc) (tc := tc) (ln := ln) (x := x)) Rv_H wm_L_42 rfl ⟨rfl, rfl, Nat.le_of_ble_eq_true rfl, Nat.le_of_ble_eq_true rfl, Nat.le_of_ble_eq_true rfl, Nat.le_of_ble_eq_true rfl, Nat.le_of_ble_eq_true rfl⟩ dL_lasts_4 (fun H1 locs1 ls ce q9 a1 a2 a3 a4 a5 a6 a7 => ?_)
  refine v_catch F htab [] ⟨0, 16, 19, 21⟩ [] rfl (fun z hz => absurd hz List.not_mem_nil) (by decide) (by decide) wcl_L_21 wca_i H1 locs1 ls ce q9 a1 a2 a3 a4 a5 a6 a7 ?_
  refine v_astore_n F dL_lasts_19 rfl (by decide) (lv' := [(3, .ref _), (0, .ref _), (1, .int _), (2, .ref _)]) rfl ?_
  refine v_iconst F (v := 1) dL_lasts_20 (by decide) ?_
  exact v_iret F hr dL_lasts_21 rfl rfl rfl
theorem wc_L_asks : Cond.codeWith yL_asks cL_asks 4 (some .int) [(0, 9, 12, 21)] ∈ wAll := wAll_in (i := 545) (by decide +kernel) (by decide +kernel)
abbrev rm_L_asks : Room := { frames := 3, cells := 0, slots := 0, locals := 63 }
abbrev rx_L_asks : Room := { frames := 8, cells := 1, slots := 6, locals := 124 }
set_option maxHeartbeats 4000000 in
set_option maxRecDepth 100000 in
theorem c_L_asks {X : Cx} {l : Launch} (G : Gx X l) {M : Mem} {lf : Lf} {jc tc : Nat} {ln : Nat → Nat} (hS : Shp (M 0) jc tc ln) {j : Nat} (hj : j < jc) : CI X l yL_asks (wsh yL_asks cL_asks 4 (some .int) [(0, 9, 12, 21)]) rm_L_asks [.ref (X.2.1 5 0 0), .int (nI j), .ref (X.2.1 6 0 0)] (M) lf 0 (M) (vp_updL lf 0 (fAsks (M 0) j (ln j)).toInt64) 0 0 := by
  refine CI_ofH (lv := [(0, .ref _), (1, .int _), (2, .ref _)]) G (by decide) (Nat.le_of_ble_eq_true rfl) rfl (fun p e s m args below meth c F hr htab => ?_)
  have F : Fx p l s m args meth c cL_asks 4 RL X := F
  refine v_aload_n F dL_asks_0 rfl 2 rfl ?_
  refine v_iconst F (v := 0) dL_asks_1 (by decide) ?_
  refine v_aload_n F dL_asks_2 rfl 0 rfl ?_
  refine v_iload_n F dL_asks_3 rfl 1 rfl ?_
  refine v_callVi F (As := [_]) (rest := [.int _, .ref _]) rfl (c_X4_asks G hS hj (jc := jc) (tc := tc) (ln := ln) (j := j)) Rv_H wm_L_46 rfl ⟨rfl, rfl, Nat.le_of_ble_eq_true rfl, Nat.le_of_ble_eq_true rfl, Nat.le_of_ble_eq_true rfl, Nat.le_of_ble_eq_true rfl, Nat.le_of_ble_eq_true rfl⟩ dL_asks_4 ?_
  refine v_i2l F dL_asks_7 ?_
  refine v_last F ⟨by decide, by decide, by decide⟩ dL_asks_8 ?_
  refine v_goto F (tgt := 15) dL_asks_9 (by decide) ?_
  refine v_iconst F (v := 0) dL_asks_15 (by decide) ?_
  exact v_iret F hr dL_asks_16 rfl rfl rfl
set_option maxHeartbeats 4000000 in
set_option maxRecDepth 100000 in
theorem x_L_asks {X : Cx} {l : Launch} (G : Gx X l) {M : Mem} {lf : Lf} {jc tc : Nat} {ln : Nat → Nat} (hS : Shp (M 0) jc tc ln) {x : Int32} (hx : x < 0 ∨ nI jc ≤ x) : CI X l yL_asks (wsh yL_asks cL_asks 4 (some .int) [(0, 9, 12, 21)]) rx_L_asks [.ref (X.2.1 5 0 0), .int x, .ref (X.2.1 6 0 0)] (M) lf 1 (M) lf 1 6 := by
  refine CI_ofH (lv := [(0, .ref _), (1, .int _), (2, .ref _)]) G (by decide) (Nat.le_of_ble_eq_true rfl) rfl (fun p e s m args below meth c F hr htab => ?_)
  have F : Fx p l s m args meth c cL_asks 4 RL X := F
  refine v_aload_n F dL_asks_0 rfl 2 rfl ?_
  refine v_iconst F (v := 0) dL_asks_1 (by decide) ?_
  refine v_aload_n F dL_asks_2 rfl 0 rfl ?_
  refine v_iload_n F dL_asks_3 rfl 1 rfl ?_
  refine v_callXVi F (As := [_]) (rest := [.int _, .ref _]) rfl (x_X4_asks G hS hx (jc := jc) (tc := tc) (ln := ln) (x := x)) Rv_H wm_L_46 rfl ⟨rfl, rfl, Nat.le_of_ble_eq_true rfl, Nat.le_of_ble_eq_true rfl, Nat.le_of_ble_eq_true rfl, Nat.le_of_ble_eq_true rfl, Nat.le_of_ble_eq_true rfl⟩ dL_asks_4 (fun H1 locs1 ls ce q9 a1 a2 a3 a4 a5 a6 a7 => ?_)
  refine v_catch F htab [] ⟨0, 9, 12, 21⟩ [] rfl (fun z hz => absurd hz List.not_mem_nil) (by decide) (by decide) wcl_L_21 wca_i H1 locs1 ls ce q9 a1 a2 a3 a4 a5 a6 a7 ?_
  refine v_astore_n F dL_asks_12 rfl (by decide) (lv' := [(3, .ref _), (0, .ref _), (1, .int _), (2, .ref _)]) rfl ?_
  refine v_iconst F (v := 1) dL_asks_13 (by decide) ?_
  exact v_iret F hr dL_asks_14 rfl rfl rfl
theorem wc_L_shortest : Cond.codeWith yL_shortest cL_shortest 4 (some .int) [(0, 9, 12, 21)] ∈ wAll := wAll_in (i := 556) (by decide +kernel) (by decide +kernel)
abbrev rm_L_shortest : Room := { frames := 3, cells := 0, slots := 0, locals := 65 }
abbrev rx_L_shortest : Room := { frames := 8, cells := 1, slots := 6, locals := 124 }
set_option maxHeartbeats 4000000 in
set_option maxRecDepth 100000 in
theorem c_L_shortest {X : Cx} {l : Launch} (G : Gx X l) {M : Mem} {lf : Lf} {jc tc : Nat} {ln : Nat → Nat} (hS : Shp (M 0) jc tc ln) {j : Nat} (hj : j < jc) : CI X l yL_shortest (wsh yL_shortest cL_shortest 4 (some .int) [(0, 9, 12, 21)]) rm_L_shortest [.ref (X.2.1 5 0 0), .int (nI j), .ref (X.2.1 6 0 0)] (M) lf 0 (M) (vp_updL lf 0 (nI (fShort (M 0) j (ln j))).toInt64) 0 0 := by
  refine CI_ofH (lv := [(0, .ref _), (1, .int _), (2, .ref _)]) G (by decide) (Nat.le_of_ble_eq_true rfl) rfl (fun p e s m args below meth c F hr htab => ?_)
  have F : Fx p l s m args meth c cL_shortest 4 RL X := F
  refine v_aload_n F dL_shortest_0 rfl 2 rfl ?_
  refine v_iconst F (v := 0) dL_shortest_1 (by decide) ?_
  refine v_aload_n F dL_shortest_2 rfl 0 rfl ?_
  refine v_iload_n F dL_shortest_3 rfl 1 rfl ?_
  refine v_callVi F (As := [_]) (rest := [.int _, .ref _]) rfl (c_X4_shortest G hS hj (jc := jc) (tc := tc) (ln := ln) (j := j)) Rv_H wm_L_49 rfl ⟨rfl, rfl, Nat.le_of_ble_eq_true rfl, Nat.le_of_ble_eq_true rfl, Nat.le_of_ble_eq_true rfl, Nat.le_of_ble_eq_true rfl, Nat.le_of_ble_eq_true rfl⟩ dL_shortest_4 ?_
  refine v_i2l F dL_shortest_7 ?_
  refine v_last F ⟨by decide, by decide, by decide⟩ dL_shortest_8 ?_
  refine v_goto F (tgt := 15) dL_shortest_9 (by decide) ?_
  refine v_iconst F (v := 0) dL_shortest_15 (by decide) ?_
  exact v_iret F hr dL_shortest_16 rfl rfl rfl
set_option maxHeartbeats 4000000 in
set_option maxRecDepth 100000 in
theorem x_L_shortest {X : Cx} {l : Launch} (G : Gx X l) {M : Mem} {lf : Lf} {jc tc : Nat} {ln : Nat → Nat} (hS : Shp (M 0) jc tc ln) {x : Int32} (hx : x < 0 ∨ nI jc ≤ x) : CI X l yL_shortest (wsh yL_shortest cL_shortest 4 (some .int) [(0, 9, 12, 21)]) rx_L_shortest [.ref (X.2.1 5 0 0), .int x, .ref (X.2.1 6 0 0)] (M) lf 1 (M) lf 1 6 := by
  refine CI_ofH (lv := [(0, .ref _), (1, .int _), (2, .ref _)]) G (by decide) (Nat.le_of_ble_eq_true rfl) rfl (fun p e s m args below meth c F hr htab => ?_)
  have F : Fx p l s m args meth c cL_shortest 4 RL X := F
  refine v_aload_n F dL_shortest_0 rfl 2 rfl ?_
  refine v_iconst F (v := 0) dL_shortest_1 (by decide) ?_
  refine v_aload_n F dL_shortest_2 rfl 0 rfl ?_
  refine v_iload_n F dL_shortest_3 rfl 1 rfl ?_
  refine v_callXVi F (As := [_]) (rest := [.int _, .ref _]) rfl (x_X4_shortest G hS hx (jc := jc) (tc := tc) (ln := ln) (x := x)) Rv_H wm_L_49 rfl ⟨rfl, rfl, Nat.le_of_ble_eq_true rfl, Nat.le_of_ble_eq_true rfl, Nat.le_of_ble_eq_true rfl, Nat.le_of_ble_eq_true rfl, Nat.le_of_ble_eq_true rfl⟩ dL_shortest_4 (fun H1 locs1 ls ce q9 a1 a2 a3 a4 a5 a6 a7 => ?_)
  refine v_catch F htab [] ⟨0, 9, 12, 21⟩ [] rfl (fun z hz => absurd hz List.not_mem_nil) (by decide) (by decide) wcl_L_21 wca_i H1 locs1 ls ce q9 a1 a2 a3 a4 a5 a6 a7 ?_
  refine v_astore_n F dL_shortest_12 rfl (by decide) (lv' := [(3, .ref _), (0, .ref _), (1, .int _), (2, .ref _)]) rfl ?_
  refine v_iconst F (v := 1) dL_shortest_13 (by decide) ?_
  exact v_iret F hr dL_shortest_14 rfl rfl rfl
theorem wc_L_go : Cond.codeWith yL_go cL_go 4 (some .int) [(0, 9, 12, 13)] ∈ wAll := wAll_in (i := 571) (by decide +kernel) (by decide +kernel)
abbrev rm_L_go : Room := { frames := 6, cells := 0, slots := 0, locals := 136 }
abbrev rx_L_go : Room := { frames := 8, cells := 1, slots := 6, locals := 136 }
set_option maxHeartbeats 4000000 in
set_option maxRecDepth 100000 in
theorem c_L_go {X : Cx} {l : Launch} (G : Gx X l) {M : Mem} {lf : Lf} {jc tc : Nat} {ln : Nat → Nat} (hS : Shp (M 0) jc tc ln) {b n : Nat} (hb : b + n < 2 ^ 31) (hbt : M 0 0 0 4 = nI b) (h1 : 1 ≤ n) (hn : n ≤ 200) : CI X l yL_go (wsh yL_go cL_go 4 (some .int) [(0, 9, 12, 13)]) rm_L_go [.ref (X.2.1 5 0 0), .int (nI n), .ref (X.2.1 6 0 0)] (M) lf 0 (uC M 0 (plL b jc tc ln (M 0) n)) (vp_updL lf 0 (plR b jc tc ln (M 0) n).toInt64) 0 0 := by
  refine CI_ofH (lv := [(0, .ref _), (1, .int _), (2, .ref _)]) G (by decide) (Nat.le_of_ble_eq_true rfl) rfl (fun p e s m args below meth c F hr htab => ?_)
  have F : Fx p l s m args meth c cL_go 4 RL X := F
  refine v_aload_n F dL_go_0 rfl 2 rfl ?_
  refine v_iconst F (v := 0) dL_go_1 (by decide) ?_
  refine v_aload_n F dL_go_2 rfl 0 rfl ?_
  refine v_iload_n F dL_go_3 rfl 1 rfl ?_
  refine v_callVi F (As := [_]) (rest := [.int _, .ref _]) rfl (c_X4_go G hS hb hbt h1 hn (jc := jc) (tc := tc) (ln := ln) (b := b) (n := n)) Rv_H wm_L_52 rfl ⟨rfl, rfl, Nat.le_of_ble_eq_true rfl, Nat.le_of_ble_eq_true rfl, Nat.le_of_ble_eq_true rfl, Nat.le_of_ble_eq_true rfl, Nat.le_of_ble_eq_true rfl⟩ dL_go_4 ?_
  refine v_i2l F dL_go_7 ?_
  refine v_last F ⟨by decide, by decide, by decide⟩ dL_go_8 ?_
  refine v_goto F (tgt := 15) dL_go_9 (by decide) ?_
  refine v_iconst F (v := 0) dL_go_15 (by decide) ?_
  exact v_iret F hr dL_go_16 rfl rfl rfl
set_option maxHeartbeats 4000000 in
set_option maxRecDepth 100000 in
theorem x_L_go {X : Cx} {l : Launch} (G : Gx X l) {M : Mem} {lf : Lf} {x : Int32} (hx : x < 1 ∨ nI 200 < x) : CI X l yL_go (wsh yL_go cL_go 4 (some .int) [(0, 9, 12, 13)]) rx_L_go [.ref (X.2.1 5 0 0), .int x, .ref (X.2.1 6 0 0)] (M) lf 1 (M) lf 1 6 := by
  refine CI_ofH (lv := [(0, .ref _), (1, .int _), (2, .ref _)]) G (by decide) (Nat.le_of_ble_eq_true rfl) rfl (fun p e s m args below meth c F hr htab => ?_)
  have F : Fx p l s m args meth c cL_go 4 RL X := F
  refine v_aload_n F dL_go_0 rfl 2 rfl ?_
  refine v_iconst F (v := 0) dL_go_1 (by decide) ?_
  refine v_aload_n F dL_go_2 rfl 0 rfl ?_
  refine v_iload_n F dL_go_3 rfl 1 rfl ?_
  refine v_callXVi F (As := [_]) (rest := [.int _, .ref _]) rfl (x_X4_go G hx (x := x)) Rv_H wm_L_52 rfl ⟨rfl, rfl, Nat.le_of_ble_eq_true rfl, Nat.le_of_ble_eq_true rfl, Nat.le_of_ble_eq_true rfl, Nat.le_of_ble_eq_true rfl, Nat.le_of_ble_eq_true rfl⟩ dL_go_4 (fun H1 locs1 ls ce q9 a1 a2 a3 a4 a5 a6 a7 => ?_)
  refine v_catch F htab [] ⟨0, 9, 12, 13⟩ [] rfl (fun z hz => absurd hz List.not_mem_nil) (by decide) (by decide) wcl_L_13 wca_a H1 locs1 ls ce q9 a1 a2 a3 a4 a5 a6 a7 ?_
  refine v_astore_n F dL_go_12 rfl (by decide) (lv' := [(3, .ref _), (0, .ref _), (1, .int _), (2, .ref _)]) rfl ?_
  refine v_iconst F (v := 1) dL_go_13 (by decide) ?_
  exact v_iret F hr dL_go_14 rfl rfl rfl
theorem wc_L_count : Cond.codeWith yL_count cL_count 4 (some .int) [(0, 9, 12, 21)] ∈ wAll := wAll_in (i := 587) (by decide +kernel) (by decide +kernel)
abbrev rm_L_count : Room := { frames := 3, cells := 0, slots := 0, locals := 65 }
abbrev rx_L_count : Room := { frames := 8, cells := 1, slots := 6, locals := 124 }
set_option maxHeartbeats 4000000 in
set_option maxRecDepth 100000 in
theorem c_L_count {X : Cx} {l : Launch} (G : Gx X l) {M : Mem} {lf : Lf} {jc tc : Nat} {ln : Nat → Nat} (hS : Shp (M 0) jc tc ln) {q : Nat} (hq : q < 9) : CI X l yL_count (wsh yL_count cL_count 4 (some .int) [(0, 9, 12, 21)]) rm_L_count [.ref (X.2.1 5 0 0), .int (nI q), .ref (X.2.1 6 0 0)] (M) lf 0 (M) (vp_updL lf 0 (fTellC (M 0) tc q).toInt64) 0 0 := by
  refine CI_ofH (lv := [(0, .ref _), (1, .int _), (2, .ref _)]) G (by decide) (Nat.le_of_ble_eq_true rfl) rfl (fun p e s m args below meth c F hr htab => ?_)
  have F : Fx p l s m args meth c cL_count 4 RL X := F
  refine v_aload_n F dL_count_0 rfl 2 rfl ?_
  refine v_iconst F (v := 0) dL_count_1 (by decide) ?_
  refine v_aload_n F dL_count_2 rfl 0 rfl ?_
  refine v_iload_n F dL_count_3 rfl 1 rfl ?_
  refine v_callVi F (As := [_]) (rest := [.int _, .ref _]) rfl (c_X4_count G hS hq (jc := jc) (tc := tc) (ln := ln) (q := q)) Rv_H wm_L_55 rfl ⟨rfl, rfl, Nat.le_of_ble_eq_true rfl, Nat.le_of_ble_eq_true rfl, Nat.le_of_ble_eq_true rfl, Nat.le_of_ble_eq_true rfl, Nat.le_of_ble_eq_true rfl⟩ dL_count_4 ?_
  refine v_i2l F dL_count_7 ?_
  refine v_last F ⟨by decide, by decide, by decide⟩ dL_count_8 ?_
  refine v_goto F (tgt := 15) dL_count_9 (by decide) ?_
  refine v_iconst F (v := 0) dL_count_15 (by decide) ?_
  exact v_iret F hr dL_count_16 rfl rfl rfl
set_option maxHeartbeats 4000000 in
set_option maxRecDepth 100000 in
theorem x_L_count {X : Cx} {l : Launch} (G : Gx X l) {M : Mem} {lf : Lf} {x : Int32} (hx : x < 0 ∨ nI 9 ≤ x) : CI X l yL_count (wsh yL_count cL_count 4 (some .int) [(0, 9, 12, 21)]) rx_L_count [.ref (X.2.1 5 0 0), .int x, .ref (X.2.1 6 0 0)] (M) lf 1 (M) lf 1 6 := by
  refine CI_ofH (lv := [(0, .ref _), (1, .int _), (2, .ref _)]) G (by decide) (Nat.le_of_ble_eq_true rfl) rfl (fun p e s m args below meth c F hr htab => ?_)
  have F : Fx p l s m args meth c cL_count 4 RL X := F
  refine v_aload_n F dL_count_0 rfl 2 rfl ?_
  refine v_iconst F (v := 0) dL_count_1 (by decide) ?_
  refine v_aload_n F dL_count_2 rfl 0 rfl ?_
  refine v_iload_n F dL_count_3 rfl 1 rfl ?_
  refine v_callXVi F (As := [_]) (rest := [.int _, .ref _]) rfl (x_X4_count G hx (x := x)) Rv_H wm_L_55 rfl ⟨rfl, rfl, Nat.le_of_ble_eq_true rfl, Nat.le_of_ble_eq_true rfl, Nat.le_of_ble_eq_true rfl, Nat.le_of_ble_eq_true rfl, Nat.le_of_ble_eq_true rfl⟩ dL_count_4 (fun H1 locs1 ls ce q9 a1 a2 a3 a4 a5 a6 a7 => ?_)
  refine v_catch F htab [] ⟨0, 9, 12, 21⟩ [] rfl (fun z hz => absurd hz List.not_mem_nil) (by decide) (by decide) wcl_L_21 wca_i H1 locs1 ls ce q9 a1 a2 a3 a4 a5 a6 a7 ?_
  refine v_astore_n F dL_count_12 rfl (by decide) (lv' := [(3, .ref _), (0, .ref _), (1, .int _), (2, .ref _)]) rfl ?_
  refine v_iconst F (v := 1) dL_count_13 (by decide) ?_
  exact v_iret F hr dL_count_14 rfl rfl rfl
theorem wc_L_foresee : Cond.codeWith yL_foresee cL_foresee 5 (some .int) [(0, 10, 13, 13), (0, 10, 17, 21)] ∈ wAll := wAll_in (i := 594) (by decide +kernel) (by decide +kernel)
abbrev rm_L_foresee : Room := { frames := 6, cells := 0, slots := 0, locals := 138 }
abbrev rx_L_foresee : Room := { frames := 8, cells := 1, slots := 6, locals := 138 }
set_option maxHeartbeats 4000000 in
set_option maxRecDepth 100000 in
theorem c_L_foresee_0 {X : Cx} {l : Launch} (G : Gx X l) {M : Mem} {lf : Lf} {jc tc : Nat} {ln : Nat → Nat} (hS : Shp (M 0) jc tc ln) {b n : Nat} (hb : b + n < 2 ^ 31) (hbt : M 0 0 0 4 = nI b) (h1 : 1 ≤ n) (hn : n ≤ 200) : CI X l yL_foresee (wsh yL_foresee cL_foresee 5 (some .int) [(0, 10, 13, 13), (0, 10, 17, 21)]) rm_L_foresee [.ref (X.2.1 5 0 0), .int (nI n), .int (nI 0), .ref (X.2.1 6 0 0)] (M) lf 0 (uC M 1 (plL b jc tc ln (fCopyR (M 1) (M 0) jc tc ln) n)) (vp_updL lf 0 (fIn (plL b jc tc ln (fCopyR (M 1) (M 0) jc tc ln) n) tc 2).toInt64) 0 0 := by
  refine CI_ofH (lv := [(0, .ref _), (1, .int _), (2, .int _), (3, .ref _)]) G (by decide) (Nat.le_of_ble_eq_true rfl) rfl (fun p e s m args below meth c F hr htab => ?_)
  have F : Fx p l s m args meth c cL_foresee 5 RL X := F
  refine v_aload_n F dL_foresee_0 rfl 3 rfl ?_
  refine v_iconst F (v := 0) dL_foresee_1 (by decide) ?_
  refine v_aload_n F dL_foresee_2 rfl 0 rfl ?_
  refine v_iload_n F dL_foresee_3 rfl 1 rfl ?_
  refine v_iload_n F dL_foresee_4 rfl 2 rfl ?_
  refine v_callVi F (As := [_, _]) (rest := [.int _, .ref _]) rfl (c_X4_foresee_0 G hS hb hbt h1 hn (jc := jc) (tc := tc) (ln := ln) (b := b) (n := n)) Rv_H wm_L_58 rfl ⟨rfl, rfl, Nat.le_of_ble_eq_true rfl, Nat.le_of_ble_eq_true rfl, Nat.le_of_ble_eq_true rfl, Nat.le_of_ble_eq_true rfl, Nat.le_of_ble_eq_true rfl⟩ dL_foresee_5 ?_
  refine v_i2l F dL_foresee_8 ?_
  refine v_last F ⟨by decide, by decide, by decide⟩ dL_foresee_9 ?_
  refine v_goto F (tgt := 21) dL_foresee_10 (by decide) ?_
  refine v_iconst F (v := 0) dL_foresee_21 (by decide) ?_
  exact v_iret F hr dL_foresee_22 rfl rfl rfl
set_option maxHeartbeats 4000000 in
set_option maxRecDepth 100000 in
theorem c_L_foresee_1 {X : Cx} {l : Launch} (G : Gx X l) {M : Mem} {lf : Lf} {jc tc : Nat} {ln : Nat → Nat} (hS : Shp (M 0) jc tc ln) {b n : Nat} (hb : b + n < 2 ^ 31) (hbt : M 0 0 0 4 = nI b) (h1 : 1 ≤ n) (hn : n ≤ 200) : CI X l yL_foresee (wsh yL_foresee cL_foresee 5 (some .int) [(0, 10, 13, 13), (0, 10, 17, 21)]) rm_L_foresee [.ref (X.2.1 5 0 0), .int (nI n), .int (nI 1), .ref (X.2.1 6 0 0)] (M) lf 0 (uC M 1 (plL b jc tc ln (fCopyR (M 1) (M 0) jc tc ln) n)) (vp_updL lf 0 (plR b jc tc ln (fCopyR (M 1) (M 0) jc tc ln) n).toInt64) 0 0 := by
  refine CI_ofH (lv := [(0, .ref _), (1, .int _), (2, .int _), (3, .ref _)]) G (by decide) (Nat.le_of_ble_eq_true rfl) rfl (fun p e s m args below meth c F hr htab => ?_)
  have F : Fx p l s m args meth c cL_foresee 5 RL X := F
  refine v_aload_n F dL_foresee_0 rfl 3 rfl ?_
  refine v_iconst F (v := 0) dL_foresee_1 (by decide) ?_
  refine v_aload_n F dL_foresee_2 rfl 0 rfl ?_
  refine v_iload_n F dL_foresee_3 rfl 1 rfl ?_
  refine v_iload_n F dL_foresee_4 rfl 2 rfl ?_
  refine v_callVi F (As := [_, _]) (rest := [.int _, .ref _]) rfl (c_X4_foresee_1 G hS hb hbt h1 hn (jc := jc) (tc := tc) (ln := ln) (b := b) (n := n)) Rv_H wm_L_58 rfl ⟨rfl, rfl, Nat.le_of_ble_eq_true rfl, Nat.le_of_ble_eq_true rfl, Nat.le_of_ble_eq_true rfl, Nat.le_of_ble_eq_true rfl, Nat.le_of_ble_eq_true rfl⟩ dL_foresee_5 ?_
  refine v_i2l F dL_foresee_8 ?_
  refine v_last F ⟨by decide, by decide, by decide⟩ dL_foresee_9 ?_
  refine v_goto F (tgt := 21) dL_foresee_10 (by decide) ?_
  refine v_iconst F (v := 0) dL_foresee_21 (by decide) ?_
  exact v_iret F hr dL_foresee_22 rfl rfl rfl
set_option maxHeartbeats 4000000 in
set_option maxRecDepth 100000 in
theorem c_L_foresee_2 {X : Cx} {l : Launch} (G : Gx X l) {M : Mem} {lf : Lf} {jc tc : Nat} {ln : Nat → Nat} (hS : Shp (M 0) jc tc ln) {b n : Nat} (hb : b + n < 2 ^ 31) (hbt : M 0 0 0 4 = nI b) (h1 : 1 ≤ n) (hn : n ≤ 200) : CI X l yL_foresee (wsh yL_foresee cL_foresee 5 (some .int) [(0, 10, 13, 13), (0, 10, 17, 21)]) rm_L_foresee [.ref (X.2.1 5 0 0), .int (nI n), .int (nI 2), .ref (X.2.1 6 0 0)] (M) lf 0 (uC M 1 (plL b jc tc ln (fCopyR (M 1) (M 0) jc tc ln) n)) (vp_updL lf 0 (sI (fun k => plL b jc tc ln (fCopyR (M 1) (M 0) jc tc ln) n 2 k 3) jc).toInt64) 0 0 := by
  refine CI_ofH (lv := [(0, .ref _), (1, .int _), (2, .int _), (3, .ref _)]) G (by decide) (Nat.le_of_ble_eq_true rfl) rfl (fun p e s m args below meth c F hr htab => ?_)
  have F : Fx p l s m args meth c cL_foresee 5 RL X := F
  refine v_aload_n F dL_foresee_0 rfl 3 rfl ?_
  refine v_iconst F (v := 0) dL_foresee_1 (by decide) ?_
  refine v_aload_n F dL_foresee_2 rfl 0 rfl ?_
  refine v_iload_n F dL_foresee_3 rfl 1 rfl ?_
  refine v_iload_n F dL_foresee_4 rfl 2 rfl ?_
  refine v_callVi F (As := [_, _]) (rest := [.int _, .ref _]) rfl (c_X4_foresee_2 G hS hb hbt h1 hn (jc := jc) (tc := tc) (ln := ln) (b := b) (n := n)) Rv_H wm_L_58 rfl ⟨rfl, rfl, Nat.le_of_ble_eq_true rfl, Nat.le_of_ble_eq_true rfl, Nat.le_of_ble_eq_true rfl, Nat.le_of_ble_eq_true rfl, Nat.le_of_ble_eq_true rfl⟩ dL_foresee_5 ?_
  refine v_i2l F dL_foresee_8 ?_
  refine v_last F ⟨by decide, by decide, by decide⟩ dL_foresee_9 ?_
  refine v_goto F (tgt := 21) dL_foresee_10 (by decide) ?_
  refine v_iconst F (v := 0) dL_foresee_21 (by decide) ?_
  exact v_iret F hr dL_foresee_22 rfl rfl rfl
set_option maxHeartbeats 4000000 in
set_option maxRecDepth 100000 in
theorem x_L_foresee_b {X : Cx} {l : Launch} (G : Gx X l) {M : Mem} {lf : Lf} {x y : Int32} (hx : x < 1 ∨ nI 200 < x) : CI X l yL_foresee (wsh yL_foresee cL_foresee 5 (some .int) [(0, 10, 13, 13), (0, 10, 17, 21)]) rx_L_foresee [.ref (X.2.1 5 0 0), .int x, .int y, .ref (X.2.1 6 0 0)] (M) lf 1 (M) lf 1 6 := by
  refine CI_ofH (lv := [(0, .ref _), (1, .int _), (2, .int _), (3, .ref _)]) G (by decide) (Nat.le_of_ble_eq_true rfl) rfl (fun p e s m args below meth c F hr htab => ?_)
  have F : Fx p l s m args meth c cL_foresee 5 RL X := F
  refine v_aload_n F dL_foresee_0 rfl 3 rfl ?_
  refine v_iconst F (v := 0) dL_foresee_1 (by decide) ?_
  refine v_aload_n F dL_foresee_2 rfl 0 rfl ?_
  refine v_iload_n F dL_foresee_3 rfl 1 rfl ?_
  refine v_iload_n F dL_foresee_4 rfl 2 rfl ?_
  refine v_callXVi F (As := [_, _]) (rest := [.int _, .ref _]) rfl (x_X4_foresee_b G hx (x := x) (y := y)) Rv_H wm_L_58 rfl ⟨rfl, rfl, Nat.le_of_ble_eq_true rfl, Nat.le_of_ble_eq_true rfl, Nat.le_of_ble_eq_true rfl, Nat.le_of_ble_eq_true rfl, Nat.le_of_ble_eq_true rfl⟩ dL_foresee_5 (fun H1 locs1 ls ce q9 a1 a2 a3 a4 a5 a6 a7 => ?_)
  refine v_catch F htab [] ⟨0, 10, 13, 13⟩ [⟨0, 10, 17, 21⟩] rfl (fun z hz => absurd hz List.not_mem_nil) (by decide) (by decide) wcl_L_13 wca_a H1 locs1 ls ce q9 a1 a2 a3 a4 a5 a6 a7 ?_
  refine v_astore F dL_foresee_13 (by decide) (lv' := [(4, .ref _), (0, .ref _), (1, .int _), (2, .int _), (3, .ref _)]) rfl ?_
  refine v_iconst F (v := 1) dL_foresee_15 (by decide) ?_
  exact v_iret F hr dL_foresee_16 rfl rfl rfl
set_option maxHeartbeats 4000000 in
set_option maxRecDepth 100000 in
theorem x_L_foresee_w {X : Cx} {l : Launch} (G : Gx X l) {M : Mem} {lf : Lf} {n : Nat} (h1 : 1 ≤ n) (hn : n ≤ 200) {y : Int32} (hx : y < 0 ∨ nI 3 ≤ y) : CI X l yL_foresee (wsh yL_foresee cL_foresee 5 (some .int) [(0, 10, 13, 13), (0, 10, 17, 21)]) rx_L_foresee [.ref (X.2.1 5 0 0), .int (nI n), .int y, .ref (X.2.1 6 0 0)] (M) lf 2 (M) lf 1 6 := by
  refine CI_ofH (lv := [(0, .ref _), (1, .int _), (2, .int _), (3, .ref _)]) G (by decide) (Nat.le_of_ble_eq_true rfl) rfl (fun p e s m args below meth c F hr htab => ?_)
  have F : Fx p l s m args meth c cL_foresee 5 RL X := F
  refine v_aload_n F dL_foresee_0 rfl 3 rfl ?_
  refine v_iconst F (v := 0) dL_foresee_1 (by decide) ?_
  refine v_aload_n F dL_foresee_2 rfl 0 rfl ?_
  refine v_iload_n F dL_foresee_3 rfl 1 rfl ?_
  refine v_iload_n F dL_foresee_4 rfl 2 rfl ?_
  refine v_callXVi F (As := [_, _]) (rest := [.int _, .ref _]) rfl (x_X4_foresee_w G h1 hn hx (n := n) (y := y)) Rv_H wm_L_58 rfl ⟨rfl, rfl, Nat.le_of_ble_eq_true rfl, Nat.le_of_ble_eq_true rfl, Nat.le_of_ble_eq_true rfl, Nat.le_of_ble_eq_true rfl, Nat.le_of_ble_eq_true rfl⟩ dL_foresee_5 (fun H1 locs1 ls ce q9 a1 a2 a3 a4 a5 a6 a7 => ?_)
  refine v_catch F htab [⟨0, 10, 13, 13⟩] ⟨0, 10, 17, 21⟩ [] rfl (fun z hz => by rw [List.mem_singleton.mp hz]; exact Or.inr ⟨by decide, _, wcl_L_13, by decide +kernel⟩) (by decide) (by decide) wcl_L_21 wca_i H1 locs1 ls ce q9 a1 a2 a3 a4 a5 a6 a7 ?_
  refine v_astore F dL_foresee_17 (by decide) (lv' := [(4, .ref _), (0, .ref _), (1, .int _), (2, .int _), (3, .ref _)]) rfl ?_
  refine v_iconst F (v := 2) dL_foresee_19 (by decide) ?_
  exact v_iret F hr dL_foresee_20 rfl rfl rfl
theorem wc_L_advise : Cond.codeWith yL_advise cL_advise 5 (some .int) [(0, 10, 13, 21), (0, 10, 17, 13)] ∈ wAll := wAll_in (i := 606) (by decide +kernel) (by decide +kernel)
abbrev rm_L_advise : Room := { frames := 7, cells := 0, slots := 0, locals := 167 }
abbrev rx_L_advise : Room := { frames := 8, cells := 1, slots := 6, locals := 167 }
set_option maxHeartbeats 4000000 in
set_option maxRecDepth 100000 in
theorem c_L_advise {X : Cx} {l : Launch} (G : Gx X l) {M : Mem} {lf : Lf} {jc tc : Nat} {ln : Nat → Nat} (hS : Shp (M 0) jc tc ln) {b n : Nat} (hb : b + n < 2 ^ 31) (hbt : M 0 0 0 4 = nI b) {j : Nat} (hj : j < jc) (h1 : 1 ≤ n) (hn : n ≤ 60) : CI X l yL_advise (wsh yL_advise cL_advise 5 (some .int) [(0, 10, 13, 21), (0, 10, 17, 13)]) rm_L_advise [.ref (X.2.1 5 0 0), .int (nI j), .int (nI n), .ref (X.2.1 6 0 0)] (M) lf 0 (uC M 1 (adO (M 0) b jc tc ln n j (ln j) 0 (plR b jc tc ln (fCopyR (M 1) (M 0) jc tc ln) n) (-1) (plL b jc tc ln (fCopyR (M 1) (M 0) jc tc ln) n)).2) (vp_updL lf 0 ((adO (M 0) b jc tc ln n j (ln j) 0 (plR b jc tc ln (fCopyR (M 1) (M 0) jc tc ln) n) (-1) (plL b jc tc ln (fCopyR (M 1) (M 0) jc tc ln) n)).1).toInt64) 0 0 := by
  refine CI_ofH (lv := [(0, .ref _), (1, .int _), (2, .int _), (3, .ref _)]) G (by decide) (Nat.le_of_ble_eq_true rfl) rfl (fun p e s m args below meth c F hr htab => ?_)
  have F : Fx p l s m args meth c cL_advise 5 RL X := F
  refine v_aload_n F dL_advise_0 rfl 3 rfl ?_
  refine v_iconst F (v := 0) dL_advise_1 (by decide) ?_
  refine v_aload_n F dL_advise_2 rfl 0 rfl ?_
  refine v_iload_n F dL_advise_3 rfl 1 rfl ?_
  refine v_iload_n F dL_advise_4 rfl 2 rfl ?_
  refine v_callVi F (As := [_, _]) (rest := [.int _, .ref _]) rfl (c_X4_advise G hS hb hbt hj h1 hn (jc := jc) (tc := tc) (ln := ln) (b := b) (n := n) (j := j)) Rv_H wm_L_61 rfl ⟨rfl, rfl, Nat.le_of_ble_eq_true rfl, Nat.le_of_ble_eq_true rfl, Nat.le_of_ble_eq_true rfl, Nat.le_of_ble_eq_true rfl, Nat.le_of_ble_eq_true rfl⟩ dL_advise_5 ?_
  refine v_i2l F dL_advise_8 ?_
  refine v_last F ⟨by decide, by decide, by decide⟩ dL_advise_9 ?_
  refine v_goto F (tgt := 21) dL_advise_10 (by decide) ?_
  refine v_iconst F (v := 0) dL_advise_21 (by decide) ?_
  exact v_iret F hr dL_advise_22 rfl rfl rfl
set_option maxHeartbeats 4000000 in
set_option maxRecDepth 100000 in
theorem x_L_advise_j {X : Cx} {l : Launch} (G : Gx X l) {M : Mem} {lf : Lf} {jc tc : Nat} {ln : Nat → Nat} (hS : Shp (M 0) jc tc ln) {x y : Int32} (hx : x < 0 ∨ nI jc ≤ x) : CI X l yL_advise (wsh yL_advise cL_advise 5 (some .int) [(0, 10, 13, 21), (0, 10, 17, 13)]) rx_L_advise [.ref (X.2.1 5 0 0), .int x, .int y, .ref (X.2.1 6 0 0)] (M) lf 1 (M) lf 1 6 := by
  refine CI_ofH (lv := [(0, .ref _), (1, .int _), (2, .int _), (3, .ref _)]) G (by decide) (Nat.le_of_ble_eq_true rfl) rfl (fun p e s m args below meth c F hr htab => ?_)
  have F : Fx p l s m args meth c cL_advise 5 RL X := F
  refine v_aload_n F dL_advise_0 rfl 3 rfl ?_
  refine v_iconst F (v := 0) dL_advise_1 (by decide) ?_
  refine v_aload_n F dL_advise_2 rfl 0 rfl ?_
  refine v_iload_n F dL_advise_3 rfl 1 rfl ?_
  refine v_iload_n F dL_advise_4 rfl 2 rfl ?_
  refine v_callXVi F (As := [_, _]) (rest := [.int _, .ref _]) rfl (x_X4_advise_j G hS hx (jc := jc) (tc := tc) (ln := ln) (x := x) (y := y)) Rv_H wm_L_61 rfl ⟨rfl, rfl, Nat.le_of_ble_eq_true rfl, Nat.le_of_ble_eq_true rfl, Nat.le_of_ble_eq_true rfl, Nat.le_of_ble_eq_true rfl, Nat.le_of_ble_eq_true rfl⟩ dL_advise_5 (fun H1 locs1 ls ce q9 a1 a2 a3 a4 a5 a6 a7 => ?_)
  refine v_catch F htab [] ⟨0, 10, 13, 21⟩ [⟨0, 10, 17, 13⟩] rfl (fun z hz => absurd hz List.not_mem_nil) (by decide) (by decide) wcl_L_21 wca_i H1 locs1 ls ce q9 a1 a2 a3 a4 a5 a6 a7 ?_
  refine v_astore F dL_advise_13 (by decide) (lv' := [(4, .ref _), (0, .ref _), (1, .int _), (2, .int _), (3, .ref _)]) rfl ?_
  refine v_iconst F (v := 1) dL_advise_15 (by decide) ?_
  exact v_iret F hr dL_advise_16 rfl rfl rfl
set_option maxHeartbeats 4000000 in
set_option maxRecDepth 100000 in
theorem x_L_advise_b {X : Cx} {l : Launch} (G : Gx X l) {M : Mem} {lf : Lf} {jc tc : Nat} {ln : Nat → Nat} (hS : Shp (M 0) jc tc ln) {j : Nat} (hj : j < jc) {y : Int32} (hx : y < 1 ∨ nI 60 < y) : CI X l yL_advise (wsh yL_advise cL_advise 5 (some .int) [(0, 10, 13, 21), (0, 10, 17, 13)]) rx_L_advise [.ref (X.2.1 5 0 0), .int (nI j), .int y, .ref (X.2.1 6 0 0)] (M) lf 2 (M) lf 1 6 := by
  refine CI_ofH (lv := [(0, .ref _), (1, .int _), (2, .int _), (3, .ref _)]) G (by decide) (Nat.le_of_ble_eq_true rfl) rfl (fun p e s m args below meth c F hr htab => ?_)
  have F : Fx p l s m args meth c cL_advise 5 RL X := F
  refine v_aload_n F dL_advise_0 rfl 3 rfl ?_
  refine v_iconst F (v := 0) dL_advise_1 (by decide) ?_
  refine v_aload_n F dL_advise_2 rfl 0 rfl ?_
  refine v_iload_n F dL_advise_3 rfl 1 rfl ?_
  refine v_iload_n F dL_advise_4 rfl 2 rfl ?_
  refine v_callXVi F (As := [_, _]) (rest := [.int _, .ref _]) rfl (x_X4_advise_b G hS hj hx (jc := jc) (tc := tc) (ln := ln) (j := j) (y := y)) Rv_H wm_L_61 rfl ⟨rfl, rfl, Nat.le_of_ble_eq_true rfl, Nat.le_of_ble_eq_true rfl, Nat.le_of_ble_eq_true rfl, Nat.le_of_ble_eq_true rfl, Nat.le_of_ble_eq_true rfl⟩ dL_advise_5 (fun H1 locs1 ls ce q9 a1 a2 a3 a4 a5 a6 a7 => ?_)
  refine v_catch F htab [⟨0, 10, 13, 21⟩] ⟨0, 10, 17, 13⟩ [] rfl (fun z hz => by rw [List.mem_singleton.mp hz]; exact Or.inr ⟨by decide, _, wcl_L_21, by decide +kernel⟩) (by decide) (by decide) wcl_L_13 wca_a H1 locs1 ls ce q9 a1 a2 a3 a4 a5 a6 a7 ?_
  refine v_astore F dL_advise_17 (by decide) (lv' := [(4, .ref _), (0, .ref _), (1, .int _), (2, .int _), (3, .ref _)]) rfl ?_
  refine v_iconst F (v := 2) dL_advise_19 (by decide) ?_
  exact v_iret F hr dL_advise_20 rfl rfl rfl
