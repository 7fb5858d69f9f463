/-! ===== the law: what is asked of the ring ===== -/
theorem ask_c {y : Int32} {n : Nat} {z : Int32} (h : (0 < y ∧ y ≤ nI n) ↔ 0 < z) : (0 < y ∧ y ≤ nI n ∧ 0 < z) ∨ (y ≤ 0 ∧ ¬ 0 < z) ∨ (0 < y ∧ ¬ y ≤ nI n ∧ ¬ 0 < z) := by
  by_cases hz : 0 < z
  · exact Or.inl ⟨(h.mpr hz).1, (h.mpr hz).2, hz⟩
  · by_cases hy : 0 < y
    · exact Or.inr (Or.inr ⟨hy, fun w => hz (h.mp ⟨hy, w⟩), hz⟩)
    · exact Or.inr (Or.inl ⟨le_of_nlt hy, hz⟩)
theorem lt_nle {a b : Int32} (h : a < b) : ¬ b ≤ a := nle_lt h
section LASK
variable {p : Program} {l : Launch} {e : Env} {s : State} {m : MethodId} {below : List Frame} {meth : Method} {c : Code} {Q : State → Prop} {X : Cx} {M : Mem} {lf : Lf} {b L : Nat} {xs : Nat → Int32}
set_option maxHeartbeats 4000000 in
set_option maxRecDepth 100000 in
theorem ask3_m (F : Fx p l s m #[Value.ref b] meth c cL_law 28 RL X) (G : Gx X l) {C S t j jc tc bt n : Nat} {σ : Sg} {ln : Nat → Nat} (hC : C + 19 ≤ 787500) (hS0 : S + 92 ≤ 6738968) (hM : M 0 = σ) (I : RI σ jc tc bt ln) (hj : j < jc) (K : V p l e room_1 s m #[Value.ref b] below meth c Q X 28 ([]) (M) lf (C) (S) 471 [(11, .int (plR bt jc tc ln σ n)), (10, .int (fIn (plL bt jc tc ln σ n) tc 2)), (7, .int (nI n)), (5, .int (nI tc)), (4, .int (nI jc)), (2, .int (nI t)), (1, .ref (X.2.1 5 0 0)), (0, .ref b)] [])  : V p l e room_1 s m #[Value.ref b] below meth c Q X 28 ([]) (M) lf (C) (S) 429 [(13, .int (-1)), (11, .int (plR bt jc tc ln σ n)), (10, .int (fIn (plL bt jc tc ln σ n) tc 2)), (7, .int (nI n)), (6, .int (nI j)), (5, .int (nI tc)), (4, .int (nI jc)), (2, .int (nI t)), (1, .ref (X.2.1 5 0 0)), (0, .ref b)] [] := by
  have h4 := I.1.1
  have h12 := I.1.2.1
  have hl := I.1.2.2.2.2 j hj
  have hS : Shp (M 0) jc tc ln := by rw [hM]; exact I.1
  have hB0 : M 0 0 0 4 = nI bt := by rw [hM]; exact I.2.1
  refine v_iload F dL_law_429 0 rfl ?_
  refine v_bipush F (v := nI 10) dL_law_431 (by decide) ?_
  refine v_aload_n F dL_law_433 rfl 8 rfl ?_
  refine v_iload F dL_law_434 4 rfl ?_
  refine v_iconst F (v := nI 4) dL_law_436 (by decide) ?_
  refine v_callVi F (As := [_, _]) (rest := [.int _, .int _]) rfl (c_X4_juggler G hS hj (q := 4) (by decide)) Rv_H wm_L_57 rfl ⟨rfl, rfl, Nat.le_of_ble_eq_true rfl, Nat.le_of_ble_eq_true rfl, (by show _ ≤ 787500; omega), (by show _ ≤ 6738968; omega), Nat.le_of_ble_eq_true rfl⟩ dL_law_437 ?_
  refine v_topr (nI (ln j)) (by rw [hM]; exact hl.2.2) ?_
  refine v_imul F dL_law_440 ?_
  refine v_topr (nI (10 * ln j)) (pk_mul _ _) ?_
  refine v_icmp_ge F (tgt := 469) dL_law_441 (by decide) (fun h => absurd h (lt_nle (Int32.lt_of_lt_of_le (by decide : (-1 : Int32) < 0) (nI_pos' (by omega))))) (fun c441 => ?_)
  refine v_iload F dL_law_444 0 rfl ?_
  refine v_if_lt F (tgt := 471) dL_law_446 (by decide) (fun c446 => ?_) (fun h => absurd ((by decide : (-1 : Int32) < 0)) h)
  exact v_locs [1, 2, 3, 5, 6, 7, 8, 9] rfl (K)
set_option maxHeartbeats 4000000 in
set_option maxRecDepth 100000 in
theorem ask3_a (F : Fx p l s m #[Value.ref b] meth c cL_law 28 RL X) (G : Gx X l) {C S t j jc tc bt n : Nat} {σ : Sg} {ln : Nat → Nat} (hC : C + 19 ≤ 787500) (hS0 : S + 92 ≤ 6738968) (hM : M 0 = σ) (I : RI σ jc tc bt ln) (hj : j < jc) {q h : Nat} (hq : q < ln j) (h9 : h ≤ 9) (hne : ¬ σ 4 j q = nI h) (K : V p l e room_1 s m #[Value.ref b] below meth c Q X 28 ([]) (M) lf (C) (S) 471 [(11, .int (plR bt jc tc ln σ n)), (10, .int (fIn (plL bt jc tc ln σ n) tc 2)), (7, .int (nI n)), (5, .int (nI tc)), (4, .int (nI jc)), (2, .int (nI t)), (1, .ref (X.2.1 5 0 0)), (0, .ref b)] [])  : V p l e room_1 s m #[Value.ref b] below meth c Q X 28 ([]) (M) lf (C) (S) 429 [(13, .int (nI (10 * q + h))), (11, .int (plR bt jc tc ln σ n)), (10, .int (fIn (plL bt jc tc ln σ n) tc 2)), (7, .int (nI n)), (6, .int (nI j)), (5, .int (nI tc)), (4, .int (nI jc)), (2, .int (nI t)), (1, .ref (X.2.1 5 0 0)), (0, .ref b)] [] := by
  have h4 := I.1.1
  have h12 := I.1.2.1
  have hl := I.1.2.2.2.2 j hj
  have hS : Shp (M 0) jc tc ln := by rw [hM]; exact I.1
  have hB0 : M 0 0 0 4 = nI bt := by rw [hM]; exact I.2.1
  refine v_iload F dL_law_429 0 rfl ?_
  refine v_bipush F (v := nI 10) dL_law_431 (by decide) ?_
  refine v_aload_n F dL_law_433 rfl 8 rfl ?_
  refine v_iload F dL_law_434 4 rfl ?_
  refine v_iconst F (v := nI 4) dL_law_436 (by decide) ?_
  refine v_callVi F (As := [_, _]) (rest := [.int _, .int _]) rfl (c_X4_juggler G hS hj (q := 4) (by decide)) Rv_H wm_L_57 rfl ⟨rfl, rfl, Nat.le_of_ble_eq_true rfl, Nat.le_of_ble_eq_true rfl, (by show _ ≤ 787500; omega), (by show _ ≤ 6738968; omega), Nat.le_of_ble_eq_true rfl⟩ dL_law_437 ?_
  refine v_topr (nI (ln j)) (by rw [hM]; exact hl.2.2) ?_
  refine v_imul F dL_law_440 ?_
  refine v_topr (nI (10 * ln j)) (pk_mul _ _) ?_
  refine v_icmp_ge F (tgt := 469) dL_law_441 (by decide) (fun h => absurd h (nI_ge (by omega) (by omega))) (fun c441 => ?_)
  refine v_iload F dL_law_444 0 rfl ?_
  refine v_if_lt F (tgt := 471) dL_law_446 (by decide) (fun h => absurd h (nI_pos (by omega))) (fun c446 => ?_)
  refine v_aload_n F dL_law_449 rfl 8 rfl ?_
  refine v_iload F dL_law_450 4 rfl ?_
  refine v_iload F dL_law_452 0 rfl ?_
  refine v_bipush F (v := nI 10) dL_law_454 (by decide) ?_
  refine v_idiv F dL_law_456 (nI_ne0 (by decide) (by decide)) ?_
  refine v_topr (nI q) ((pk_div (by omega) (by decide) (by decide)).trans (congrArg nI (by omega))) ?_
  refine v_iconst F (v := nI 0) dL_law_457 (by decide) ?_
  refine v_callVi F (As := [_, _, _]) (rest := []) rfl (c_X4_written_0 G hS hj hq) Rv_H wm_L_60 rfl ⟨rfl, rfl, Nat.le_of_ble_eq_true rfl, Nat.le_of_ble_eq_true rfl, (by show _ ≤ 787500; omega), (by show _ ≤ 6738968; omega), Nat.le_of_ble_eq_true rfl⟩ dL_law_458 ?_
  refine v_iload F dL_law_461 0 rfl ?_
  refine v_bipush F (v := nI 10) dL_law_463 (by decide) ?_
  refine v_irem F dL_law_465 (nI_ne0 (by decide) (by decide)) ?_
  refine v_topr (nI h) ((pk_rem (by omega) (by decide) (by decide)).trans (congrArg nI (by omega))) ?_
  refine v_icmp_ne F (tgt := 471) dL_law_466 (by decide) (fun c466 => ?_) (fun h => absurd h ((by rw [hM]; exact hne)))
  exact v_locs [1, 2, 3, 5, 6, 7, 8, 9] rfl (K)
set_option maxHeartbeats 4000000 in
set_option maxRecDepth 100000 in
theorem ask2_1 (F : Fx p l s m #[Value.ref b] meth c cL_law 28 RL X) (G : Gx X l) {C S t j jc tc bt n : Nat} {σ : Sg} {ln : Nat → Nat} {y ad : Int32} (g : 0 < y ∧ y ≤ nI n ∧ 0 < plR bt jc tc ln σ n) (K : V p l e room_1 s m #[Value.ref b] below meth c Q X 28 ([]) (M) lf (C) (S) 429 [(13, .int ad), (11, .int (plR bt jc tc ln σ n)), (10, .int (fIn (plL bt jc tc ln σ n) tc 2)), (7, .int (nI n)), (6, .int (nI j)), (5, .int (nI tc)), (4, .int (nI jc)), (2, .int (nI t)), (1, .ref (X.2.1 5 0 0)), (0, .ref b)] [])  : V p l e room_1 s m #[Value.ref b] below meth c Q X 28 ([]) (M) lf (C) (S) 399 [(13, .int ad), (12, .int y), (11, .int (plR bt jc tc ln σ n)), (10, .int (fIn (plL bt jc tc ln σ n) tc 2)), (7, .int (nI n)), (6, .int (nI j)), (5, .int (nI tc)), (4, .int (nI jc)), (2, .int (nI t)), (1, .ref (X.2.1 5 0 0)), (0, .ref b)] [] := by
  refine v_iload F dL_law_399 1 rfl ?_
  refine v_if_le F (tgt := 415) dL_law_401 (by decide) (fun h => absurd h (lt_nle g.1)) (fun c401 => ?_)
  refine v_iload F dL_law_404 1 rfl ?_
  refine v_iload F dL_law_406 4 rfl ?_
  refine v_icmp_gt F (tgt := 415) dL_law_408 (by decide) (fun h => absurd h (nlt_le g.2.1)) (fun c408 => ?_)
  refine v_iconst F (v := 1) dL_law_411 (by decide) ?_
  refine v_goto F (tgt := 416) dL_law_412 (by decide) ?_
  refine v_iload F dL_law_416 2 rfl ?_
  refine v_if_le F (tgt := 425) dL_law_418 (by decide) (fun h => absurd h (lt_nle g.2.2)) (fun c418 => ?_)
  refine v_iconst F (v := 1) dL_law_421 (by decide) ?_
  refine v_goto F (tgt := 426) dL_law_422 (by decide) ?_
  refine v_icmp_ne F (tgt := 469) dL_law_426 (by decide) (fun h => absurd (rfl) h) (fun c426 => ?_)
  exact v_locs [0, 2, 3, 4, 5, 6, 7, 8, 9, 10] rfl (K)
set_option maxHeartbeats 4000000 in
set_option maxRecDepth 100000 in
theorem ask2_2 (F : Fx p l s m #[Value.ref b] meth c cL_law 28 RL X) (G : Gx X l) {C S t j jc tc bt n : Nat} {σ : Sg} {ln : Nat → Nat} {y ad : Int32} (g : y ≤ 0 ∧ ¬ 0 < plR bt jc tc ln σ n) (K : V p l e room_1 s m #[Value.ref b] below meth c Q X 28 ([]) (M) lf (C) (S) 429 [(13, .int ad), (11, .int (plR bt jc tc ln σ n)), (10, .int (fIn (plL bt jc tc ln σ n) tc 2)), (7, .int (nI n)), (6, .int (nI j)), (5, .int (nI tc)), (4, .int (nI jc)), (2, .int (nI t)), (1, .ref (X.2.1 5 0 0)), (0, .ref b)] [])  : V p l e room_1 s m #[Value.ref b] below meth c Q X 28 ([]) (M) lf (C) (S) 399 [(13, .int ad), (12, .int y), (11, .int (plR bt jc tc ln σ n)), (10, .int (fIn (plL bt jc tc ln σ n) tc 2)), (7, .int (nI n)), (6, .int (nI j)), (5, .int (nI tc)), (4, .int (nI jc)), (2, .int (nI t)), (1, .ref (X.2.1 5 0 0)), (0, .ref b)] [] := by
  refine v_iload F dL_law_399 1 rfl ?_
  refine v_if_le F (tgt := 415) dL_law_401 (by decide) (fun c401 => ?_) (fun h => absurd (g.1) h)
  refine v_iconst F (v := 0) dL_law_415 (by decide) ?_
  refine v_iload F dL_law_416 2 rfl ?_
  refine v_if_le F (tgt := 425) dL_law_418 (by decide) (fun c418 => ?_) (fun h => absurd ((le_of_nlt g.2)) h)
  refine v_iconst F (v := 0) dL_law_425 (by decide) ?_
  refine v_icmp_ne F (tgt := 469) dL_law_426 (by decide) (fun h => absurd (rfl) h) (fun c426 => ?_)
  exact v_locs [0, 2, 3, 4, 5, 6, 7, 8, 9, 10] rfl (K)
set_option maxHeartbeats 4000000 in
set_option maxRecDepth 100000 in
theorem ask2_3 (F : Fx p l s m #[Value.ref b] meth c cL_law 28 RL X) (G : Gx X l) {C S t j jc tc bt n : Nat} {σ : Sg} {ln : Nat → Nat} {y ad : Int32} (g : 0 < y ∧ ¬ y ≤ nI n ∧ ¬ 0 < plR bt jc tc ln σ n) (K : V p l e room_1 s m #[Value.ref b] below meth c Q X 28 ([]) (M) lf (C) (S) 429 [(13, .int ad), (11, .int (plR bt jc tc ln σ n)), (10, .int (fIn (plL bt jc tc ln σ n) tc 2)), (7, .int (nI n)), (6, .int (nI j)), (5, .int (nI tc)), (4, .int (nI jc)), (2, .int (nI t)), (1, .ref (X.2.1 5 0 0)), (0, .ref b)] [])  : V p l e room_1 s m #[Value.ref b] below meth c Q X 28 ([]) (M) lf (C) (S) 399 [(13, .int ad), (12, .int y), (11, .int (plR bt jc tc ln σ n)), (10, .int (fIn (plL bt jc tc ln σ n) tc 2)), (7, .int (nI n)), (6, .int (nI j)), (5, .int (nI tc)), (4, .int (nI jc)), (2, .int (nI t)), (1, .ref (X.2.1 5 0 0)), (0, .ref b)] [] := by
  refine v_iload F dL_law_399 1 rfl ?_
  refine v_if_le F (tgt := 415) dL_law_401 (by decide) (fun h => absurd h (lt_nle g.1)) (fun c401 => ?_)
  refine v_iload F dL_law_404 1 rfl ?_
  refine v_iload F dL_law_406 4 rfl ?_
  refine v_icmp_gt F (tgt := 415) dL_law_408 (by decide) (fun c408 => ?_) (fun h => absurd ((lt_of_nle g.2.1)) h)
  refine v_iconst F (v := 0) dL_law_415 (by decide) ?_
  refine v_iload F dL_law_416 2 rfl ?_
  refine v_if_le F (tgt := 425) dL_law_418 (by decide) (fun c418 => ?_) (fun h => absurd ((le_of_nlt g.2.2)) h)
  refine v_iconst F (v := 0) dL_law_425 (by decide) ?_
  refine v_icmp_ne F (tgt := 469) dL_law_426 (by decide) (fun h => absurd (rfl) h) (fun c426 => ?_)
  exact v_locs [0, 2, 3, 4, 5, 6, 7, 8, 9, 10] rfl (K)
set_option maxHeartbeats 4000000 in
set_option maxRecDepth 100000 in
theorem ask2 (F : Fx p l s m #[Value.ref b] meth c cL_law 28 RL X) (G : Gx X l) {C S t j jc tc bt n : Nat} {σ : Sg} {ln : Nat → Nat} (hC : C + 19 ≤ 787500) (hS0 : S + 92 ≤ 6738968) (hM : M 0 = σ) (I : RI σ jc tc bt ln) (hj : j < jc) {y ad : Int32} (hy : (0 < y ∧ y ≤ nI n) ↔ 0 < plR bt jc tc ln σ n) (had : AdOk σ j ln ad) (K : V p l e room_1 s m #[Value.ref b] below meth c Q X 28 ([]) (M) lf (C) (S) 471 [(11, .int (plR bt jc tc ln σ n)), (10, .int (fIn (plL bt jc tc ln σ n) tc 2)), (7, .int (nI n)), (5, .int (nI tc)), (4, .int (nI jc)), (2, .int (nI t)), (1, .ref (X.2.1 5 0 0)), (0, .ref b)] [])  : V p l e room_1 s m #[Value.ref b] below meth c Q X 28 ([]) (M) lf (C) (S) 387 [(12, .int y), (11, .int (plR bt jc tc ln σ n)), (10, .int (fIn (plL bt jc tc ln σ n) tc 2)), (8, .long (fDigest σ jc tc ln)), (7, .int (nI n)), (6, .int (nI j)), (5, .int (nI tc)), (4, .int (nI jc)), (2, .int (nI t)), (1, .ref (X.2.1 5 0 0)), (0, .ref b)] [.int ad] := by
  have h4 := I.1.1
  have h12 := I.1.2.1
  have hl := I.1.2.2.2.2 j hj
  have hS : Shp (M 0) jc tc ln := by rw [hM]; exact I.1
  have hB0 : M 0 0 0 4 = nI bt := by rw [hM]; exact I.2.1
  refine v_istore F dL_law_387 (by decide) (lv' := [(13, .int _), (12, .int _), (11, .int _), (10, .int _), (8, .long _), (7, .int _), (6, .int _), (5, .int _), (4, .int _), (2, .int _), (1, .ref _), (0, .ref _)]) rfl ?_
  refine v_aload_n F dL_law_389 rfl 10 rfl ?_
  refine v_callVl F (As := []) (rest := []) rfl (c_X4_digest G hS) Rv_H wm_L_63 rfl ⟨rfl, rfl, Nat.le_of_ble_eq_true rfl, Nat.le_of_ble_eq_true rfl, (by show _ ≤ 787500; omega), (by show _ ≤ 6738968; omega), Nat.le_of_ble_eq_true rfl⟩ dL_law_390 ?_
  refine v_toprl (fDigest σ jc tc ln) (by rw [hM]) ?_
  refine v_lload F dL_law_393 4 rfl ?_
  refine v_lcmp F dL_law_395 ?_
  refine v_topr 0 (lg_self _) ?_
  refine v_if_ne F (tgt := 469) dL_law_396 (by decide) (fun h => absurd (rfl) h) (fun c396 => ?_)
  refine v_locs [0, 1, 2, 3, 5, 6, 7, 8, 9, 10, 11] rfl ?_
  have KK : V p l e room_1 s m #[Value.ref b] below meth c Q X 28 ([]) (M) lf (C) (S) 429 [(13, .int ad), (11, .int (plR bt jc tc ln σ n)), (10, .int (fIn (plL bt jc tc ln σ n) tc 2)), (7, .int (nI n)), (6, .int (nI j)), (5, .int (nI tc)), (4, .int (nI jc)), (2, .int (nI t)), (1, .ref (X.2.1 5 0 0)), (0, .ref b)] [] := by
    rcases had with rfl | ⟨q, h, hq, h9, rfl, hne⟩
    · exact ask3_m F G hC hS0 hM I hj K
    · exact ask3_a F G hC hS0 hM I hj hq h9 hne K
  rcases ask_c hy with g | g | g
  · exact ask2_1 F G g KK
  · exact ask2_2 F G g KK
  · exact ask2_3 F G g KK
set_option maxHeartbeats 4000000 in
set_option maxRecDepth 100000 in
theorem law_ask (F : Fx p l s m #[Value.ref b] meth c cL_law 28 RL X) (G : Gx X l) {C S t j jc tc bt : Nat} {x : Int32} {σ : Sg} {ln : Nat → Nat} (hC : C + 19 ≤ 787500) (hS0 : S + 92 ≤ 6738968) (ht : t < 30) (hM : M 0 = σ) (I : RI σ jc tc bt ln) (hj : j < jc) (hbt : bt ≤ 1000) (K : ∀ (M : Mem) (n : Nat), M 0 = σ → 1 ≤ n → n ≤ 4 → V p l e room_1 s m #[Value.ref b] below meth c Q X 28 ([]) (M) lf (C) (S) 471 [(11, .int (plR bt jc tc ln σ n)), (10, .int (fIn (plL bt jc tc ln σ n) tc 2)), (7, .int (nI n)), (5, .int (nI tc)), (4, .int (nI jc)), (2, .int (nI t)), (1, .ref (X.2.1 5 0 0)), (0, .ref b)] [])  : V p l e room_1 s m #[Value.ref b] below meth c Q X 28 ([]) (M) lf (C) (S) 305 [(6, .int (nI j)), (3, .int x), (2, .int (nI t)), (1, .ref (X.2.1 5 0 0)), (0, .ref b)] [] := by
  have h4 := I.1.1
  have h12 := I.1.2.1
  have hl := I.1.2.2.2.2 j hj
  have hS : Shp (M 0) jc tc ln := by rw [hM]; exact I.1
  have hB0 : M 0 0 0 4 = nI bt := by rw [hM]; exact I.2.1
  refine v_aload_n F dL_law_305 rfl 3 rfl ?_
  refine v_iconst F (v := nI 1) dL_law_306 (by decide) ?_
  refine v_callVi F (As := [_]) (rest := []) rfl (c_X4_count G hS (q := 1) (by decide)) Rv_H wm_L_54 rfl ⟨rfl, rfl, Nat.le_of_ble_eq_true rfl, Nat.le_of_ble_eq_true rfl, (by show _ ≤ 787500; omega), (by show _ ≤ 6738968; omega), Nat.le_of_ble_eq_true rfl⟩ dL_law_307 ?_
  refine v_topr (nI jc) (by rw [hM]; exact I.1.2.2.1) ?_
  refine v_istore F dL_law_310 (by decide) (lv' := [(4, .int _), (6, .int _), (3, .int _), (2, .int _), (1, .ref _), (0, .ref _)]) rfl ?_
  refine v_aload_n F dL_law_312 rfl 4 rfl ?_
  refine v_iconst F (v := nI 2) dL_law_313 (by decide) ?_
  refine v_callVi F (As := [_]) (rest := []) rfl (c_X4_count G hS (q := 2) (by decide)) Rv_H wm_L_54 rfl ⟨rfl, rfl, Nat.le_of_ble_eq_true rfl, Nat.le_of_ble_eq_true rfl, (by show _ ≤ 787500; omega), (by show _ ≤ 6738968; omega), Nat.le_of_ble_eq_true rfl⟩ dL_law_314 ?_
  refine v_topr (nI tc) (by rw [hM]; exact I.1.2.2.2.1) ?_
  refine v_istore F dL_law_317 (by decide) (lv' := [(5, .int _), (4, .int _), (6, .int _), (3, .int _), (2, .int _), (1, .ref _), (0, .ref _)]) rfl ?_
  refine v_iconst F (v := nI 1) dL_law_319 (by decide) ?_
  refine v_iload_n F dL_law_320 rfl 3 rfl ?_
  refine v_iconst F (v := nI 4) dL_law_321 (by decide) ?_
  refine v_ishr F dL_law_322 ?_
  refine v_iconst F (v := nI 4) dL_law_323 (by decide) ?_
  refine v_callSi F (As := [_, _]) (rest := [.int _]) rfl (c_L_below G _ (n := 4) (by decide) (by decide)) wm_L_9 rfl ⟨rfl, rfl, Nat.le_of_ble_eq_true rfl, Nat.le_of_ble_eq_true rfl, (by show _ ≤ 787500; omega), (by show _ ≤ 6738968; omega), Nat.le_of_ble_eq_true rfl⟩ dL_law_324 ?_
  refine v_iadd F dL_law_327 ?_
  refine v_topr (nI (1 + bl (x >>> (nI 4 &&& 31)) 4)) (nI_add _ _) ?_
  refine v_istore F dL_law_328 (by decide) (lv' := [(7, .int _), (5, .int _), (4, .int _), (6, .int _), (3, .int _), (2, .int _), (1, .ref _), (0, .ref _)]) rfl ?_
  have hn4 : 1 + bl (x >>> (nI 4 &&& 31)) 4 ≤ 4 := by have := bl_lt (x >>> (nI 4 &&& 31)) (n := 4) (by decide); omega
  generalize hn0 : 1 + bl (x >>> (nI 4 &&& 31)) 4 = n at hn4
  have h1n : 1 ≤ n := by omega
  refine v_aload_n F dL_law_330 rfl 6 rfl ?_
  refine v_callVl F (As := []) (rest := []) rfl (c_X4_digest G hS) Rv_H wm_L_63 rfl ⟨rfl, rfl, Nat.le_of_ble_eq_true rfl, Nat.le_of_ble_eq_true rfl, (by show _ ≤ 787500; omega), (by show _ ≤ 6738968; omega), Nat.le_of_ble_eq_true rfl⟩ dL_law_331 ?_
  refine v_toprl (fDigest σ jc tc ln) (by rw [hM]) ?_
  refine v_lstore F dL_law_334 (by decide) (lv' := [(8, .long _), (7, .int _), (5, .int _), (4, .int _), (6, .int _), (3, .int _), (2, .int _), (1, .ref _), (0, .ref _)]) rfl ?_
  refine v_aload_n F dL_law_336 rfl 7 rfl ?_
  refine v_iload F dL_law_337 1 rfl ?_
  refine v_iconst F (v := nI 0) dL_law_339 (by decide) ?_
  refine v_callVi F (As := [_, _]) (rest := []) rfl (c_X4_foresee_0 G hS (n := n) (by omega) hB0 h1n (by omega)) Rv_H wm_L_67 rfl ⟨rfl, rfl, Nat.le_of_ble_eq_true rfl, Nat.le_of_ble_eq_true rfl, (by show _ ≤ 787500; omega), (by show _ ≤ 6738968; omega), Nat.le_of_ble_eq_true rfl⟩ dL_law_340 ?_
  refine v_topr (fIn (plL bt jc tc ln σ n) tc 2) (by rw [hM]; exact e_air I.1) ?_
  refine v_memI (P := fun M1 => M1 0 = σ) ((uC_ne (by decide)).trans hM) (fun M hM => ?_)
  have hS : Shp (M 0) jc tc ln := by rw [hM]; exact I.1
  have hB0 : M 0 0 0 4 = nI bt := by rw [hM]; exact I.2.1
  refine v_istore F dL_law_343 (by decide) (lv' := [(10, .int _), (8, .long _), (7, .int _), (5, .int _), (4, .int _), (6, .int _), (3, .int _), (2, .int _), (1, .ref _), (0, .ref _)]) rfl ?_
  refine v_aload_n F dL_law_345 rfl 8 rfl ?_
  refine v_iload F dL_law_346 2 rfl ?_
  refine v_iconst F (v := nI 1) dL_law_348 (by decide) ?_
  refine v_callVi F (As := [_, _]) (rest := []) rfl (c_X4_foresee_1 G hS (n := n) (by omega) hB0 h1n (by omega)) Rv_H wm_L_67 rfl ⟨rfl, rfl, Nat.le_of_ble_eq_true rfl, Nat.le_of_ble_eq_true rfl, (by show _ ≤ 787500; omega), (by show _ ≤ 6738968; omega), Nat.le_of_ble_eq_true rfl⟩ dL_law_349 ?_
  refine v_topr (plR bt jc tc ln σ n) (by rw [hM]; exact e_falls I.1) ?_
  refine v_memI (P := fun M1 => M1 0 = σ) ((uC_ne (by decide)).trans hM) (fun M hM => ?_)
  have hS : Shp (M 0) jc tc ln := by rw [hM]; exact I.1
  have hB0 : M 0 0 0 4 = nI bt := by rw [hM]; exact I.2.1
  refine v_istore F dL_law_352 (by decide) (lv' := [(11, .int _), (10, .int _), (8, .long _), (7, .int _), (5, .int _), (4, .int _), (6, .int _), (3, .int _), (2, .int _), (1, .ref _), (0, .ref _)]) rfl ?_
  refine v_aload_n F dL_law_354 rfl 9 rfl ?_
  refine v_callVi F (As := []) (rest := []) rfl (c_X4_falls G hS (by omega) hB0) Rv_H wm_L_70 rfl ⟨rfl, rfl, Nat.le_of_ble_eq_true rfl, Nat.le_of_ble_eq_true rfl, (by show _ ≤ 787500; omega), (by show _ ≤ 6738968; omega), Nat.le_of_ble_eq_true rfl⟩ dL_law_355 ?_
  refine v_topP (P := fun y => (0 < y ∧ y ≤ nI n) ↔ 0 < plR bt jc tc ln σ n) (by rw [hM]; exact falls_e I.1 Alk_copy h1n (by omega)) (fun y hy => ?_)
  refine v_memI (P := fun M1 => M1 0 = σ) ((uC_ne (by decide)).trans hM) (fun M hM => ?_)
  have hS : Shp (M 0) jc tc ln := by rw [hM]; exact I.1
  have hB0 : M 0 0 0 4 = nI bt := by rw [hM]; exact I.2.1
  refine v_istore F dL_law_358 (by decide) (lv' := [(12, .int _), (11, .int _), (10, .int _), (8, .long _), (7, .int _), (5, .int _), (4, .int _), (6, .int _), (3, .int _), (2, .int _), (1, .ref _), (0, .ref _)]) rfl ?_
  refine v_iload_n F dL_law_360 rfl 9 rfl ?_
  refine v_iconst F (v := nI 5) dL_law_361 (by decide) ?_
  refine v_irem F dL_law_362 (nI_ne0 (by decide) (by decide)) ?_
  refine v_topr (nI (t % 5)) (pk_rem (by omega) (by decide) (by decide)) ?_
  refine v_if_ne F (tgt := 386) dL_law_363 (by decide) (fun c363 => ?_) (fun c363 => ?_)
  · have := c363
    refine v_iconst F (v := (-1)) dL_law_386 (by decide) ?_
    refine v_locs [0, 1, 2, 3, 4, 7, 5, 6, 9, 10, 11] rfl ?_
    exact ask2 F G hC hS0 hM I hj hy (Or.inl rfl) (K M n hM h1n hn4)
  · have := c363
    refine v_aload_n F dL_law_366 rfl 10 rfl ?_
    refine v_iload F dL_law_367 7 rfl ?_
    refine v_iconst F (v := nI 1) dL_law_369 (by decide) ?_
    refine v_iload_n F dL_law_370 rfl 8 rfl ?_
    refine v_bipush F (v := nI 6) dL_law_371 (by decide) ?_
    refine v_ishr F dL_law_373 ?_
    refine v_bipush F (v := nI 30) dL_law_374 (by decide) ?_
    refine v_callSi F (As := [_, _]) (rest := [.int _, .int _, .ref _]) rfl (c_L_below G _ (n := 30) (by decide) (by decide)) wm_L_9 rfl ⟨rfl, rfl, Nat.le_of_ble_eq_true rfl, Nat.le_of_ble_eq_true rfl, (by show _ ≤ 787500; omega), (by show _ ≤ 6738968; omega), Nat.le_of_ble_eq_true rfl⟩ dL_law_376 ?_
    refine v_iadd F dL_law_379 ?_
    refine v_topr (nI (1 + bl (x >>> (nI 6 &&& 31)) 30)) (nI_add _ _) ?_
    have h30 := bl_lt (x >>> (nI 6 &&& 31)) (n := 30) (by decide)
    refine v_callVi F (As := [_, _]) (rest := []) rfl (c_X4_advise G hS (n := 1 + bl (x >>> (nI 6 &&& 31)) 30) (by omega) hB0 hj (by omega) (by omega)) Rv_H wm_L_74 rfl ⟨rfl, rfl, Nat.le_of_ble_eq_true rfl, Nat.le_of_ble_eq_true rfl, (by show _ ≤ 787500; omega), (by show _ ≤ 6738968; omega), Nat.le_of_ble_eq_true rfl⟩ dL_law_380 ?_
    refine v_topP (P := fun z => AdOk σ j ln z) (by rw [hM]; exact advise_ok I.1 hj) (fun ad had => ?_)
    refine v_memI (P := fun M1 => M1 0 = σ) ((uC_ne (by decide)).trans hM) (fun M hM => ?_)
    have hS : Shp (M 0) jc tc ln := by rw [hM]; exact I.1
    have hB0 : M 0 0 0 4 = nI bt := by rw [hM]; exact I.2.1
    refine v_goto F (tgt := 387) dL_law_383 (by decide) ?_
    refine v_locs [0, 1, 2, 3, 4, 7, 5, 6, 9, 10, 11] rfl ?_
    exact ask2 F G hC hS0 hM I hj hy had (K M n hM h1n hn4)
end LASK
