/-! ===== the law: its loop ===== -/
theorem ixn {x : Int32} {n : Nat} (hn : n < 2 ^ 31) (h : ¬ (x < 0 ∨ nI n ≤ x)) : ∃ j : Nat, j < n ∧ x = nI j := by
  rcases pk_ix x hn with a | a | a
  · exact absurd (Or.inl a) h
  · exact absurd (Or.inr a) h
  · exact a
theorem tw_out : ∀ j : Nat, j < 32 → 18 ≤ j → (nI j).toInt < 0 ∨ 17 < (nI j).toInt := by decide +kernel
section LAW2
variable {p : Program} {l : Launch} {e : Env} {s : State} {m : MethodId} {below : List Frame} {meth : Method} {c : Code} {Q : State → Prop} {X : Cx} {M : Mem} {lf : Lf} {cells slots : Nat} {b L : Nat} {xs : Nat → Int32}
set_option maxHeartbeats 4000000 in
set_option maxRecDepth 100000 in
theorem W_come (F : Fx p l s m #[Value.ref b] meth c cL_law 9 RL X) (hX : va_X b L xs s s.heap) (hbl : b < s.heap.size) (hbase : X.2.2.2 = s.heap.size) {i kk jc tc bt : Nat} {ln : Nat → Nat} (hi : i + 3 < L) (hL : L ≤ 2048) (hc : cells + 122 ≤ 601024) (hs : slots + 871 ≤ 7293034) (I : Inv (M 0) (M 2) (M 3) jc tc bt ln) (hbk : bt ≤ 200 * kk) (hkk : kk ≤ 512) (K : ∀ (M' : Mem) (lf' : Lf), LInv M' (kk + 1) → V p l e room_1 s m #[Value.ref b] below meth c Q X 9 [] (M') (lf') (cells + 122) (slots + 871) 1183 [(4, .int (nI i)), (3, .ref (X.2.1 6 0 0)), (2, .ref (X.2.1 2 0 0)), (1, .ref (X.2.1 5 0 0)), (0, .ref b)] []) : V p l e room_1 s m #[Value.ref b] below meth c Q X 9 [] (M) (lf) (cells) (slots) 124 [(4, .int (nI i)), (3, .ref (X.2.1 6 0 0)), (2, .ref (X.2.1 2 0 0)), (1, .ref (X.2.1 5 0 0)), (0, .ref b)] [] := by
  have hS : Shp (M 0) jc tc ln := I.1.1.1
  have hj4 := hS.1
  have ht12 := hS.2.1
  by_cases g1 : xs (i + 1) < 1 ∨ 9 < xs (i + 1)
  · exact w_come_a F hX hbl hbase hi hL hc hs I hbk hkk g1 K
  obtain ⟨n, h1n, h2n, e1⟩ := rng (a := 1) (b := 9) (by decide) (by decide) g1
  by_cases hj : jc < 4
  · exact w_come F hX hbl hbase hi hL hc hs I hbk hkk hj h1n h2n e1 K
  exact w_come_s F hX hbl hbase hi hL hc hs I hbk hkk (by omega) h1n h2n e1 K
set_option maxHeartbeats 4000000 in
set_option maxRecDepth 100000 in
theorem W_setPattern (F : Fx p l s m #[Value.ref b] meth c cL_law 9 RL X) (hX : va_X b L xs s s.heap) (hbl : b < s.heap.size) (hbase : X.2.2.2 = s.heap.size) {i kk jc tc bt : Nat} {ln : Nat → Nat} (hi : i + 3 < L) (hL : L ≤ 2048) (hc : cells + 122 ≤ 601024) (hs : slots + 871 ≤ 7293034) (I : Inv (M 0) (M 2) (M 3) jc tc bt ln) (hbk : bt ≤ 200 * kk) (hkk : kk ≤ 512) (K : ∀ (M' : Mem) (lf' : Lf), LInv M' (kk + 1) → V p l e room_1 s m #[Value.ref b] below meth c Q X 9 [] (M') (lf') (cells + 122) (slots + 871) 1183 [(4, .int (nI i)), (3, .ref (X.2.1 6 0 0)), (2, .ref (X.2.1 2 0 0)), (1, .ref (X.2.1 5 0 0)), (0, .ref b)] []) : V p l e room_1 s m #[Value.ref b] below meth c Q X 9 [] (M) (lf) (cells) (slots) 180 [(4, .int (nI i)), (3, .ref (X.2.1 6 0 0)), (2, .ref (X.2.1 2 0 0)), (1, .ref (X.2.1 5 0 0)), (0, .ref b)] [] := by
  have hS : Shp (M 0) jc tc ln := I.1.1.1
  have hj4 := hS.1
  have ht12 := hS.2.1
  by_cases g1 : xs (i + 1) < 0 ∨ nI jc ≤ xs (i + 1)
  · exact w_setPattern_j F hX hbl hbase hi hL hc hs I hbk hkk g1 K
  obtain ⟨j, hj, e1⟩ := ixn (by omega) g1
  by_cases g2 : xs (i + 2) < 1 ∨ 8 < xs (i + 2)
  · exact w_setPattern_n F hX hbl hbase hi hL hc hs I hbk hkk hj e1 g2 K
  obtain ⟨n, h1n, h2n, e2⟩ := rng (a := 1) (b := 8) (by decide) (by decide) g2
  by_cases g3 : xs (i + 3) < 0 ∨ nI (10 ^ n) ≤ xs (i + 3)
  · exact w_setPattern_d F hX hbl hbase hi hL hc hs I hbk hkk hj h1n h2n e1 e2 g3 K
  obtain ⟨d, hd, e3⟩ := ixn (p10_lt h2n) g3
  exact w_setPattern F hX hbl hbase hi hL hc hs I hbk hkk hj h1n h2n hd e1 e2 e3 K
set_option maxHeartbeats 4000000 in
set_option maxRecDepth 100000 in
theorem W_pass (F : Fx p l s m #[Value.ref b] meth c cL_law 9 RL X) (hX : va_X b L xs s s.heap) (hbl : b < s.heap.size) (hbase : X.2.2.2 = s.heap.size) {i kk jc tc bt : Nat} {ln : Nat → Nat} (hi : i + 3 < L) (hL : L ≤ 2048) (hc : cells + 122 ≤ 601024) (hs : slots + 871 ≤ 7293034) (I : Inv (M 0) (M 2) (M 3) jc tc bt ln) (hbk : bt ≤ 200 * kk) (hkk : kk ≤ 512) (K : ∀ (M' : Mem) (lf' : Lf), LInv M' (kk + 1) → V p l e room_1 s m #[Value.ref b] below meth c Q X 9 [] (M') (lf') (cells + 122) (slots + 871) 1183 [(4, .int (nI i)), (3, .ref (X.2.1 6 0 0)), (2, .ref (X.2.1 2 0 0)), (1, .ref (X.2.1 5 0 0)), (0, .ref b)] []) : V p l e room_1 s m #[Value.ref b] below meth c Q X 9 [] (M) (lf) (cells) (slots) 260 [(4, .int (nI i)), (3, .ref (X.2.1 6 0 0)), (2, .ref (X.2.1 2 0 0)), (1, .ref (X.2.1 5 0 0)), (0, .ref b)] [] := by
  have hS : Shp (M 0) jc tc ln := I.1.1.1
  have hj4 := hS.1
  have ht12 := hS.2.1
  by_cases g1 : xs (i + 1) < 0 ∨ nI jc ≤ xs (i + 1)
  · exact w_pass_j F hX hbl hbase hi hL hc hs I hbk hkk g1 K
  obtain ⟨j, hj, e1⟩ := ixn (by omega) g1
  by_cases g2 : xs (i + 2) < 0 ∨ nI (ln j) ≤ xs (i + 2)
  · exact w_pass_p F hX hbl hbase hi hL hc hs I hbk hkk hj e1 g2 K
  obtain ⟨z, hz, e2⟩ := ixn (by have := (hS.2.2.2.2 j hj).2.1; omega) g2
  by_cases g3 : xs (i + 3) < 0 ∨ nI jc ≤ xs (i + 3)
  · exact w_pass_t F hX hbl hbase hi hL hc hs I hbk hkk hj hz e1 e2 g3 K
  obtain ⟨t, ht, e3⟩ := ixn (by omega) g3
  exact w_pass F hX hbl hbase hi hL hc hs I hbk hkk hj hz ht e1 e2 e3 K
set_option maxHeartbeats 4000000 in
set_option maxRecDepth 100000 in
theorem W_written (F : Fx p l s m #[Value.ref b] meth c cL_law 9 RL X) (hX : va_X b L xs s s.heap) (hbl : b < s.heap.size) (hbase : X.2.2.2 = s.heap.size) {i kk jc tc bt : Nat} {ln : Nat → Nat} (hi : i + 3 < L) (hL : L ≤ 2048) (hc : cells + 122 ≤ 601024) (hs : slots + 871 ≤ 7293034) (I : Inv (M 0) (M 2) (M 3) jc tc bt ln) (hbk : bt ≤ 200 * kk) (hkk : kk ≤ 512) (K : ∀ (M' : Mem) (lf' : Lf), LInv M' (kk + 1) → V p l e room_1 s m #[Value.ref b] below meth c Q X 9 [] (M') (lf') (cells + 122) (slots + 871) 1183 [(4, .int (nI i)), (3, .ref (X.2.1 6 0 0)), (2, .ref (X.2.1 2 0 0)), (1, .ref (X.2.1 5 0 0)), (0, .ref b)] []) : V p l e room_1 s m #[Value.ref b] below meth c Q X 9 [] (M) (lf) (cells) (slots) 340 [(4, .int (nI i)), (3, .ref (X.2.1 6 0 0)), (2, .ref (X.2.1 2 0 0)), (1, .ref (X.2.1 5 0 0)), (0, .ref b)] [] := by
  have hS : Shp (M 0) jc tc ln := I.1.1.1
  have hj4 := hS.1
  have ht12 := hS.2.1
  by_cases g1 : xs (i + 1) < 0 ∨ nI jc ≤ xs (i + 1)
  · exact w_written_j F hX hbl hbase hi hL hc hs I hbk hkk g1 K
  obtain ⟨j, hj, e1⟩ := ixn (by omega) g1
  by_cases g2 : xs (i + 2) < 0 ∨ nI (ln j) ≤ xs (i + 2)
  · exact w_written_p F hX hbl hbase hi hL hc hs I hbk hkk hj e1 g2 K
  obtain ⟨z, hz, e2⟩ := ixn (by have := (hS.2.2.2.2 j hj).2.1; omega) g2
  by_cases g3 : xs (i + 3) < 0 ∨ nI 2 ≤ xs (i + 3)
  · exact w_written_w F hX hbl hbase hi hL hc hs I hbk hkk hj hz e1 e2 g3 K
  obtain ⟨w, hw, e3⟩ := ixn (by omega) g3
  rcases (show w = 0 ∨ w = 1 by omega) with rfl | rfl
  · exact w_written_0 F hX hbl hbase hi hL hc hs I hbk hkk hj hz e1 e2 e3 K
  · exact w_written_1 F hX hbl hbase hi hL hc hs I hbk hkk hj hz e1 e2 e3 K
set_option maxHeartbeats 4000000 in
set_option maxRecDepth 100000 in
theorem W_make (F : Fx p l s m #[Value.ref b] meth c cL_law 9 RL X) (hX : va_X b L xs s s.heap) (hbl : b < s.heap.size) (hbase : X.2.2.2 = s.heap.size) {i kk jc tc bt : Nat} {ln : Nat → Nat} (hi : i + 3 < L) (hL : L ≤ 2048) (hc : cells + 122 ≤ 601024) (hs : slots + 871 ≤ 7293034) (I : Inv (M 0) (M 2) (M 3) jc tc bt ln) (hbk : bt ≤ 200 * kk) (hkk : kk ≤ 512) (K : ∀ (M' : Mem) (lf' : Lf), LInv M' (kk + 1) → V p l e room_1 s m #[Value.ref b] below meth c Q X 9 [] (M') (lf') (cells + 122) (slots + 871) 1183 [(4, .int (nI i)), (3, .ref (X.2.1 6 0 0)), (2, .ref (X.2.1 2 0 0)), (1, .ref (X.2.1 5 0 0)), (0, .ref b)] []) : V p l e room_1 s m #[Value.ref b] below meth c Q X 9 [] (M) (lf) (cells) (slots) 420 [(4, .int (nI i)), (3, .ref (X.2.1 6 0 0)), (2, .ref (X.2.1 2 0 0)), (1, .ref (X.2.1 5 0 0)), (0, .ref b)] [] := by
  have hS : Shp (M 0) jc tc ln := I.1.1.1
  have hj4 := hS.1
  have ht12 := hS.2.1
  by_cases g1 : xs (i + 1) < 0 ∨ nI 3 ≤ xs (i + 1)
  · exact w_make_a F hX hbl hbase hi hL hc hs I hbk hkk g1 K
  obtain ⟨n, hn, e1⟩ := ixn (by omega) g1
  by_cases hk : tc < 12
  · exact w_make F hX hbl hbase hi hL hc hs I hbk hkk hk hn e1 K
  exact w_make_s F hX hbl hbase hi hL hc hs I hbk hkk (by omega) hn e1 K
set_option maxHeartbeats 4000000 in
set_option maxRecDepth 100000 in
theorem W_give (F : Fx p l s m #[Value.ref b] meth c cL_law 9 RL X) (hX : va_X b L xs s s.heap) (hbl : b < s.heap.size) (hbase : X.2.2.2 = s.heap.size) {i kk jc tc bt : Nat} {ln : Nat → Nat} (hi : i + 3 < L) (hL : L ≤ 2048) (hc : cells + 122 ≤ 601024) (hs : slots + 871 ≤ 7293034) (I : Inv (M 0) (M 2) (M 3) jc tc bt ln) (hbk : bt ≤ 200 * kk) (hkk : kk ≤ 512) (K : ∀ (M' : Mem) (lf' : Lf), LInv M' (kk + 1) → V p l e room_1 s m #[Value.ref b] below meth c Q X 9 [] (M') (lf') (cells + 122) (slots + 871) 1183 [(4, .int (nI i)), (3, .ref (X.2.1 6 0 0)), (2, .ref (X.2.1 2 0 0)), (1, .ref (X.2.1 5 0 0)), (0, .ref b)] []) : V p l e room_1 s m #[Value.ref b] below meth c Q X 9 [] (M) (lf) (cells) (slots) 476 [(4, .int (nI i)), (3, .ref (X.2.1 6 0 0)), (2, .ref (X.2.1 2 0 0)), (1, .ref (X.2.1 5 0 0)), (0, .ref b)] [] := by
  have hS : Shp (M 0) jc tc ln := I.1.1.1
  have hj4 := hS.1
  have ht12 := hS.2.1
  by_cases g1 : xs (i + 1) < 0 ∨ nI tc ≤ xs (i + 1)
  · exact w_give_k F hX hbl hbase hi hL hc hs I hbk hkk g1 K
  obtain ⟨k, hk, e1⟩ := ixn (by omega) g1
  by_cases g2 : xs (i + 2) < 0 ∨ nI jc ≤ xs (i + 2)
  · exact w_give_j F hX hbl hbase hi hL hc hs I hbk hkk hk e1 g2 K
  obtain ⟨j, hj, e2⟩ := ixn (by omega) g2
  by_cases g3 : xs (i + 3) < 0 ∨ nI 2 ≤ xs (i + 3)
  · exact w_give_h F hX hbl hbase hi hL hc hs I hbk hkk hk hj e1 e2 g3 K
  obtain ⟨hd, hhd, e3⟩ := ixn (by omega) g3
  by_cases hst : M 0 8 k 1 = 0
  · by_cases hfr : M 0 6 j hd = -1
    · exact w_give F hX hbl hbase hi hL hc hs I hbk hkk hk hj hhd e1 e2 e3 hst hfr K
    · exact w_give_o F hX hbl hbase hi hL hc hs I hbk hkk hk hj hhd e1 e2 e3 hst hfr K
  · exact w_give_s F hX hbl hbase hi hL hc hs I hbk hkk hk hj hhd e1 e2 e3 hst K
set_option maxHeartbeats 4000000 in
set_option maxRecDepth 100000 in
theorem W_thing (F : Fx p l s m #[Value.ref b] meth c cL_law 9 RL X) (hX : va_X b L xs s s.heap) (hbl : b < s.heap.size) (hbase : X.2.2.2 = s.heap.size) {i kk jc tc bt : Nat} {ln : Nat → Nat} (hi : i + 3 < L) (hL : L ≤ 2048) (hc : cells + 122 ≤ 601024) (hs : slots + 871 ≤ 7293034) (I : Inv (M 0) (M 2) (M 3) jc tc bt ln) (hbk : bt ≤ 200 * kk) (hkk : kk ≤ 512) (K : ∀ (M' : Mem) (lf' : Lf), LInv M' (kk + 1) → V p l e room_1 s m #[Value.ref b] below meth c Q X 9 [] (M') (lf') (cells + 122) (slots + 871) 1183 [(4, .int (nI i)), (3, .ref (X.2.1 6 0 0)), (2, .ref (X.2.1 2 0 0)), (1, .ref (X.2.1 5 0 0)), (0, .ref b)] []) : V p l e room_1 s m #[Value.ref b] below meth c Q X 9 [] (M) (lf) (cells) (slots) 556 [(4, .int (nI i)), (3, .ref (X.2.1 6 0 0)), (2, .ref (X.2.1 2 0 0)), (1, .ref (X.2.1 5 0 0)), (0, .ref b)] [] := by
  have hS : Shp (M 0) jc tc ln := I.1.1.1
  have hj4 := hS.1
  have ht12 := hS.2.1
  by_cases g1 : xs (i + 1) < 0 ∨ nI tc ≤ xs (i + 1)
  · exact w_thing_k F hX hbl hbase hi hL hc hs I hbk hkk g1 K
  obtain ⟨k, hk, e1⟩ := ixn (by omega) g1
  by_cases g2 : xs (i + 2) < 0 ∨ nI 7 ≤ xs (i + 2)
  · exact w_thing_w F hX hbl hbase hi hL hc hs I hbk hkk hk e1 g2 K
  obtain ⟨w, hw, e2⟩ := ixn (by omega) g2
  exact w_thing F hX hbl hbase hi hL hc hs I hbk hkk hk hw e1 e2 K
set_option maxHeartbeats 4000000 in
set_option maxRecDepth 100000 in
theorem W_juggler (F : Fx p l s m #[Value.ref b] meth c cL_law 9 RL X) (hX : va_X b L xs s s.heap) (hbl : b < s.heap.size) (hbase : X.2.2.2 = s.heap.size) {i kk jc tc bt : Nat} {ln : Nat → Nat} (hi : i + 3 < L) (hL : L ≤ 2048) (hc : cells + 122 ≤ 601024) (hs : slots + 871 ≤ 7293034) (I : Inv (M 0) (M 2) (M 3) jc tc bt ln) (hbk : bt ≤ 200 * kk) (hkk : kk ≤ 512) (K : ∀ (M' : Mem) (lf' : Lf), LInv M' (kk + 1) → V p l e room_1 s m #[Value.ref b] below meth c Q X 9 [] (M') (lf') (cells + 122) (slots + 871) 1183 [(4, .int (nI i)), (3, .ref (X.2.1 6 0 0)), (2, .ref (X.2.1 2 0 0)), (1, .ref (X.2.1 5 0 0)), (0, .ref b)] []) : V p l e room_1 s m #[Value.ref b] below meth c Q X 9 [] (M) (lf) (cells) (slots) 624 [(4, .int (nI i)), (3, .ref (X.2.1 6 0 0)), (2, .ref (X.2.1 2 0 0)), (1, .ref (X.2.1 5 0 0)), (0, .ref b)] [] := by
  have hS : Shp (M 0) jc tc ln := I.1.1.1
  have hj4 := hS.1
  have ht12 := hS.2.1
  by_cases g1 : xs (i + 1) < 0 ∨ nI jc ≤ xs (i + 1)
  · exact w_juggler_j F hX hbl hbase hi hL hc hs I hbk hkk g1 K
  obtain ⟨j, hj, e1⟩ := ixn (by omega) g1
  by_cases g2 : xs (i + 2) < 0 ∨ nI 7 ≤ xs (i + 2)
  · exact w_juggler_w F hX hbl hbase hi hL hc hs I hbk hkk hj e1 g2 K
  obtain ⟨w, hw, e2⟩ := ixn (by omega) g2
  exact w_juggler F hX hbl hbase hi hL hc hs I hbk hkk hj hw e1 e2 K
set_option maxHeartbeats 4000000 in
set_option maxRecDepth 100000 in
theorem W_lasts (F : Fx p l s m #[Value.ref b] meth c cL_law 9 RL X) (hX : va_X b L xs s s.heap) (hbl : b < s.heap.size) (hbase : X.2.2.2 = s.heap.size) {i kk jc tc bt : Nat} {ln : Nat → Nat} (hi : i + 3 < L) (hL : L ≤ 2048) (hc : cells + 122 ≤ 601024) (hs : slots + 871 ≤ 7293034) (I : Inv (M 0) (M 2) (M 3) jc tc bt ln) (hbk : bt ≤ 200 * kk) (hkk : kk ≤ 512) (K : ∀ (M' : Mem) (lf' : Lf), LInv M' (kk + 1) → V p l e room_1 s m #[Value.ref b] below meth c Q X 9 [] (M') (lf') (cells + 122) (slots + 871) 1183 [(4, .int (nI i)), (3, .ref (X.2.1 6 0 0)), (2, .ref (X.2.1 2 0 0)), (1, .ref (X.2.1 5 0 0)), (0, .ref b)] []) : V p l e room_1 s m #[Value.ref b] below meth c Q X 9 [] (M) (lf) (cells) (slots) 692 [(4, .int (nI i)), (3, .ref (X.2.1 6 0 0)), (2, .ref (X.2.1 2 0 0)), (1, .ref (X.2.1 5 0 0)), (0, .ref b)] [] := by
  have hS : Shp (M 0) jc tc ln := I.1.1.1
  have hj4 := hS.1
  have ht12 := hS.2.1
  by_cases g1 : xs (i + 1) < 0 ∨ nI jc ≤ xs (i + 1)
  · exact w_lasts_j F hX hbl hbase hi hL hc hs I hbk hkk g1 K
  obtain ⟨j, hj, e1⟩ := ixn (by omega) g1
  exact w_lasts F hX hbl hbase hi hL hc hs I hbk hkk hj e1 K
set_option maxHeartbeats 4000000 in
set_option maxRecDepth 100000 in
theorem W_asks (F : Fx p l s m #[Value.ref b] meth c cL_law 9 RL X) (hX : va_X b L xs s s.heap) (hbl : b < s.heap.size) (hbase : X.2.2.2 = s.heap.size) {i kk jc tc bt : Nat} {ln : Nat → Nat} (hi : i + 3 < L) (hL : L ≤ 2048) (hc : cells + 122 ≤ 601024) (hs : slots + 871 ≤ 7293034) (I : Inv (M 0) (M 2) (M 3) jc tc bt ln) (hbk : bt ≤ 200 * kk) (hkk : kk ≤ 512) (K : ∀ (M' : Mem) (lf' : Lf), LInv M' (kk + 1) → V p l e room_1 s m #[Value.ref b] below meth c Q X 9 [] (M') (lf') (cells + 122) (slots + 871) 1183 [(4, .int (nI i)), (3, .ref (X.2.1 6 0 0)), (2, .ref (X.2.1 2 0 0)), (1, .ref (X.2.1 5 0 0)), (0, .ref b)] []) : V p l e room_1 s m #[Value.ref b] below meth c Q X 9 [] (M) (lf) (cells) (slots) 755 [(4, .int (nI i)), (3, .ref (X.2.1 6 0 0)), (2, .ref (X.2.1 2 0 0)), (1, .ref (X.2.1 5 0 0)), (0, .ref b)] [] := by
  have hS : Shp (M 0) jc tc ln := I.1.1.1
  have hj4 := hS.1
  have ht12 := hS.2.1
  by_cases g1 : xs (i + 1) < 0 ∨ nI jc ≤ xs (i + 1)
  · exact w_asks_j F hX hbl hbase hi hL hc hs I hbk hkk g1 K
  obtain ⟨j, hj, e1⟩ := ixn (by omega) g1
  exact w_asks F hX hbl hbase hi hL hc hs I hbk hkk hj e1 K
set_option maxHeartbeats 4000000 in
set_option maxRecDepth 100000 in
theorem W_shortest (F : Fx p l s m #[Value.ref b] meth c cL_law 9 RL X) (hX : va_X b L xs s s.heap) (hbl : b < s.heap.size) (hbase : X.2.2.2 = s.heap.size) {i kk jc tc bt : Nat} {ln : Nat → Nat} (hi : i + 3 < L) (hL : L ≤ 2048) (hc : cells + 122 ≤ 601024) (hs : slots + 871 ≤ 7293034) (I : Inv (M 0) (M 2) (M 3) jc tc bt ln) (hbk : bt ≤ 200 * kk) (hkk : kk ≤ 512) (K : ∀ (M' : Mem) (lf' : Lf), LInv M' (kk + 1) → V p l e room_1 s m #[Value.ref b] below meth c Q X 9 [] (M') (lf') (cells + 122) (slots + 871) 1183 [(4, .int (nI i)), (3, .ref (X.2.1 6 0 0)), (2, .ref (X.2.1 2 0 0)), (1, .ref (X.2.1 5 0 0)), (0, .ref b)] []) : V p l e room_1 s m #[Value.ref b] below meth c Q X 9 [] (M) (lf) (cells) (slots) 811 [(4, .int (nI i)), (3, .ref (X.2.1 6 0 0)), (2, .ref (X.2.1 2 0 0)), (1, .ref (X.2.1 5 0 0)), (0, .ref b)] [] := by
  have hS : Shp (M 0) jc tc ln := I.1.1.1
  have hj4 := hS.1
  have ht12 := hS.2.1
  by_cases g1 : xs (i + 1) < 0 ∨ nI jc ≤ xs (i + 1)
  · exact w_shortest_j F hX hbl hbase hi hL hc hs I hbk hkk g1 K
  obtain ⟨j, hj, e1⟩ := ixn (by omega) g1
  exact w_shortest F hX hbl hbase hi hL hc hs I hbk hkk hj e1 K
set_option maxHeartbeats 4000000 in
set_option maxRecDepth 100000 in
theorem W_go (F : Fx p l s m #[Value.ref b] meth c cL_law 9 RL X) (hX : va_X b L xs s s.heap) (hbl : b < s.heap.size) (hbase : X.2.2.2 = s.heap.size) {i kk jc tc bt : Nat} {ln : Nat → Nat} (hi : i + 3 < L) (hL : L ≤ 2048) (hc : cells + 122 ≤ 601024) (hs : slots + 871 ≤ 7293034) (I : Inv (M 0) (M 2) (M 3) jc tc bt ln) (hbk : bt ≤ 200 * kk) (hkk : kk ≤ 512) (K : ∀ (M' : Mem) (lf' : Lf), LInv M' (kk + 1) → V p l e room_1 s m #[Value.ref b] below meth c Q X 9 [] (M') (lf') (cells + 122) (slots + 871) 1183 [(4, .int (nI i)), (3, .ref (X.2.1 6 0 0)), (2, .ref (X.2.1 2 0 0)), (1, .ref (X.2.1 5 0 0)), (0, .ref b)] []) : V p l e room_1 s m #[Value.ref b] below meth c Q X 9 [] (M) (lf) (cells) (slots) 867 [(4, .int (nI i)), (3, .ref (X.2.1 6 0 0)), (2, .ref (X.2.1 2 0 0)), (1, .ref (X.2.1 5 0 0)), (0, .ref b)] [] := by
  have hS : Shp (M 0) jc tc ln := I.1.1.1
  have hj4 := hS.1
  have ht12 := hS.2.1
  by_cases g1 : xs (i + 1) < 1 ∨ nI 200 < xs (i + 1)
  · exact w_go_b F hX hbl hbase hi hL hc hs I hbk hkk g1 K
  obtain ⟨n, h1n, h2n, e1⟩ := rng (a := 1) (b := 200) (by decide) (by decide) g1
  exact w_go F hX hbl hbase hi hL hc hs I hbk hkk h1n h2n e1 K
set_option maxHeartbeats 4000000 in
set_option maxRecDepth 100000 in
theorem W_count (F : Fx p l s m #[Value.ref b] meth c cL_law 9 RL X) (hX : va_X b L xs s s.heap) (hbl : b < s.heap.size) (hbase : X.2.2.2 = s.heap.size) {i kk jc tc bt : Nat} {ln : Nat → Nat} (hi : i + 3 < L) (hL : L ≤ 2048) (hc : cells + 122 ≤ 601024) (hs : slots + 871 ≤ 7293034) (I : Inv (M 0) (M 2) (M 3) jc tc bt ln) (hbk : bt ≤ 200 * kk) (hkk : kk ≤ 512) (K : ∀ (M' : Mem) (lf' : Lf), LInv M' (kk + 1) → V p l e room_1 s m #[Value.ref b] below meth c Q X 9 [] (M') (lf') (cells + 122) (slots + 871) 1183 [(4, .int (nI i)), (3, .ref (X.2.1 6 0 0)), (2, .ref (X.2.1 2 0 0)), (1, .ref (X.2.1 5 0 0)), (0, .ref b)] []) : V p l e room_1 s m #[Value.ref b] below meth c Q X 9 [] (M) (lf) (cells) (slots) 923 [(4, .int (nI i)), (3, .ref (X.2.1 6 0 0)), (2, .ref (X.2.1 2 0 0)), (1, .ref (X.2.1 5 0 0)), (0, .ref b)] [] := by
  have hS : Shp (M 0) jc tc ln := I.1.1.1
  have hj4 := hS.1
  have ht12 := hS.2.1
  by_cases g1 : xs (i + 1) < 0 ∨ nI 9 ≤ xs (i + 1)
  · exact w_count_w F hX hbl hbase hi hL hc hs I hbk hkk g1 K
  obtain ⟨w, hw, e1⟩ := ixn (by omega) g1
  exact w_count F hX hbl hbase hi hL hc hs I hbk hkk hw e1 K
set_option maxHeartbeats 4000000 in
set_option maxRecDepth 100000 in
theorem W_foresee (F : Fx p l s m #[Value.ref b] meth c cL_law 9 RL X) (hX : va_X b L xs s s.heap) (hbl : b < s.heap.size) (hbase : X.2.2.2 = s.heap.size) {i kk jc tc bt : Nat} {ln : Nat → Nat} (hi : i + 3 < L) (hL : L ≤ 2048) (hc : cells + 122 ≤ 601024) (hs : slots + 871 ≤ 7293034) (I : Inv (M 0) (M 2) (M 3) jc tc bt ln) (hbk : bt ≤ 200 * kk) (hkk : kk ≤ 512) (K : ∀ (M' : Mem) (lf' : Lf), LInv M' (kk + 1) → V p l e room_1 s m #[Value.ref b] below meth c Q X 9 [] (M') (lf') (cells + 122) (slots + 871) 1183 [(4, .int (nI i)), (3, .ref (X.2.1 6 0 0)), (2, .ref (X.2.1 2 0 0)), (1, .ref (X.2.1 5 0 0)), (0, .ref b)] []) : V p l e room_1 s m #[Value.ref b] below meth c Q X 9 [] (M) (lf) (cells) (slots) 992 [(4, .int (nI i)), (3, .ref (X.2.1 6 0 0)), (2, .ref (X.2.1 2 0 0)), (1, .ref (X.2.1 5 0 0)), (0, .ref b)] [] := by
  have hS : Shp (M 0) jc tc ln := I.1.1.1
  have hj4 := hS.1
  have ht12 := hS.2.1
  by_cases g1 : xs (i + 1) < 1 ∨ nI 200 < xs (i + 1)
  · exact w_foresee_b F hX hbl hbase hi hL hc hs I hbk hkk g1 K
  obtain ⟨n, h1n, h2n, e1⟩ := rng (a := 1) (b := 200) (by decide) (by decide) g1
  by_cases g2 : xs (i + 2) < 0 ∨ nI 3 ≤ xs (i + 2)
  · exact w_foresee_w F hX hbl hbase hi hL hc hs I hbk hkk h1n h2n e1 g2 K
  obtain ⟨w, hw, e2⟩ := ixn (by omega) g2
  rcases (show w = 0 ∨ w = 1 ∨ w = 2 by omega) with rfl | rfl | rfl
  · exact w_foresee_0 F hX hbl hbase hi hL hc hs I hbk hkk h1n h2n e1 e2 K
  · exact w_foresee_1 F hX hbl hbase hi hL hc hs I hbk hkk h1n h2n e1 e2 K
  · exact w_foresee_2 F hX hbl hbase hi hL hc hs I hbk hkk h1n h2n e1 e2 K
set_option maxHeartbeats 4000000 in
set_option maxRecDepth 100000 in
theorem W_advise (F : Fx p l s m #[Value.ref b] meth c cL_law 9 RL X) (hX : va_X b L xs s s.heap) (hbl : b < s.heap.size) (hbase : X.2.2.2 = s.heap.size) {i kk jc tc bt : Nat} {ln : Nat → Nat} (hi : i + 3 < L) (hL : L ≤ 2048) (hc : cells + 122 ≤ 601024) (hs : slots + 871 ≤ 7293034) (I : Inv (M 0) (M 2) (M 3) jc tc bt ln) (hbk : bt ≤ 200 * kk) (hkk : kk ≤ 512) (K : ∀ (M' : Mem) (lf' : Lf), LInv M' (kk + 1) → V p l e room_1 s m #[Value.ref b] below meth c Q X 9 [] (M') (lf') (cells + 122) (slots + 871) 1183 [(4, .int (nI i)), (3, .ref (X.2.1 6 0 0)), (2, .ref (X.2.1 2 0 0)), (1, .ref (X.2.1 5 0 0)), (0, .ref b)] []) : V p l e room_1 s m #[Value.ref b] below meth c Q X 9 [] (M) (lf) (cells) (slots) 1060 [(4, .int (nI i)), (3, .ref (X.2.1 6 0 0)), (2, .ref (X.2.1 2 0 0)), (1, .ref (X.2.1 5 0 0)), (0, .ref b)] [] := by
  have hS : Shp (M 0) jc tc ln := I.1.1.1
  have hj4 := hS.1
  have ht12 := hS.2.1
  by_cases g1 : xs (i + 1) < 0 ∨ nI jc ≤ xs (i + 1)
  · exact w_advise_j F hX hbl hbase hi hL hc hs I hbk hkk g1 K
  obtain ⟨j, hj, e1⟩ := ixn (by omega) g1
  by_cases g2 : xs (i + 2) < 1 ∨ nI 60 < xs (i + 2)
  · exact w_advise_b F hX hbl hbase hi hL hc hs I hbk hkk hj e1 g2 K
  obtain ⟨n, h1n, h2n, e2⟩ := rng (a := 1) (b := 60) (by decide) (by decide) g2
  exact w_advise F hX hbl hbase hi hL hc hs I hbk hkk hj h1n h2n e1 e2 K
set_option maxHeartbeats 4000000 in
set_option maxRecDepth 100000 in
theorem law_end (F : Fx p l s m #[Value.ref b] meth c cL_law 9 RL X) (hbase : X.2.2.2 = s.heap.size) (hr : meth.sig.returnType = ret) (h1 : cells ≤ 601024) (h2 : slots ≤ 7293034) {lv : List (Nat × Value)} : V p l e room_1 s m #[Value.ref b] below meth c (lw_Z below #[Value.ref b] s) X 9 [] M lf cells slots 1189 lv [] := by
  refine v_iconst F (v := 1) dL_law_1189 (by decide) ?_
  refine v_widen (k := 601024) (n := 7293034) h1 h2 ?_
  intro H locs ls hP hE hS hl
  refine va_forget (fun q hq => ?_) ?_
  · rw [← hbase]
    exact xA_B F.2.2.1 (Nat.le_of_eq hbase) q.base (hS.2.2 q hq)
  · refine W.base ?_
    exact lw_ret (Drawn.sameBut.refl s.drawn lw_cs) F.1.1 F.1.2.1 hr F.2.2.2.1 dL_law_1190
set_option maxHeartbeats 4000000 in
set_option maxRecDepth 100000 in
theorem law_next (F : Fx p l s m #[Value.ref b] meth c cL_law 9 RL X) (k : Nat) (K : V p l e room_1 s m #[Value.ref b] below meth c Q X 9 [] (M) (lf) (98 + 122 * (k + 1)) (737 + 871 * (k + 1)) 23 [(4, .int (nI (4 * (k + 1)))), (3, .ref (X.2.1 6 0 0)), (2, .ref (X.2.1 2 0 0)), (1, .ref (X.2.1 5 0 0)), (0, .ref b)] []) : V p l e room_1 s m #[Value.ref b] below meth c Q X 9 [] (M) (lf) (98 + 122 * k + 122) (737 + 871 * k + 871) 1183 [(4, .int (nI (4 * k))), (3, .ref (X.2.1 6 0 0)), (2, .ref (X.2.1 2 0 0)), (1, .ref (X.2.1 5 0 0)), (0, .ref b)] [] := by
  refine v_iinc F (k := 0) (nI (4 * (k + 1))) dL_law_1183 rfl (nI_add (4 * k) 4) (by decide) (lv' := [(4, .int _), (3, .ref _), (2, .ref _), (1, .ref _), (0, .ref _)]) rfl ?_
  refine v_goto F (tgt := 23) dL_law_1186 (by decide) ?_
  refine v_widen (k := 98 + 122 * (k + 1)) (n := 737 + 871 * (k + 1)) (by omega) (by omega) ?_
  exact K
set_option maxHeartbeats 4000000 in
set_option maxRecDepth 100000 in
theorem law_loop (F : Fx p l s m #[Value.ref b] meth c cL_law 9 RL X) (hX : va_X b L xs s s.heap) (hbl : b < s.heap.size) (hbase : X.2.2.2 = s.heap.size) (hL : L ≤ 2048) (hr : meth.sig.returnType = ret) : ∀ (f k : Nat) (M : Mem) (lf : Lf), LInv M k → k + f = 512 → V p l e room_1 s m #[Value.ref b] below meth c (lw_Z below #[Value.ref b] s) X 9 [] M lf (98 + 122 * k) (737 + 871 * k) 23 [(4, .int (nI (4 * k))), (3, .ref (X.2.1 6 0 0)), (2, .ref (X.2.1 2 0 0)), (1, .ref (X.2.1 5 0 0)), (0, .ref b)] [] := by
  intro f
  induction f with
  | zero =>
    intro k M lf hI hk
    refine v_iload F dL_law_23 0 rfl ?_
    refine v_aload_n F dL_law_25 rfl 4 rfl ?_
    refine v_slen F hX hbl hbase dL_law_26 ?_
    refine v_iconst F (v := nI 4) dL_law_27 (by decide) ?_
    refine v_isub F dL_law_28 ?_
    refine v_icmp_gt F (tgt := 1189) dL_law_29 (by decide) (fun h => ?_) (fun h => ?_)
    · exact law_end F hbase hr (by omega) (by omega)
    · exfalso
      by_cases h4 : L < 4
      · exact h (Int32.lt_of_lt_of_le (pk_sneg (by decide) h4) (nI_pos' (by omega)))
      · rw [pk_sub (by omega)] at h
        have := (nI_leI (by omega) (by omega)).mp (le_of_nlt h)
        omega
  | succ f ih =>
    intro k M lf hI hk
    refine v_iload F dL_law_23 0 rfl ?_
    refine v_aload_n F dL_law_25 rfl 4 rfl ?_
    refine v_slen F hX hbl hbase dL_law_26 ?_
    refine v_iconst F (v := nI 4) dL_law_27 (by decide) ?_
    refine v_isub F dL_law_28 ?_
    refine v_icmp_gt F (tgt := 1189) dL_law_29 (by decide) (fun h => ?_) (fun h => ?_)
    · exact law_end F hbase hr (by omega) (by omega)
    have h4 : ¬ L < 4 := fun h4 => h (Int32.lt_of_lt_of_le (pk_sneg (by decide) h4) (nI_pos' (by omega)))
    rw [pk_sub (by omega)] at h
    have hk4 := (nI_leI (by omega) (by omega)).mp (le_of_nlt h)
    refine v_aload_n F dL_law_32 rfl 4 rfl ?_
    refine v_iload F dL_law_33 0 rfl ?_
    refine v_sld F hX hbl hbase (4 * k) (Ix_nI (by omega) (by omega)) dL_law_35 ?_
    refine v_bipush F (v := 31) dL_law_36 (by decide) ?_
    refine v_iand F dL_law_38 ?_
    obtain ⟨j, hj, ej⟩ := pk_andE (xs (4 * k)) (m := 31) 5 (by decide)
    refine v_topr (nI j) ej ?_
    have N : ∀ (M' : Mem) (lf' : Lf), LInv M' (k + 1) → V p l e room_1 s m #[Value.ref b] below meth c (lw_Z below #[Value.ref b] s) X 9 [] (M') (lf') (98 + 122 * k + 122) (737 + 871 * k + 871) 1183 [(4, .int (nI (4 * k))), (3, .ref (X.2.1 6 0 0)), (2, .ref (X.2.1 2 0 0)), (1, .ref (X.2.1 5 0 0)), (0, .ref b)] [] := fun M' lf' h' => law_next F k (ih (k + 1) M' lf' h' (by omega))
    have hkk : k ≤ 512 := by omega
    have hi : 4 * k + 3 < L := by omega
    have hc : 98 + 122 * k + 122 ≤ 601024 := by omega
    have hs : 737 + 871 * k + 871 ≤ 7293034 := by omega
    by_cases hj18 : 18 ≤ j
    · refine v_tableOut F (tgt := 1183) dL_law_39 (tw_out j hj hj18) (by decide) ?_
      refine v_widen (k := 98 + 122 * k + 122) (n := 737 + 871 * k + 871) (by omega) (by omega) ?_
      obtain ⟨jc, tc, bt, ln, I, hb⟩ := hI
      exact N M lf ⟨jc, tc, bt, ln, I, by omega⟩
    · obtain ⟨jc, tc, bt, ln, I, hbk⟩ := hI
      have hl : j = 0 ∨ j = 1 ∨ j = 2 ∨ j = 3 ∨ j = 4 ∨ j = 5 ∨ j = 6 ∨ j = 7 ∨ j = 8 ∨ j = 9 ∨ j = 10 ∨ j = 11 ∨ j = 12 ∨ j = 13 ∨ j = 14 ∨ j = 15 ∨ j = 16 ∨ j = 17 := by omega
      rcases hl with rfl | rfl | rfl | rfl | rfl | rfl | rfl | rfl | rfl | rfl | rfl | rfl | rfl | rfl | rfl | rfl | rfl | rfl
      · exact v_tableIn F (tgt := 124) dL_law_39 (by decide) (by decide) rfl (by decide) (W_come F hX hbl hbase hi hL hc hs I hbk hkk N)
      · exact v_tableIn F (tgt := 180) dL_law_39 (by decide) (by decide) rfl (by decide) (W_setPattern F hX hbl hbase hi hL hc hs I hbk hkk N)
      · exact v_tableIn F (tgt := 260) dL_law_39 (by decide) (by decide) rfl (by decide) (W_pass F hX hbl hbase hi hL hc hs I hbk hkk N)
      · exact v_tableIn F (tgt := 340) dL_law_39 (by decide) (by decide) rfl (by decide) (W_written F hX hbl hbase hi hL hc hs I hbk hkk N)
      · exact v_tableIn F (tgt := 420) dL_law_39 (by decide) (by decide) rfl (by decide) (W_make F hX hbl hbase hi hL hc hs I hbk hkk N)
      · exact v_tableIn F (tgt := 476) dL_law_39 (by decide) (by decide) rfl (by decide) (W_give F hX hbl hbase hi hL hc hs I hbk hkk N)
      · exact v_tableIn F (tgt := 556) dL_law_39 (by decide) (by decide) rfl (by decide) (W_thing F hX hbl hbase hi hL hc hs I hbk hkk N)
      · exact v_tableIn F (tgt := 624) dL_law_39 (by decide) (by decide) rfl (by decide) (W_juggler F hX hbl hbase hi hL hc hs I hbk hkk N)
      · exact v_tableIn F (tgt := 692) dL_law_39 (by decide) (by decide) rfl (by decide) (W_lasts F hX hbl hbase hi hL hc hs I hbk hkk N)
      · exact v_tableIn F (tgt := 755) dL_law_39 (by decide) (by decide) rfl (by decide) (W_asks F hX hbl hbase hi hL hc hs I hbk hkk N)
      · exact v_tableIn F (tgt := 811) dL_law_39 (by decide) (by decide) rfl (by decide) (W_shortest F hX hbl hbase hi hL hc hs I hbk hkk N)
      · exact v_tableIn F (tgt := 867) dL_law_39 (by decide) (by decide) rfl (by decide) (W_go F hX hbl hbase hi hL hc hs I hbk hkk N)
      · exact v_tableIn F (tgt := 923) dL_law_39 (by decide) (by decide) rfl (by decide) (W_count F hX hbl hbase hi hL hc hs I hbk hkk N)
      · exact v_tableIn F (tgt := 979) dL_law_39 (by decide) (by decide) rfl (by decide) (w_falls F hX hbl hbase hi hL hc hs I hbk hkk N)
      · exact v_tableIn F (tgt := 992) dL_law_39 (by decide) (by decide) rfl (by decide) (W_foresee F hX hbl hbase hi hL hc hs I hbk hkk N)
      · exact v_tableIn F (tgt := 1060) dL_law_39 (by decide) (by decide) rfl (by decide) (W_advise F hX hbl hbase hi hL hc hs I hbk hkk N)
      · exact v_tableIn F (tgt := 1128) dL_law_39 (by decide) (by decide) rfl (by decide) (w_mean F hX hbl hbase hi hL hc hs I hbk hkk N)
      · exact v_tableIn F (tgt := 1169) dL_law_39 (by decide) (by decide) rfl (by decide) (w_digest F hX hbl hbase hi hL hc hs I hbk hkk N)
end LAW2
