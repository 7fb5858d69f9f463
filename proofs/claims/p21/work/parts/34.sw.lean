/-! ===== the law: what is done to the ring ===== -/
section LSW
variable {p : Program} {l : Launch} {e : Env} {s : State} {m : MethodId} {below : List Frame} {meth : Method} {c : Code} {Q : State → Prop} {X : Cx} {M : Mem} {lf : Lf} {b L : Nat} {xs : Nat → Int32}
set_option maxHeartbeats 4000000 in
set_option maxRecDepth 100000 in
theorem sw_0 (F : Fx p l s m #[Value.ref b] meth c cL_law 28 RL X) (G : Gx X l) {C S t j jc tc bt : Nat} {x : Int32} {ln : Nat → Nat} (hC : C + 19 ≤ 787500) (hS0 : S + 92 ≤ 6738968) (hj : j < jc) (I : RI (M 0) jc tc bt ln) (K : ∀ (M : Mem) (jc tc : Nat) (ln : Nat → Nat), RI (M 0) jc tc bt ln → j < jc → V p l e room_1 s m #[Value.ref b] below meth c Q X 28 ([]) (M) lf (C + 12) (S + 72) 305 [(6, .int (nI j)), (3, .int x), (2, .int (nI t)), (1, .ref (X.2.1 5 0 0)), (0, .ref b)] [])  : V p l e room_1 s m #[Value.ref b] below meth c Q X 28 ([]) (M) lf (C) (S) 92 [(6, .int (nI j)), (5, .int (nI tc)), (4, .int (nI jc)), (3, .int x), (2, .int (nI t)), (1, .ref (X.2.1 5 0 0)), (0, .ref b)] [] := by
  have h4 := I.1.1
  have h12 := I.1.2.1
  have hl := I.1.2.2.2.2 j hj
  refine v_iconst F (v := nI 1) dL_law_92 (by decide) ?_
  refine v_iload_n F dL_law_93 rfl 3 rfl ?_
  refine v_iconst F (v := nI 5) dL_law_94 (by decide) ?_
  refine v_ishr F dL_law_95 ?_
  refine v_bipush F (v := nI 8) dL_law_96 (by decide) ?_
  refine v_callSi F (As := [_, _]) (rest := [.int _]) rfl (c_L_below G _ (n := 8) (by decide) (by decide)) wm_L_9 rfl ⟨rfl, rfl, Nat.le_of_ble_eq_true rfl, Nat.le_of_ble_eq_true rfl, (by show _ ≤ 787500; omega), (by show _ ≤ 6738968; omega), Nat.le_of_ble_eq_true rfl⟩ dL_law_98 ?_
  refine v_iadd F dL_law_101 ?_
  refine v_topr (nI (1 + bl (x >>> (nI 5 &&& 31)) 8)) (nI_add _ _) ?_
  refine v_istore F dL_law_102 (by decide) (lv' := [(7, .int _), (6, .int _), (5, .int _), (4, .int _), (3, .int _), (2, .int _), (1, .ref _), (0, .ref _)]) rfl ?_
  have hn8 : 1 + bl (x >>> (nI 5 &&& 31)) 8 ≤ 8 := by have := bl_lt (x >>> (nI 5 &&& 31)) (n := 8) (by decide); omega
  generalize hn0 : 1 + bl (x >>> (nI 5 &&& 31)) 8 = n at hn8
  have h1n : 1 ≤ n := by omega
  refine v_aload_n F dL_law_104 rfl 6 rfl ?_
  refine v_iload F dL_law_105 1 rfl ?_
  refine v_iconst F (v := nI 4) dL_law_107 (by decide) ?_
  refine v_callVi F (As := [_, _]) (rest := []) rfl (c_X4_juggler G I.1 hj (q := 4) (by decide)) Rv_H wm_L_57 rfl ⟨rfl, rfl, Nat.le_of_ble_eq_true rfl, Nat.le_of_ble_eq_true rfl, (by show _ ≤ 787500; omega), (by show _ ≤ 6738968; omega), Nat.le_of_ble_eq_true rfl⟩ dL_law_108 ?_
  refine v_topr (nI (ln j)) hl.2.2 ?_
  refine v_istore F dL_law_111 (by decide) (lv' := [(8, .int _), (7, .int _), (6, .int _), (5, .int _), (4, .int _), (3, .int _), (2, .int _), (1, .ref _), (0, .ref _)]) rfl ?_
  refine v_aload_n F dL_law_113 rfl 7 rfl ?_
  refine v_iload F dL_law_114 2 rfl ?_
  refine v_iload F dL_law_116 1 rfl ?_
  refine v_iload_n F dL_law_118 rfl 5 rfl ?_
  refine v_iconst F (v := nI 2) dL_law_119 (by decide) ?_
  refine v_ishr F dL_law_120 ?_
  refine v_iload F dL_law_121 1 rfl ?_
  refine v_callSi F (As := [_, _]) (rest := [.int _, .int _, .ref _]) rfl (c_L_heights G _ hn8) wm_L_26 rfl ⟨rfl, rfl, Nat.le_of_ble_eq_true rfl, Nat.le_of_ble_eq_true rfl, (by show _ ≤ 787500; omega), (by show _ ≤ 6738968; omega), Nat.le_of_ble_eq_true rfl⟩ dL_law_123 ?_
  refine v_callVi F (As := [_, _, _]) (rest := []) rfl (c_X4_setPattern G I.1 hj h1n hn8 (hgt_lt _ n)) Rv_H wm_L_29 rfl ⟨rfl, rfl, Nat.le_of_ble_eq_true rfl, Nat.le_of_ble_eq_true rfl, (by show _ ≤ 787500; omega), (by show _ ≤ 6738968; omega), Nat.le_of_ble_eq_true rfl⟩ dL_law_126 ?_
  refine v_iload F dL_law_129 0 rfl ?_
  refine v_memI (P := fun M1 => RI (M1 0) jc tc bt (lnSet ln j n) ∧ M1 0 5 j (n - 1) = nI j) (by rw [uC_at]; exact ⟨RI_pat I hj h1n hn8 (Nat.lt_trans (hgt_lt _ n) (p10_lt hn8)), pat_own h1n (Nat.lt_trans (hgt_lt _ n) (p10_lt hn8))⟩) (fun M IP => ?_)
  have I := IP.1
  have hl := I.1.2.2.2.2 j hj
  rw [lnSet_at] at hl
  refine v_icmp_ne F (tgt := 162) dL_law_131 (by decide) (fun h => absurd (rfl) h) (fun c131 => ?_)
  refine v_aload_n F dL_law_134 rfl 7 rfl ?_
  refine v_iload F dL_law_135 2 rfl ?_
  refine v_iconst F (v := nI 4) dL_law_137 (by decide) ?_
  refine v_callVi F (As := [_, _]) (rest := []) rfl (c_X4_juggler G I.1 hj (q := 4) (by decide)) Rv_H wm_L_57 rfl ⟨rfl, rfl, Nat.le_of_ble_eq_true rfl, Nat.le_of_ble_eq_true rfl, (by show _ ≤ 787500; omega), (by show _ ≤ 6738968; omega), Nat.le_of_ble_eq_true rfl⟩ dL_law_138 ?_
  refine v_topr (nI n) hl.2.2 ?_
  refine v_iload F dL_law_141 1 rfl ?_
  refine v_icmp_ne F (tgt := 162) dL_law_143 (by decide) (fun h => absurd (rfl) h) (fun c143 => ?_)
  refine v_aload_n F dL_law_146 rfl 7 rfl ?_
  refine v_iload F dL_law_147 2 rfl ?_
  refine v_iload F dL_law_149 1 rfl ?_
  refine v_iconst F (v := nI 1) dL_law_151 (by decide) ?_
  refine v_isub F dL_law_152 ?_
  refine v_topr (nI (n - 1)) (pk_sub h1n) ?_
  refine v_iconst F (v := nI 1) dL_law_153 (by decide) ?_
  refine v_callVi F (As := [_, _, _]) (rest := []) rfl (c_X4_written_1 G I.1 hj (q := n - 1) (by rw [lnSet_at]; omega)) Rv_H wm_L_60 rfl ⟨rfl, rfl, Nat.le_of_ble_eq_true rfl, Nat.le_of_ble_eq_true rfl, (by show _ ≤ 787500; omega), (by show _ ≤ 6738968; omega), Nat.le_of_ble_eq_true rfl⟩ dL_law_154 ?_
  refine v_topr (nI j) IP.2 ?_
  refine v_iload F dL_law_157 2 rfl ?_
  refine v_icmp_eq F (tgt := 305) dL_law_159 (by decide) (fun c159 => ?_) (fun h => absurd (rfl) h)
  refine v_widen (k := C + 12) (n := S + 72) (by omega) (by omega) ?_
  exact v_locs [2, 5, 6, 7, 8] rfl (K M _ _ _ I hj)
set_option maxHeartbeats 4000000 in
set_option maxRecDepth 100000 in
theorem sw_1 (F : Fx p l s m #[Value.ref b] meth c cL_law 28 RL X) (G : Gx X l) {C S t j jc tc bt : Nat} {x : Int32} {ln : Nat → Nat} (hC : C + 19 ≤ 787500) (hS0 : S + 92 ≤ 6738968) (hj : j < jc) (I : RI (M 0) jc tc bt ln) (K : ∀ (M : Mem) (jc tc : Nat) (ln : Nat → Nat), RI (M 0) jc tc bt ln → j < jc → V p l e room_1 s m #[Value.ref b] below meth c Q X 28 ([]) (M) lf (C + 12) (S + 72) 305 [(6, .int (nI j)), (3, .int x), (2, .int (nI t)), (1, .ref (X.2.1 5 0 0)), (0, .ref b)] [])  : V p l e room_1 s m #[Value.ref b] below meth c Q X 28 ([]) (M) lf (C) (S) 164 [(6, .int (nI j)), (5, .int (nI tc)), (4, .int (nI jc)), (3, .int x), (2, .int (nI t)), (1, .ref (X.2.1 5 0 0)), (0, .ref b)] [] := by
  have h4 := I.1.1
  have h12 := I.1.2.1
  have hl := I.1.2.2.2.2 j hj
  refine v_iload_n F dL_law_164 rfl 3 rfl ?_
  refine v_iconst F (v := nI 5) dL_law_165 (by decide) ?_
  refine v_ishr F dL_law_166 ?_
  refine v_aload_n F dL_law_167 rfl 5 rfl ?_
  refine v_iload F dL_law_168 0 rfl ?_
  refine v_iconst F (v := nI 4) dL_law_170 (by decide) ?_
  refine v_callVi F (As := [_, _]) (rest := [.int _]) rfl (c_X4_juggler G I.1 hj (q := 4) (by decide)) Rv_H wm_L_57 rfl ⟨rfl, rfl, Nat.le_of_ble_eq_true rfl, Nat.le_of_ble_eq_true rfl, (by show _ ≤ 787500; omega), (by show _ ≤ 6738968; omega), Nat.le_of_ble_eq_true rfl⟩ dL_law_171 ?_
  refine v_topr (nI (ln j)) hl.2.2 ?_
  refine v_callSi F (As := [_, _]) (rest := []) rfl (c_L_below G _ (n := ln j) hl.1 (by omega)) wm_L_9 rfl ⟨rfl, rfl, Nat.le_of_ble_eq_true rfl, Nat.le_of_ble_eq_true rfl, (by show _ ≤ 787500; omega), (by show _ ≤ 6738968; omega), Nat.le_of_ble_eq_true rfl⟩ dL_law_174 ?_
  refine v_istore F dL_law_177 (by decide) (lv' := [(7, .int _), (6, .int _), (5, .int _), (4, .int _), (3, .int _), (2, .int _), (1, .ref _), (0, .ref _)]) rfl ?_
  refine v_aload_n F dL_law_179 rfl 6 rfl ?_
  refine v_iload F dL_law_180 1 rfl ?_
  refine v_iload F dL_law_182 0 rfl ?_
  refine v_iconst F (v := nI 1) dL_law_184 (by decide) ?_
  refine v_callVi F (As := [_, _, _]) (rest := []) rfl (c_X4_written_1 G I.1 hj (bl_lt _ hl.1)) Rv_H wm_L_60 rfl ⟨rfl, rfl, Nat.le_of_ble_eq_true rfl, Nat.le_of_ble_eq_true rfl, (by show _ ≤ 787500; omega), (by show _ ≤ 6738968; omega), Nat.le_of_ble_eq_true rfl⟩ dL_law_185 ?_
  refine v_istore F dL_law_188 (by decide) (lv' := [(8, .int _), (7, .int _), (6, .int _), (5, .int _), (4, .int _), (3, .int _), (2, .int _), (1, .ref _), (0, .ref _)]) rfl ?_
  refine v_aload_n F dL_law_190 rfl 7 rfl ?_
  refine v_iload F dL_law_191 2 rfl ?_
  refine v_iload F dL_law_193 1 rfl ?_
  refine v_iload_n F dL_law_195 rfl 5 rfl ?_
  refine v_bipush F (v := nI 6) dL_law_196 (by decide) ?_
  refine v_ishr F dL_law_198 ?_
  refine v_iload F dL_law_199 4 rfl ?_
  refine v_callSi F (As := [_, _]) (rest := [.int _, .int _, .ref _]) rfl (c_L_below G _ (n := jc) (by omega) (by omega)) wm_L_9 rfl ⟨rfl, rfl, Nat.le_of_ble_eq_true rfl, Nat.le_of_ble_eq_true rfl, (by show _ ≤ 787500; omega), (by show _ ≤ 6738968; omega), Nat.le_of_ble_eq_true rfl⟩ dL_law_201 ?_
  refine v_callVi F (As := [_, _, _]) (rest := []) rfl (c_X4_pass G I.1 hj (bl_lt _ hl.1) (bl_lt _ (by omega))) Rv_H wm_L_33 rfl ⟨rfl, rfl, Nat.le_of_ble_eq_true rfl, Nat.le_of_ble_eq_true rfl, (by show _ ≤ 787500; omega), (by show _ ≤ 6738968; omega), Nat.le_of_ble_eq_true rfl⟩ dL_law_204 ?_
  refine v_iload F dL_law_207 0 rfl ?_
  refine v_memI (P := fun M1 => RI (M1 0) jc tc bt ln) (by rw [uC_at]; exact RI_pass I (bl_lt _ (by omega))) (fun M I => ?_)
  refine v_icmp_eq F (tgt := 305) dL_law_209 (by decide) (fun c209 => ?_) (fun h => absurd (rfl) h)
  refine v_widen (k := C + 12) (n := S + 72) (by omega) (by omega) ?_
  exact v_locs [2, 5, 6, 7, 8] rfl (K M _ _ _ I hj)
set_option maxHeartbeats 4000000 in
set_option maxRecDepth 100000 in
theorem sw_2 (F : Fx p l s m #[Value.ref b] meth c cL_law 28 RL X) (G : Gx X l) {C S t j jc tc bt : Nat} {x : Int32} {ln : Nat → Nat} (hC : C + 19 ≤ 787500) (hS0 : S + 92 ≤ 6738968) (hj : j < jc) (I : RI (M 0) jc tc bt ln) (K : ∀ (M : Mem) (jc tc : Nat) (ln : Nat → Nat), RI (M 0) jc tc bt ln → j < jc → V p l e room_1 s m #[Value.ref b] below meth c Q X 28 ([]) (M) lf (C + 12) (S + 72) 305 [(6, .int (nI j)), (3, .int x), (2, .int (nI t)), (1, .ref (X.2.1 5 0 0)), (0, .ref b)] [])  : V p l e room_1 s m #[Value.ref b] below meth c Q X 28 ([]) (M) lf (C) (S) 214 [(6, .int (nI j)), (5, .int (nI tc)), (4, .int (nI jc)), (3, .int x), (2, .int (nI t)), (1, .ref (X.2.1 5 0 0)), (0, .ref b)] [] := by
  have h4 := I.1.1
  have h12 := I.1.2.1
  have hl := I.1.2.2.2.2 j hj
  refine v_iload F dL_law_214 1 rfl ?_
  refine v_bipush F (v := nI 12) dL_law_216 (by decide) ?_
  refine v_icmp_ge F (tgt := 305) dL_law_218 (by decide) (fun c218 => ?_) (fun c218 => ?_)
  · have := c218
    refine v_widen (k := C + 12) (n := S + 72) (by omega) (by omega) ?_
    exact v_locs [0, 3, 4, 5, 6] rfl (K M _ _ _ I hj)
  · have := c218
    have htc : tc < 12 := Nat.lt_of_not_le (fun z => c218 (nI_le z (by omega)))
    refine v_aload_n F dL_law_221 rfl 5 rfl ?_
    refine v_iload_n F dL_law_222 rfl 3 rfl ?_
    refine v_iconst F (v := nI 5) dL_law_223 (by decide) ?_
    refine v_ishr F dL_law_224 ?_
    refine v_iconst F (v := nI 3) dL_law_225 (by decide) ?_
    refine v_callSi F (As := [_, _]) (rest := [.ref _]) rfl (c_L_below G _ (n := 3) (by decide) (by decide)) wm_L_9 rfl ⟨rfl, rfl, Nat.le_of_ble_eq_true rfl, Nat.le_of_ble_eq_true rfl, (by show _ ≤ 787500; omega), (by show _ ≤ 6738968; omega), Nat.le_of_ble_eq_true rfl⟩ dL_law_226 ?_
    refine v_callVi F (As := [_]) (rest := []) rfl (c_X4_make G htc I.1.2.2.2.1 (bl_lt _ (by decide))) Rv_H wm_L_36 rfl ⟨rfl, rfl, Nat.le_of_ble_eq_true rfl, Nat.le_of_ble_eq_true rfl, (by show _ ≤ 787500; omega), (by show _ ≤ 6738968; omega), Nat.le_of_ble_eq_true rfl⟩ dL_law_229 ?_
    refine v_iload F dL_law_232 1 rfl ?_
    refine v_memI (P := fun M1 => RI (M1 0) jc (tc + 1) bt ln) (by rw [uC_at]; exact RI_make I htc (bl_lt _ (by decide))) (fun M I => ?_)
    refine v_icmp_eq F (tgt := 305) dL_law_234 (by decide) (fun c234 => ?_) (fun h => absurd (rfl) h)
    refine v_widen (k := C + 12) (n := S + 72) (by omega) (by omega) ?_
    exact v_locs [0, 3, 4, 5, 6] rfl (K M _ _ _ I hj)
set_option maxHeartbeats 4000000 in
set_option maxRecDepth 100000 in
theorem sw_3 (F : Fx p l s m #[Value.ref b] meth c cL_law 28 RL X) (G : Gx X l) {C S t j jc tc bt : Nat} {x : Int32} {ln : Nat → Nat} (hC : C + 19 ≤ 787500) (hS0 : S + 92 ≤ 6738968) (hj : j < jc) (I : RI (M 0) jc tc bt ln) (K : ∀ (M : Mem) (jc tc : Nat) (ln : Nat → Nat), RI (M 0) jc tc bt ln → j < jc → V p l e room_1 s m #[Value.ref b] below meth c Q X 28 ([]) (M) lf (C + 12) (S + 72) 305 [(6, .int (nI j)), (3, .int x), (2, .int (nI t)), (1, .ref (X.2.1 5 0 0)), (0, .ref b)] [])  : V p l e room_1 s m #[Value.ref b] below meth c Q X 28 ([]) (M) lf (C) (S) 239 [(6, .int (nI j)), (5, .int (nI tc)), (4, .int (nI jc)), (3, .int x), (2, .int (nI t)), (1, .ref (X.2.1 5 0 0)), (0, .ref b)] [] := by
  have h4 := I.1.1
  have h12 := I.1.2.1
  have hl := I.1.2.2.2.2 j hj
  refine v_iload F dL_law_239 2 rfl ?_
  refine v_iconst F (v := nI 4) dL_law_241 (by decide) ?_
  refine v_icmp_ge F (tgt := 305) dL_law_242 (by decide) (fun c242 => ?_) (fun c242 => ?_)
  · have := c242
    refine v_widen (k := C + 12) (n := S + 72) (by omega) (by omega) ?_
    exact v_locs [0, 3, 4, 5, 6] rfl (K M _ _ _ I hj)
  · have := c242
    have htc : jc < 4 := Nat.lt_of_not_le (fun z => c242 (nI_le z (by omega)))
    refine v_aload_n F dL_law_245 rfl 5 rfl ?_
    refine v_iconst F (v := nI 1) dL_law_246 (by decide) ?_
    refine v_iload_n F dL_law_247 rfl 3 rfl ?_
    refine v_iconst F (v := nI 5) dL_law_248 (by decide) ?_
    refine v_ishr F dL_law_249 ?_
    refine v_bipush F (v := nI 9) dL_law_250 (by decide) ?_
    refine v_callSi F (As := [_, _]) (rest := [.int _, .ref _]) rfl (c_L_below G _ (n := 9) (by decide) (by decide)) wm_L_9 rfl ⟨rfl, rfl, Nat.le_of_ble_eq_true rfl, Nat.le_of_ble_eq_true rfl, (by show _ ≤ 787500; omega), (by show _ ≤ 6738968; omega), Nat.le_of_ble_eq_true rfl⟩ dL_law_252 ?_
    refine v_iadd F dL_law_255 ?_
    refine v_topr (nI (1 + bl (x >>> (nI 5 &&& 31)) 9)) (nI_add _ _) ?_
    refine v_callVi F (As := [_]) (rest := []) rfl (c_X4_come G htc I.1.2.2.1 (Nat.le_add_right 1 _) (by have := bl_lt (x >>> (nI 5 &&& 31)) (n := 9) (by decide); omega)) Rv_H wm_L_22 rfl ⟨rfl, rfl, Nat.le_of_ble_eq_true rfl, Nat.le_of_ble_eq_true rfl, (by show _ ≤ 787500; omega), (by show _ ≤ 6738968; omega), Nat.le_of_ble_eq_true rfl⟩ dL_law_256 ?_
    refine v_iload F dL_law_259 2 rfl ?_
    refine v_memI (P := fun M1 => RI (M1 0) (jc + 1) tc bt (lnSet ln jc 1)) (by rw [uC_at]; exact RI_come I htc _) (fun M I => ?_)
    have hj := Nat.lt_succ_of_lt hj
    refine v_icmp_eq F (tgt := 305) dL_law_261 (by decide) (fun c261 => ?_) (fun h => absurd (rfl) h)
    refine v_widen (k := C + 12) (n := S + 72) (by omega) (by omega) ?_
    exact v_locs [0, 3, 4, 5, 6] rfl (K M _ _ _ I hj)
set_option maxHeartbeats 4000000 in
set_option maxRecDepth 100000 in
theorem L_sw_4 (F : Fx p l s m #[Value.ref b] meth c cL_law 28 RL X) (G : Gx X l) {C S t j jc tc bt : Nat} {x : Int32} {ln : Nat → Nat} (hC : C + 19 ≤ 787500) (hS0 : S + 92 ≤ 6738968) (hj : j < jc) (h4 : jc ≤ 4) (h12 : tc ≤ 12) (K : ∀ (M : Mem) (jc tc : Nat) (ln : Nat → Nat), RI (M 0) jc tc bt ln → j < jc → V p l e room_1 s m #[Value.ref b] below meth c Q X 28 ([]) (M) lf (C + 12) (S + 72) 305 [(6, .int (nI j)), (3, .int x), (2, .int (nI t)), (1, .ref (X.2.1 5 0 0)), (0, .ref b)] [])  : ∀ (f k : Nat) (M : Mem), f + k = tc → RI (M 0) jc tc bt ln → V p l e room_1 s m #[Value.ref b] below meth c Q X 28 ([]) (M) lf (C + k) (S + 6 * k) 269 [(7, .int (nI k)), (6, .int (nI j)), (5, .int (nI tc)), (4, .int (nI jc)), (3, .int x), (2, .int (nI t)), (1, .ref (X.2.1 5 0 0)), (0, .ref b)] [] := by
  intro f
  induction f with
  | zero =>
    intro k M hf I
    obtain rfl : k = tc := by omega
    refine v_iload F dL_law_269 0 rfl ?_
    refine v_iload F dL_law_271 2 rfl ?_
    refine v_icmp_ge F (tgt := 305) dL_law_273 (by decide) (fun c273 => ?_) (fun h => absurd (nI_le (Nat.le_refl _) (by omega)) h)
    refine v_widen (k := C + 12) (n := S + 72) (by omega) (by omega) ?_
    exact v_locs [1, 4, 5, 6, 7] rfl (K M _ _ _ I hj)
  | succ f ih =>
    intro k M hf I
    refine v_iload F dL_law_269 0 rfl ?_
    refine v_iload F dL_law_271 2 rfl ?_
    refine v_icmp_ge F (tgt := 305) dL_law_273 (by decide) (fun h => absurd h (nI_ge (by omega) (by omega))) (fun c273 => ?_)
    refine v_aload_n F dL_law_276 rfl 6 rfl ?_
    refine v_iload F dL_law_277 0 rfl ?_
    refine v_iload F dL_law_279 1 rfl ?_
    refine v_iload_n F dL_law_281 rfl 4 rfl ?_
    refine v_iconst F (v := nI 4) dL_law_282 (by decide) ?_
    refine v_iload F dL_law_283 0 rfl ?_
    refine v_iadd F dL_law_285 ?_
    refine v_topr (nI (4 + k)) (nI_add _ _) ?_
    refine v_ishr F dL_law_286 ?_
    refine v_iconst F (v := nI 2) dL_law_287 (by decide) ?_
    refine v_callSi F (As := [_, _]) (rest := [.int _, .int _, .ref _]) rfl (c_L_below G _ (n := 2) (by decide) (by decide)) wm_L_9 rfl ⟨rfl, rfl, Nat.le_of_ble_eq_true rfl, Nat.le_of_ble_eq_true rfl, (by show _ ≤ 787500; omega), (by show _ ≤ 6738968; omega), Nat.le_of_ble_eq_true rfl⟩ dL_law_288 ?_
    refine v_callSHi F (n := 4) (As := [_, _, _, _]) (rest := []) rfl (c_L_give G I.1 (show k < tc by omega) hj (bl_lt _ (by decide))) wcw_give wml_L_39 wst_L_give wini_L (by decide +kernel) rfl ⟨rfl, rfl, Nat.le_of_ble_eq_true rfl, Nat.le_of_ble_eq_true rfl, (by show _ ≤ 787500; omega), (by show _ ≤ 6738968; omega), Nat.le_of_ble_eq_true rfl⟩ dL_law_291 ?_
    refine v_memI (P := fun M1 => RI (M1 0) jc tc bt ln) (RI_gv I (by omega) hj (bl_lt _ (by decide))) (fun M I => ?_)
    refine v_if_ne F (tgt := 299) dL_law_294 (by decide) (fun c294 => ?_) (fun h => absurd h (gvR_ne (by omega) (bl_lt _ (by decide))))
    refine v_iinc F (k := 0) (nI (k + 1)) dL_law_299 rfl (iinc_nI k) (by decide) (lv' := [(7, .int _), (6, .int _), (5, .int _), (4, .int _), (3, .int _), (2, .int _), (1, .ref _), (0, .ref _)]) rfl ?_
    refine v_goto F (tgt := 269) dL_law_302 (by decide) ?_
    refine v_widen (k := C + (k + 1)) (n := S + 6 * (k + 1)) (by omega) (by omega) ?_
    exact ih (k + 1) M (by omega) I
set_option maxHeartbeats 4000000 in
set_option maxRecDepth 100000 in
theorem sw_4 (F : Fx p l s m #[Value.ref b] meth c cL_law 28 RL X) (G : Gx X l) {C S t j jc tc bt : Nat} {x : Int32} {ln : Nat → Nat} (hC : C + 19 ≤ 787500) (hS0 : S + 92 ≤ 6738968) (hj : j < jc) (I : RI (M 0) jc tc bt ln) (K : ∀ (M : Mem) (jc tc : Nat) (ln : Nat → Nat), RI (M 0) jc tc bt ln → j < jc → V p l e room_1 s m #[Value.ref b] below meth c Q X 28 ([]) (M) lf (C + 12) (S + 72) 305 [(6, .int (nI j)), (3, .int x), (2, .int (nI t)), (1, .ref (X.2.1 5 0 0)), (0, .ref b)] [])  : V p l e room_1 s m #[Value.ref b] below meth c Q X 28 ([]) (M) lf (C) (S) 266 [(6, .int (nI j)), (5, .int (nI tc)), (4, .int (nI jc)), (3, .int x), (2, .int (nI t)), (1, .ref (X.2.1 5 0 0)), (0, .ref b)] [] := by
  have h4 := I.1.1
  have h12 := I.1.2.1
  have hl := I.1.2.2.2.2 j hj
  refine v_iconst F (v := nI 0) dL_law_266 (by decide) ?_
  refine v_istore F dL_law_267 (by decide) (lv' := [(7, .int _), (6, .int _), (5, .int _), (4, .int _), (3, .int _), (2, .int _), (1, .ref _), (0, .ref _)]) rfl ?_
  exact L_sw_4 F G hC hS0 hj I.1.1 I.1.2.1 K tc 0 M (Nat.add_zero tc) I
set_option maxHeartbeats 4000000 in
set_option maxRecDepth 100000 in
theorem law_sw (F : Fx p l s m #[Value.ref b] meth c cL_law 28 RL X) (G : Gx X l) (hX : va_X b L xs s s.heap) (hbl : b < X.2.2.2) (hL : L < 2 ^ 31) {C S t jc tc bt : Nat} {ln : Nat → Nat} (hC : C + 19 ≤ 787500) (hS0 : S + 92 ≤ 6738968) (ht : t < 30) (h1j : 1 ≤ jc) (I : RI (M 0) jc tc bt ln) (K : ∀ (x : Int32) (j : Nat) (M : Mem) (jc tc : Nat) (ln : Nat → Nat), RI (M 0) jc tc bt ln → j < jc → V p l e room_1 s m #[Value.ref b] below meth c Q X 28 ([]) (M) lf (C + 12) (S + 72) 305 [(6, .int (nI j)), (3, .int x), (2, .int (nI t)), (1, .ref (X.2.1 5 0 0)), (0, .ref b)] [])  : V p l e room_1 s m #[Value.ref b] below meth c Q X 28 ([]) (M) lf (C) (S) 13 [(2, .int (nI t)), (1, .ref (X.2.1 5 0 0)), (0, .ref b)] [] := by
  have h4 := I.1.1
  have h12 := I.1.2.1
  refine v_aload_n F dL_law_13 rfl 2 rfl ?_
  refine v_iload_n F dL_law_14 rfl 0 rfl ?_
  refine v_bipush F (v := nI 16) dL_law_15 (by decide) ?_
  refine v_irem F dL_law_17 (nI_ne0 (by decide) (by decide)) ?_
  refine v_topr (nI (t % 16)) (pk_rem (by omega) (by decide) (by decide)) ?_
  refine v_callSs F hX hbl (As := [_, _]) (rest := []) rfl (c_L_cell G hbl (k := t % 16) (by omega) hL) wm_L_18 rfl ⟨rfl, rfl, Nat.le_of_ble_eq_true rfl, Nat.le_of_ble_eq_true rfl, (by show _ ≤ 787500; omega), (by show _ ≤ 6738968; omega), Nat.le_of_ble_eq_true rfl⟩ dL_law_18 ?_
  refine v_iload_n F dL_law_21 rfl 0 rfl ?_
  refine v_bipush F (v := nI 16) dL_law_22 (by decide) ?_
  refine v_idiv F dL_law_24 (nI_ne0 (by decide) (by decide)) ?_
  refine v_topr (nI (t / 16)) (pk_div (by omega) (by decide) (by decide)) ?_
  refine v_bipush F (v := nI 6) dL_law_25 (by decide) ?_
  refine v_imul F dL_law_27 ?_
  refine v_topr (nI (t / 16 * 6)) (pk_mul _ _) ?_
  refine v_ishr F dL_law_28 ?_
  refine v_istore_n F dL_law_29 rfl (by decide) (lv' := [(3, .int _), (2, .int _), (1, .ref _), (0, .ref _)]) rfl ?_
  refine v_genx (fun x => ?_)
  refine v_aload_n F dL_law_30 rfl 2 rfl ?_
  refine v_iconst F (v := nI 1) dL_law_31 (by decide) ?_
  refine v_callVi F (As := [_]) (rest := []) rfl (c_X4_count G I.1 (q := 1) (by decide)) Rv_H wm_L_54 rfl ⟨rfl, rfl, Nat.le_of_ble_eq_true rfl, Nat.le_of_ble_eq_true rfl, (by show _ ≤ 787500; omega), (by show _ ≤ 6738968; omega), Nat.le_of_ble_eq_true rfl⟩ dL_law_32 ?_
  refine v_topr (nI jc) I.1.2.2.1 ?_
  refine v_istore F dL_law_35 (by decide) (lv' := [(4, .int _), (3, .int _), (2, .int _), (1, .ref _), (0, .ref _)]) rfl ?_
  refine v_aload_n F dL_law_37 rfl 3 rfl ?_
  refine v_iconst F (v := nI 2) dL_law_38 (by decide) ?_
  refine v_callVi F (As := [_]) (rest := []) rfl (c_X4_count G I.1 (q := 2) (by decide)) Rv_H wm_L_54 rfl ⟨rfl, rfl, Nat.le_of_ble_eq_true rfl, Nat.le_of_ble_eq_true rfl, (by show _ ≤ 787500; omega), (by show _ ≤ 6738968; omega), Nat.le_of_ble_eq_true rfl⟩ dL_law_39 ?_
  refine v_topr (nI tc) I.1.2.2.2.1 ?_
  refine v_istore F dL_law_42 (by decide) (lv' := [(5, .int _), (4, .int _), (3, .int _), (2, .int _), (1, .ref _), (0, .ref _)]) rfl ?_
  refine v_iload_n F dL_law_44 rfl 2 rfl ?_
  refine v_iconst F (v := nI 3) dL_law_45 (by decide) ?_
  refine v_ishr F dL_law_46 ?_
  refine v_iload F dL_law_47 1 rfl ?_
  refine v_callSi F (As := [_, _]) (rest := []) rfl (c_L_below G _ (n := jc) h1j (by omega)) wm_L_9 rfl ⟨rfl, rfl, Nat.le_of_ble_eq_true rfl, Nat.le_of_ble_eq_true rfl, (by show _ ≤ 787500; omega), (by show _ ≤ 6738968; omega), Nat.le_of_ble_eq_true rfl⟩ dL_law_49 ?_
  refine v_istore F dL_law_52 (by decide) (lv' := [(6, .int _), (5, .int _), (4, .int _), (3, .int _), (2, .int _), (1, .ref _), (0, .ref _)]) rfl ?_
  have hj : bl (x >>> (nI 3 &&& 31)) jc < jc := bl_lt _ h1j
  generalize hj0 : bl (x >>> (nI 3 &&& 31)) jc = j at hj
  refine v_iload_n F dL_law_54 rfl 3 rfl ?_
  refine v_bipush F (v := nI 6) dL_law_55 (by decide) ?_
  refine v_callSi F (As := [_, _]) (rest := []) rfl (c_L_below G _ (n := 6) (by decide) (by decide)) wm_L_9 rfl ⟨rfl, rfl, Nat.le_of_ble_eq_true rfl, Nat.le_of_ble_eq_true rfl, (by show _ ≤ 787500; omega), (by show _ ≤ 6738968; omega), Nat.le_of_ble_eq_true rfl⟩ dL_law_57 ?_
  generalize hr0 : bl x 6 = r
  have hr6 : r < 6 := by rw [← hr0]; exact bl_lt _ (by decide)
  rcases (show r = 0 ∨ r = 1 ∨ r = 2 ∨ r = 3 ∨ r = 4 ∨ r = 5 by omega) with rfl | rfl | rfl | rfl | rfl | rfl
  · exact v_tableIn F (tgt := 92) dL_law_60 (by decide) (by decide) rfl (by decide) (sw_0 F G hC hS0 hj I (K x j))
  · exact v_tableIn F (tgt := 164) dL_law_60 (by decide) (by decide) rfl (by decide) (sw_1 F G hC hS0 hj I (K x j))
  · exact v_tableIn F (tgt := 214) dL_law_60 (by decide) (by decide) rfl (by decide) (sw_2 F G hC hS0 hj I (K x j))
  · exact v_tableIn F (tgt := 239) dL_law_60 (by decide) (by decide) rfl (by decide) (sw_3 F G hC hS0 hj I (K x j))
  · exact v_tableOut F (tgt := 266) dL_law_60 (Or.inr (by decide)) (by decide) (sw_4 F G hC hS0 hj I (K x j))
  · exact v_tableOut F (tgt := 266) dL_law_60 (Or.inr (by decide)) (by decide) (sw_4 F G hC hS0 hj I (K x j))
end LSW
