/-! ===== the law: its loop and its end ===== -/
section LLOOP
variable {p : Program} {l : Launch} {e : Env} {s : State} {m : MethodId} {below : List Frame} {meth : Method} {c : Code} {Q : State → Prop} {X : Cx} {M : Mem} {lf : Lf} {b L : Nat} {xs : Nat → Int32}
set_option maxHeartbeats 4000000 in
set_option maxRecDepth 100000 in
theorem law_last (F : Fx p l s m #[Value.ref b] meth c cL_law 28 RL X) (G : Gx X l) {C S t jc tc q a a2 B : Nat} {r : Nat → Nat} {g : Nat → Nat → Int32} {fa fb : Nat → Int32} {σ : Sg} {ln : Nat → Nat} (hC : C ≤ 787500) (hS0 : S ≤ 6738968) (hM : M 0 = σ) (I : RI σ jc tc B ln) (hB : 1 ≤ B) (hB2 : B < 2 ^ 31) (hg : ∀ i h, i < jc → h < 2 → ¬ g i h < 0 → σ 6 i h = g i h) (tA : tlA σ tc fa) (tF : tlF σ jc tc fb) (K : V p l e room_1 s m #[Value.ref b] below meth c Q X 28 (exE X q jc r g a fa a2 fb) (M) lf (C) (S) 1269 [(2, .int (nI t)), (1, .ref (X.2.1 5 0 0)), (0, .ref b)] [])  : V p l e room_1 s m #[Value.ref b] below meth c Q X 28 (exE X q jc r g a fa a2 fb) (M) lf (C) (S) 968 [(21, .ref a2), (20, .int (sHam σ tc)), (19, .int (sFel σ tc)), (18, .int (sThr σ tc)), (17, .ref a), (15, .ref q), (5, .int (nI tc)), (4, .int (nI jc)), (2, .int (nI t)), (1, .ref (X.2.1 5 0 0)), (0, .ref b)] [] := by
  refine v_iconst F (v := 0) dL_law_968 (by decide) ?_
  refine v_istore F dL_law_969 (by decide) (lv' := [(22, .int _), (21, .ref _), (20, .int _), (19, .int _), (18, .int _), (17, .ref _), (15, .ref _), (5, .int _), (4, .int _), (2, .int _), (1, .ref _), (0, .ref _)]) rfl ?_
  refine v_iconst F (v := 0) dL_law_971 (by decide) ?_
  refine v_istore F dL_law_972 (by decide) (lv' := [(23, .int _), (22, .int _), (21, .ref _), (20, .int _), (19, .int _), (18, .int _), (17, .ref _), (15, .ref _), (5, .int _), (4, .int _), (2, .int _), (1, .ref _), (0, .ref _)]) rfl ?_
  refine v_iconst F (v := 0) dL_law_974 (by decide) ?_
  refine v_istore F dL_law_975 (by decide) (lv' := [(24, .int _), (23, .int _), (22, .int _), (21, .ref _), (20, .int _), (19, .int _), (18, .int _), (17, .ref _), (15, .ref _), (5, .int _), (4, .int _), (2, .int _), (1, .ref _), (0, .ref _)]) rfl ?_
  refine v_iconst F (v := nI 0) dL_law_977 (by decide) ?_
  refine v_istore F dL_law_978 (by decide) (lv' := [(25, .int _), (24, .int _), (23, .int _), (22, .int _), (21, .ref _), (20, .int _), (19, .int _), (18, .int _), (17, .ref _), (15, .ref _), (5, .int _), (4, .int _), (2, .int _), (1, .ref _), (0, .ref _)]) rfl ?_
  refine v_locs [0, 1, 2, 3, 4, 5, 6, 7, 8, 9, 10, 11, 12, 13, 14] rfl ?_
  exact L_jug F G hC hS0 hM I hg tF (law_cnt F G hC hS0 hM I tA (law_fin F G hC hS0 hM I hB hB2 tA K)) jc 0 (Nat.add_zero jc)
set_option maxHeartbeats 4000000 in
set_option maxRecDepth 100000 in
theorem law_end (F : Fx p l s m #[Value.ref b] meth c cL_law 28 RL X) (G : Gx X l) (hbase : X.2.2.2 = s.heap.size) (hr : meth.sig.returnType = ret) {C S : Nat} (h1 : C ≤ 787500) (h2 : S ≤ 6738968) {lv : List (Nat × Value)} : V p l e room_1 s m #[Value.ref b] below meth c (lw_Z below #[Value.ref b] s) X 28 [] M lf C S 1275 lv [] := by
  refine v_iconst F (v := 1) dL_law_1275 (by decide) ?_
  refine v_widen (k := 787500) (n := 6738968) h1 h2 ?_
  intro H locs ls hP hE hS hl
  refine va_forget (fun q hq => ?_) ?_
  · rw [← hbase]
    exact xA_B F.2.2.1 (Nat.le_of_eq hbase) q.base (hS.2.2 q hq)
  · refine W.base ?_
    exact lw_ret (Drawn.sameBut.refl s.drawn lw_cs) F.1.1 F.1.2.1 hr F.2.2.2.1 dL_law_1276
set_option maxHeartbeats 4000000 in
set_option maxRecDepth 100000 in
theorem law_round (F : Fx p l s m #[Value.ref b] meth c cL_law 28 RL X) (G : Gx X l) (hX : va_X b L xs s s.heap) (hbl : b < X.2.2.2) (hL : L < 2 ^ 31) (hov : va_AOA .int s) {t jc tc bt : Nat} {ln : Nat → Nat} (ht : t < 30) (h1j : 1 ≤ jc) (I : RI (M 0) jc tc bt ln) (hbt : bt ≤ 36 + 4 * t) (K : ∀ (M : Mem) (jc tc bt : Nat) (ln : Nat → Nat), 1 ≤ jc → RI (M 0) jc tc bt ln → bt ≤ 36 + 4 * (t + 1) → V p l e room_1 s m #[Value.ref b] below meth c Q X 28 ([]) (M) lf (83 + 19 * (t + 1)) (516 + 92 * (t + 1)) 7 [(2, .int (nI (t + 1))), (1, .ref (X.2.1 5 0 0)), (0, .ref b)] []) : V p l e room_1 s m #[Value.ref b] below meth c Q X 28 ([]) (M) lf (83 + 19 * t) (516 + 92 * t) 13 [(2, .int (nI t)), (1, .ref (X.2.1 5 0 0)), (0, .ref b)] [] := by
  refine law_sw F G hX hbl hL (by omega) (by omega) ht h1j I (fun x j M jc tc ln I hj => ?_)
  refine law_ask F G (by omega) (by omega) ht rfl I hj (by omega) (fun M1 n hM1 h1n hn4 => ?_)
  have h4 := I.1.1
  refine law_held F G (by omega) (by omega) h4 hov hM1 I (by omega) hn4 (fun q r g hH => ?_)
  refine law_go F G (by omega) (by omega) hM1 I (by omega) h1n hn4 (fun M2 hM2 => ?_)
  have hb : bt + n + 10 < 2 ^ 31 := by omega
  have I2 := (RI_play n hb I).1
  refine law_things F G (by omega) (by omega) hM2 (by omega) I2 (fun a a2 fa fb tA tF => ?_)
  refine law_last F G (by omega) (by omega) hM2 I2 (by omega) (by omega) (fun i h hi hh hn => ?_) tA tF ?_
  · have e := hH.1 i h hi hh
    rw [e] at hn
    rw [e]
    exact hld_ok I hb hi hh hn
  · refine v_drop ?_
    refine v_iinc F (k := 0) (nI (t + 1)) dL_law_1269 rfl (iinc_nI t) (by decide) (lv' := [(2, .int _), (1, .ref _), (0, .ref _)]) rfl ?_
    refine v_goto F (tgt := 7) dL_law_1272 (by decide) ?_
    refine v_widen (k := 83 + 19 * (t + 1)) (n := 516 + 92 * (t + 1)) (by omega) (by omega) ?_
    exact K M2 jc tc (bt + n) ln (by omega) (by rw [hM2]; exact I2) (by omega)
set_option maxHeartbeats 4000000 in
set_option maxRecDepth 100000 in
theorem law_loop (F : Fx p l s m #[Value.ref b] meth c cL_law 28 RL X) (G : Gx X l) (hX : va_X b L xs s s.heap) (hbl : b < X.2.2.2) (hbase : X.2.2.2 = s.heap.size) (hL : L < 2 ^ 31) (hov : va_AOA .int s) (hr : meth.sig.returnType = ret) : ∀ (f t : Nat) (M : Mem) (jc tc bt : Nat) (ln : Nat → Nat), f + t = 30 → 1 ≤ jc → RI (M 0) jc tc bt ln → bt ≤ 36 + 4 * t → V p l e room_1 s m #[Value.ref b] below meth c (lw_Z below #[Value.ref b] s) X 28 ([]) (M) lf (83 + 19 * t) (516 + 92 * t) 7 [(2, .int (nI t)), (1, .ref (X.2.1 5 0 0)), (0, .ref b)] [] := by
  intro f
  induction f with
  | zero =>
    intro t M jc tc bt ln hf h1j I hbt
    obtain rfl : t = 30 := by omega
    refine v_iload_n F dL_law_7 rfl 0 rfl ?_
    refine v_bipush F (v := nI 30) dL_law_8 (by decide) ?_
    refine v_icmp_ge F (tgt := 1275) dL_law_10 (by decide) (fun c10 => ?_) (fun h => absurd ((nI_le (Nat.le_refl _) (by decide))) h)
    exact law_end F G hbase hr (by omega) (by omega)
  | succ f ih =>
    intro t M jc tc bt ln hf h1j I hbt
    refine v_iload_n F dL_law_7 rfl 0 rfl ?_
    refine v_bipush F (v := nI 30) dL_law_8 (by decide) ?_
    refine v_icmp_ge F (tgt := 1275) dL_law_10 (by decide) (fun h => absurd h ((nI_ge (by omega) (by omega)))) (fun c10 => ?_)
    exact law_round F G hX hbl hL hov (by omega) h1j I hbt (fun M jc tc bt ln h1j I hbt => ih (t + 1) M jc tc bt ln (by omega) h1j I hbt)
end LLOOP
