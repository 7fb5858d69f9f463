/-! ===== a ring: beats, what it tells, copying ===== -/
section RS
variable {p : Program} {l : Launch} {e : Env} {R : Room} {s : State} {m : MethodId} {args : Array Value} {below : List Frame} {meth : Method} {c : Code} {Q : State → Prop} {X : Cx} {nL : Nat} {ex : va_W} {M : Mem} {lf : Lf} {cells slots : Nat}
set_option maxHeartbeats 4000000 in
set_option maxRecDepth 100000 in
theorem L_X2_comeDown (F : Fx p l s m args meth c cX2_comeDown 6 RX2 X) (G : Gx X l) {r : Nat} (hr0 : r < 2) {σ : Sg} {jc tc : Nat} {ln : Nat → Nat} (hS : Shp σ jc tc ln) {hd : Nat} (hh : hd < 2) (K : V p l e rm_X2_comeDown s m args below meth c Q X 6 ex (uC M r (dnL hd σ tc)) lf 0 0 115 [(3, .int (nI tc)), (2, .int (dnR hd σ tc)), (0, .ref (X.2.1 r 0 0)), (1, .int (nI hd))] []) : ∀ (k q : Nat) (τ : Sg) (acc : Int32), k + q = tc → τ = dnL hd σ q → acc = dnR hd σ q → V p l e rm_X2_comeDown s m args below meth c Q X 6 ex (uC M r τ) lf 0 0 4 [(3, .int (nI q)), (2, .int acc), (0, .ref (X.2.1 r 0 0)), (1, .int (nI hd))] [] := by
  have h12 := hS.2.1
  have h4 := hS.1
  intro k
  induction k with
  | zero =>
    intro q τ acc hq hτ hacc
    obtain rfl : q = tc := by omega
    have hT : τ 0 0 3 = nI q := by rw [hτ]; exact (Shp_dn hS q).2.2.2.1
    refine v_iload_n F dX2_comeDown_4 rfl 0 rfl ?_
    refine v_aload_n F dX2_comeDown_5 rfl 2 rfl ?_
    refine v_get F (id_R hr0 (by decide) (by decide)) (heR hr0) rfl uw_X2 3 (by decide) rfl rfl wf_X2_29 dX2_comeDown_6 ?_
    refine v_topr (nI q) hT ?_
    refine v_icmp_ge F (tgt := 115) dX2_comeDown_9 (by decide) (fun c9 => ?_) (fun h => absurd (nI_le (Nat.le_refl _) (by omega)) h)
    subst hτ; subst hacc
    exact K
  | succ k ih =>
    intro q τ acc hq hτ hacc
    have hT : τ 0 0 3 = nI tc := by rw [hτ]; exact (Shp_dn hS q).2.2.2.1
    have hJ : τ 0 0 2 = nI jc := by rw [hτ]; exact (Shp_dn hS q).2.2.1
    refine v_iload_n F dX2_comeDown_4 rfl 0 rfl ?_
    refine v_aload_n F dX2_comeDown_5 rfl 2 rfl ?_
    refine v_get F (id_R hr0 (by decide) (by decide)) (heR hr0) rfl uw_X2 3 (by decide) rfl rfl wf_X2_29 dX2_comeDown_6 ?_
    refine v_topr (nI tc) hT ?_
    refine v_icmp_ge F (tgt := 115) dX2_comeDown_9 (by decide) (fun h => absurd h (nI_ge (by omega) (by omega))) (fun c9 => ?_)
    refine v_aload_n F dX2_comeDown_12 rfl 2 rfl ?_
    refine v_get F (id_R hr0 (by decide) (by decide)) (heR hr0) rfl uw_X2 1 (by decide) rfl rfl wf_X2_20 dX2_comeDown_13 ?_
    refine v_iload_n F dX2_comeDown_16 rfl 0 rfl ?_
    refine v_aaldT F hr0 (q) (Ix_nI (by omega)) dX2_comeDown_17 ?_
    refine v_astore F dX2_comeDown_18 (by decide) (lv' := [(4, .ref _), (3, .int _), (2, .int _), (0, .ref _), (1, .int _)]) rfl ?_
    refine v_aload F dX2_comeDown_20 0 rfl ?_
    refine v_getN F (id_R hr0 (by decide) (show _ < 12 by omega)) (heR hr0) rfl uw_X3 2 (by decide) rfl rfl wf_X2_65 dX2_comeDown_22 ?_
    refine v_istore F dX2_comeDown_25 (by decide) (lv' := [(5, .int _), (4, .ref _), (3, .int _), (2, .int _), (0, .ref _), (1, .int _)]) rfl ?_
    refine v_aload F dX2_comeDown_27 1 rfl ?_
    refine v_aload_n F dX2_comeDown_29 rfl 4 rfl ?_
    refine v_get F (id_R hr0 (by decide) (by decide)) (heR hr0) rfl uw_X2 4 (by decide) rfl rfl wf_X2_32 dX2_comeDown_30 ?_
    refine v_callNi F (As := [_]) (rest := []) rfl (c_X3_comesDownIn G hr0 (show q < 12 by omega) _) (Rv_T hr0 (show _ < 12 by omega)) wm_X2_83 rfl ⟨rfl, rfl, Nat.le_of_ble_eq_true rfl, Nat.le_of_ble_eq_true rfl, Nat.le_of_ble_eq_true rfl, Nat.le_of_ble_eq_true rfl, Nat.le_of_ble_eq_true rfl⟩ dX2_comeDown_33 ?_
    refine v_if_eq F (tgt := 109) dX2_comeDown_36 (by decide) (fun c36 => ?_) (fun c36 => ?_)
    · have := c36
      have hs : fDown1 τ q hd = τ := by rw [fDown1, if_pos c36]
      have hs2 : fDown1r τ q hd = 0 := by rw [fDown1r, if_pos c36]
      refine v_iinc F (k := 2) (nI (q + 1)) dX2_comeDown_109 rfl (iinc_nI q) (by decide) (lv' := [(3, .int _), (5, .int _), (4, .ref _), (2, .int _), (0, .ref _), (1, .int _)]) rfl ?_
      refine v_goto F (tgt := 4) dX2_comeDown_112 (by decide) ?_
      refine v_locs [0, 3, 4, 5] rfl (ih (q + 1) _ _ (by omega) ?_ ?_)
      · show _ = fDown1 (dnL hd σ q) q hd
        (rw [← hτ, hs]) <;> first | rfl | (rw [h1])
      · show _ = dnR hd σ q + fDown1r (dnL hd σ q) q hd
        rw [← hτ, ← hacc, hs2]
        first | rfl | exact (Int32.add_zero _).symm
    · have := c36
      refine v_aload_n F dX2_comeDown_39 rfl 4 rfl ?_
      refine v_iload F dX2_comeDown_40 0 rfl ?_
      refine v_callVi F (As := [_]) (rest := []) rfl (c_X2_hasJuggler G hr0 _) (Rv_R hr0) wm_X2_87 rfl ⟨rfl, rfl, Nat.le_of_ble_eq_true rfl, Nat.le_of_ble_eq_true rfl, Nat.le_of_ble_eq_true rfl, Nat.le_of_ble_eq_true rfl, Nat.le_of_ble_eq_true rfl⟩ dX2_comeDown_42 ?_
      refine v_if_eq F (tgt := 109) dX2_comeDown_45 (by decide) (fun c45 => ?_) (fun c45 => ?_)
      · have := c45
        have hs : fDown1 τ q hd = τ := by rw [fDown1, if_neg c36, if_pos c45]
        have hs2 : fDown1r τ q hd = 0 := by rw [fDown1r, if_neg c36, if_pos c45]
        refine v_iinc F (k := 2) (nI (q + 1)) dX2_comeDown_109 rfl (iinc_nI q) (by decide) (lv' := [(3, .int _), (5, .int _), (4, .ref _), (2, .int _), (0, .ref _), (1, .int _)]) rfl ?_
        refine v_goto F (tgt := 4) dX2_comeDown_112 (by decide) ?_
        refine v_locs [0, 3, 4, 5] rfl (ih (q + 1) _ _ (by omega) ?_ ?_)
        · show _ = fDown1 (dnL hd σ q) q hd
          (rw [← hτ, hs]) <;> first | rfl | (rw [h1])
        · show _ = dnR hd σ q + fDown1r (dnL hd σ q) q hd
          rw [← hτ, ← hacc, hs2]
          first | rfl | exact (Int32.add_zero _).symm
      · have := c45
        have hx := fHasJ_ix hJ h4 c45
        refine v_aload_n F dX2_comeDown_48 rfl 4 rfl ?_
        refine v_get F (id_R hr0 (by decide) (by decide)) (heR hr0) rfl uw_X2 0 (by decide) rfl rfl wf_X2_11 dX2_comeDown_49 ?_
        refine v_iload F dX2_comeDown_52 0 rfl ?_
        refine v_aaldJ F hr0 ((τ 8 q 2).toNatClampNeg) (Ix_mono hx h4) dX2_comeDown_54 ?_
        refine v_aload F dX2_comeDown_55 1 rfl ?_
        refine v_getN F (id_R hr0 (by decide) (show _ < 12 by omega)) (heR hr0) rfl uw_X3 5 (by decide) rfl rfl wf_X2_90 dX2_comeDown_57 ?_
        refine v_iload_n F dX2_comeDown_60 rfl 5 rfl ?_
        refine v_callNi F (As := [_, _]) (rest := []) rfl (c_X0_canCatch G hr0 (Nat.lt_of_lt_of_le hx.2.2 h4) _ hh) (Rv_J hr0 (show _ < 4 from Nat.lt_of_lt_of_le hx.2.2 h4)) wm_X2_93 rfl ⟨rfl, rfl, Nat.le_of_ble_eq_true rfl, Nat.le_of_ble_eq_true rfl, Nat.le_of_ble_eq_true rfl, Nat.le_of_ble_eq_true rfl, Nat.le_of_ble_eq_true rfl⟩ dX2_comeDown_61 ?_
        refine v_if_eq F (tgt := 94) dX2_comeDown_64 (by decide) (fun c64 => ?_) (fun c64 => ?_)
        · have := c64
          have hs : fDown1 τ q hd = fMiss τ (τ 8 q 2).toNatClampNeg q := by rw [fDown1, if_neg c36, if_neg c45, if_pos c64]
          have hs2 : fDown1r τ q hd = 1 := by rw [fDown1r, if_neg c36, if_neg c45, if_pos c64]
          refine v_aload_n F dX2_comeDown_94 rfl 4 rfl ?_
          refine v_get F (id_R hr0 (by decide) (by decide)) (heR hr0) rfl uw_X2 0 (by decide) rfl rfl wf_X2_11 dX2_comeDown_95 ?_
          refine v_iload F dX2_comeDown_98 0 rfl ?_
          refine v_aaldJ F hr0 ((τ 8 q 2).toNatClampNeg) (Ix_mono hx h4) dX2_comeDown_100 ?_
          refine v_aload F dX2_comeDown_101 1 rfl ?_
          refine v_callNv F (As := [_]) (rest := []) rfl (c_X0_miss G hr0 (Nat.lt_of_lt_of_le hx.2.2 h4) (show q < 12 by omega)) (Rv_J hr0 (show _ < 4 from Nat.lt_of_lt_of_le hx.2.2 h4)) wm_X2_103 rfl ⟨rfl, rfl, Nat.le_of_ble_eq_true rfl, Nat.le_of_ble_eq_true rfl, Nat.le_of_ble_eq_true rfl, Nat.le_of_ble_eq_true rfl, Nat.le_of_ble_eq_true rfl⟩ dX2_comeDown_103 ?_
          refine v_iinc F (k := 3) (_) dX2_comeDown_106 rfl rfl (by decide) (lv' := [(2, .int _), (5, .int _), (4, .ref _), (3, .int _), (0, .ref _), (1, .int _)]) rfl ?_
          refine v_iinc F (k := 3) (nI (q + 1)) dX2_comeDown_109 rfl (iinc_nI q) (by decide) (lv' := [(3, .int _), (2, .int _), (5, .int _), (4, .ref _), (0, .ref _), (1, .int _)]) rfl ?_
          refine v_goto F (tgt := 4) dX2_comeDown_112 (by decide) ?_
          refine v_locs [0, 1, 4, 5] rfl (ih (q + 1) _ _ (by omega) ?_ ?_)
          · show _ = fDown1 (dnL hd σ q) q hd
            (rw [← hτ, hs]) <;> first | rfl | (rw [h1])
          · show _ = dnR hd σ q + fDown1r (dnL hd σ q) q hd
            rw [← hτ, ← hacc, hs2]
            first | rfl | exact (Int32.add_zero _).symm
        · have := c64
          have hs : fDown1 τ q hd = u3 (fPut τ q (τ 8 q 2) (τ 8 q 2).toNatClampNeg hd) 2 (τ 8 q 2).toNatClampNeg 4 (fPut τ q (τ 8 q 2) (τ 8 q 2).toNatClampNeg hd 2 (τ 8 q 2).toNatClampNeg 4 + 1) := by rw [fDown1, if_neg c36, if_neg c45, if_neg c64]
          have hs2 : fDown1r τ q hd = 0 := by rw [fDown1r, if_neg c36, if_neg c45, if_neg c64]
          refine v_aload_n F dX2_comeDown_67 rfl 4 rfl ?_
          refine v_iload_n F dX2_comeDown_68 rfl 2 rfl ?_
          refine v_iload F dX2_comeDown_69 0 rfl ?_
          refine v_iload_n F dX2_comeDown_71 rfl 5 rfl ?_
          refine v_callVv F (As := [_, _, _]) (rest := []) rfl (c_X2_putIntoHand G hr0 (show q < 12 by omega) _ (Ix_mono hx h4) hh) (Rv_R hr0) wm_X2_97 rfl ⟨rfl, rfl, Nat.le_of_ble_eq_true rfl, Nat.le_of_ble_eq_true rfl, Nat.le_of_ble_eq_true rfl, Nat.le_of_ble_eq_true rfl, Nat.le_of_ble_eq_true rfl⟩ dX2_comeDown_72 ?_
          refine v_gen (fun τ1 h1 => ?_)
          refine v_aload_n F dX2_comeDown_75 rfl 4 rfl ?_
          refine v_get F (id_R hr0 (by decide) (by decide)) (heR hr0) rfl uw_X2 0 (by decide) rfl rfl wf_X2_11 dX2_comeDown_76 ?_
          refine v_iload F dX2_comeDown_79 0 rfl ?_
          refine v_aaldJ F hr0 ((τ 8 q 2).toNatClampNeg) (Ix_mono hx h4) dX2_comeDown_81 ?_
          refine v_dup F dX2_comeDown_82 rfl ?_
          refine v_getN F (id_R hr0 (by decide) (show _ < 4 from Nat.lt_of_lt_of_le hx.2.2 h4)) (heR hr0) rfl uw_X0 4 (by decide) rfl rfl wf_X2_100 dX2_comeDown_83 ?_
          refine v_iconst F (v := 1) dX2_comeDown_86 (by decide) ?_
          refine v_iadd F dX2_comeDown_87 ?_
          refine v_putNC F tyX0 tyX0_ok nmX0 (id_R hr0 (by decide) (show _ < 4 from Nat.lt_of_lt_of_le hx.2.2 h4)) (celD_R hr0) rfl uw_X0 4 (by decide) rfl rfl (by decide +kernel) (celD_R hr0) (Nat.le_of_ble_eq_true rfl) wf_X2_100 dX2_comeDown_88 ?_
          refine v_goto F (tgt := 109) dX2_comeDown_91 (by decide) ?_
          refine v_iinc F (k := 2) (nI (q + 1)) dX2_comeDown_109 rfl (iinc_nI q) (by decide) (lv' := [(3, .int _), (5, .int _), (4, .ref _), (2, .int _), (0, .ref _), (1, .int _)]) rfl ?_
          refine v_goto F (tgt := 4) dX2_comeDown_112 (by decide) ?_
          refine v_locs [0, 3, 4, 5] rfl (ih (q + 1) _ _ (by omega) ?_ ?_)
          · show _ = fDown1 (dnL hd σ q) q hd
            (rw [← hτ, hs]) <;> first | rfl | (rw [h1])
          · show _ = dnR hd σ q + fDown1r (dnL hd σ q) q hd
            rw [← hτ, ← hacc, hs2]
            first | rfl | exact (Int32.add_zero _).symm
set_option maxHeartbeats 4000000 in
set_option maxRecDepth 100000 in
theorem c_X2_comeDown {X : Cx} {l : Launch} (G : Gx X l) {M : Mem} {lf : Lf} {r : Nat} (hr0 : r < 2) {σ : Sg} {jc tc : Nat} {ln : Nat → Nat} (hS : Shp σ jc tc ln) {hd : Nat} (hh : hd < 2) : CI X l yX2_comeDown (wsc yX2_comeDown cX2_comeDown 6 (some .int)) rm_X2_comeDown [.ref (X.2.1 r 0 0), .int (nI hd)] (uC M r σ) lf (dnR hd σ tc) (uC M r (dnL hd σ tc)) lf 0 0 := by
  refine CI_of (lv := [(0, .ref _), (1, .int _)]) G (by decide) (Nat.le_of_ble_eq_true rfl) rfl (fun p e s m args below meth c F hr => ?_)
  have F : Fx p l s m args meth c cX2_comeDown 6 RX2 X := F
  refine v_iconst F (v := 0) dX2_comeDown_0 (by decide) ?_
  refine v_istore_n F dX2_comeDown_1 rfl (by decide) (lv' := [(2, .int _), (0, .ref _), (1, .int _)]) rfl ?_
  refine v_iconst F (v := nI 0) dX2_comeDown_2 (by decide) ?_
  refine v_istore_n F dX2_comeDown_3 rfl (by decide) (lv' := [(3, .int _), (2, .int _), (0, .ref _), (1, .int _)]) rfl ?_
  refine L_X2_comeDown F G hr0 hS hh ?_ tc 0 _ _ (Nat.add_zero tc) rfl rfl
  · skip
    refine v_iload_n F dX2_comeDown_115 rfl 1 rfl ?_
    exact v_iret F hr dX2_comeDown_116 rfl rfl rfl
set_option maxHeartbeats 4000000 in
set_option maxRecDepth 100000 in
theorem c_X2_throwFrom {X : Cx} {l : Launch} (G : Gx X l) {M : Mem} {lf : Lf} {r : Nat} (hr0 : r < 2) {σ : Sg} {tc : Nat} (h12 : tc ≤ 12) (hT : σ 0 0 3 = nI tc) {j : Nat} (hj : j < 4) {n b hd : Nat} (h1 : 1 ≤ n) (h8 : n ≤ 8) (hn : σ 3 j 2 = nI n) (hb : b < 2 ^ 31) (hbt : σ 0 0 4 = nI b) (hh : hd < 2) : CV X l yX2_throwFrom (wsc yX2_throwFrom cX2_throwFrom 6 none) rm_X2_throwFrom [.ref (X.2.1 r 0 0), .ref (X.2.1 r 2 j), .int (nI hd)] (uC M r σ) lf (uC M r (fThrow σ j (b % n) hd)) lf 0 0 := by
  refine CV_of (lv := [(0, .ref _), (1, .ref _), (2, .int _)]) G (by decide) (Nat.le_of_ble_eq_true rfl) rfl (fun p e s m args below meth c F hr => ?_)
  have F : Fx p l s m args meth c cX2_throwFrom 6 RX2 X := F
  have hm : b % n < 8 := Nat.lt_of_lt_of_le (Nat.mod_lt b h1) h8
  refine v_aload_n F dX2_throwFrom_0 rfl 1 rfl ?_
  refine v_getN F (id_R hr0 (by decide) hj) (heR hr0) rfl uw_X0 1 (by decide) rfl rfl wf_X2_58 dX2_throwFrom_1 ?_
  refine v_iload_n F dX2_throwFrom_4 rfl 2 rfl ?_
  refine v_iald F (id_R hr0 (by decide) hj) (heR hr0) rfl (hd) (Ix_nI (by omega)) dX2_throwFrom_5 ?_
  refine v_istore_n F dX2_throwFrom_6 rfl (by decide) (lv' := [(3, .int _), (0, .ref _), (1, .ref _), (2, .int _)]) rfl ?_
  refine v_aload_n F dX2_throwFrom_7 rfl 2 rfl ?_
  refine v_getN F (id_R hr0 (by decide) hj) (heR hr0) rfl uw_X0 0 (by decide) rfl rfl wf_X2_45 dX2_throwFrom_8 ?_
  refine v_aload_n F dX2_throwFrom_11 rfl 1 rfl ?_
  refine v_get F (id_R hr0 (by decide) (by decide)) (heR hr0) rfl uw_X2 4 (by decide) rfl rfl wf_X2_32 dX2_throwFrom_12 ?_
  refine v_topr (nI b) hbt ?_
  refine v_callNi F (As := [_]) (rest := []) rfl (c_X1_placeIn G hr0 hj hb h1 h8 hn) (Rv_P hr0 hj) wm_X2_106 rfl ⟨rfl, rfl, Nat.le_of_ble_eq_true rfl, Nat.le_of_ble_eq_true rfl, Nat.le_of_ble_eq_true rfl, Nat.le_of_ble_eq_true rfl, Nat.le_of_ble_eq_true rfl⟩ dX2_throwFrom_15 ?_
  refine v_istore F dX2_throwFrom_18 (by decide) (lv' := [(4, .int _), (3, .int _), (0, .ref _), (1, .ref _), (2, .int _)]) rfl ?_
  refine v_aload_n F dX2_throwFrom_20 rfl 3 rfl ?_
  refine v_getN F (id_R hr0 (by decide) hj) (heR hr0) rfl uw_X0 0 (by decide) rfl rfl wf_X2_45 dX2_throwFrom_21 ?_
  refine v_getN F (id_R hr0 (by decide) hj) (heR hr0) rfl uw_X1 0 (by decide) rfl rfl wf_X2_109 dX2_throwFrom_24 ?_
  refine v_iload F dX2_throwFrom_27 0 rfl ?_
  refine v_iald F (id_R hr0 (by decide) hj) (heR hr0) rfl (b % n) (Ix_nI (by omega)) dX2_throwFrom_29 ?_
  refine v_istore F dX2_throwFrom_30 (by decide) (lv' := [(5, .int _), (4, .int _), (3, .int _), (0, .ref _), (1, .ref _), (2, .int _)]) rfl ?_
  refine v_aload_n F dX2_throwFrom_32 rfl 3 rfl ?_
  refine v_iload_n F dX2_throwFrom_33 rfl 2 rfl ?_
  refine v_callVi F (As := [_]) (rest := []) rfl (c_X2_hasThing G hr0 _) (Rv_R hr0) wm_X2_112 rfl ⟨rfl, rfl, Nat.le_of_ble_eq_true rfl, Nat.le_of_ble_eq_true rfl, Nat.le_of_ble_eq_true rfl, Nat.le_of_ble_eq_true rfl, Nat.le_of_ble_eq_true rfl⟩ dX2_throwFrom_34 ?_
  refine v_if_eq F (tgt := 77) dX2_throwFrom_37 (by decide) (fun c37 => ?_) (fun c37 => ?_)
  · have := c37
    refine v_vret F hr dX2_throwFrom_77 ?_ rfl
    unfold fThrow
    first | (rw [if_pos c37]; done) | (rw [if_neg c37, if_pos c42]; done) | (rw [if_neg c37, if_neg c42]; done)
  · have := c37
    have hx := fHasT_ix hT h12 c37
    refine v_iload F dX2_throwFrom_40 0 rfl ?_
    refine v_if_le F (tgt := 77) dX2_throwFrom_42 (by decide) (fun c42 => ?_) (fun c42 => ?_)
    · have := c42
      refine v_vret F hr dX2_throwFrom_77 ?_ rfl
      unfold fThrow
      first | (rw [if_pos c37]; done) | (rw [if_neg c37, if_pos c42]; done) | (rw [if_neg c37, if_neg c42]; done)
    · have := c42
      refine v_aload_n F dX2_throwFrom_45 rfl 3 rfl ?_
      refine v_get F (id_R hr0 (by decide) (by decide)) (heR hr0) rfl uw_X2 1 (by decide) rfl rfl wf_X2_20 dX2_throwFrom_46 ?_
      refine v_iload_n F dX2_throwFrom_49 rfl 2 rfl ?_
      refine v_aaldT F hr0 ((σ 6 j hd).toNatClampNeg) (Ix_mono hx h12) dX2_throwFrom_50 ?_
      refine v_aload_n F dX2_throwFrom_51 rfl 4 rfl ?_
      refine v_getN F (id_R hr0 (by decide) hj) (heR hr0) rfl uw_X0 0 (by decide) rfl rfl wf_X2_45 dX2_throwFrom_52 ?_
      refine v_getN F (id_R hr0 (by decide) hj) (heR hr0) rfl uw_X1 1 (by decide) rfl rfl wf_X2_115 dX2_throwFrom_55 ?_
      refine v_iload F dX2_throwFrom_58 1 rfl ?_
      refine v_iald F (id_R hr0 (by decide) hj) (heR hr0) rfl (b % n) (Ix_nI (by omega)) dX2_throwFrom_60 ?_
      refine v_iload F dX2_throwFrom_61 0 rfl ?_
      refine v_aload_n F dX2_throwFrom_63 rfl 3 rfl ?_
      refine v_get F (id_R hr0 (by decide) (by decide)) (heR hr0) rfl uw_X2 4 (by decide) rfl rfl wf_X2_32 dX2_throwFrom_64 ?_
      refine v_callNv F (As := [_, _, _]) (rest := []) rfl (c_X3_fly G hr0 (Nat.lt_of_lt_of_le hx.2.2 h12) _ _ _) (Rv_T hr0 (show _ < 12 from Nat.lt_of_lt_of_le hx.2.2 h12)) wm_X2_118 rfl ⟨rfl, rfl, Nat.le_of_ble_eq_true rfl, Nat.le_of_ble_eq_true rfl, Nat.le_of_ble_eq_true rfl, Nat.le_of_ble_eq_true rfl, Nat.le_of_ble_eq_true rfl⟩ dX2_throwFrom_67 ?_
      refine v_aload_n F dX2_throwFrom_70 rfl 4 rfl ?_
      refine v_getN F (id_R hr0 (by decide) hj) (heR hr0) rfl uw_X0 1 (by decide) rfl rfl wf_X2_58 dX2_throwFrom_71 ?_
      refine v_iload_n F dX2_throwFrom_74 rfl 5 rfl ?_
      refine v_iconst F (v := (-1)) dX2_throwFrom_75 (by decide) ?_
      refine v_iastC F (id_R hr0 (by decide) hj) (celD_R hr0) rfl (hd) (Ix_nI (by omega)) (celD_R hr0) dX2_throwFrom_76 ?_
      refine v_vret F hr dX2_throwFrom_77 ?_ rfl
      unfold fThrow
      first | (rw [if_pos c37]; done) | (rw [if_neg c37, if_pos c42]; done) | (rw [if_neg c37, if_neg c42]; done)
set_option maxHeartbeats 4000000 in
set_option maxRecDepth 100000 in
theorem L_X2_playBeat (F : Fx p l s m args meth c cX2_playBeat 4 RX2 X) (G : Gx X l) {r : Nat} (hr0 : r < 2) {σ : Sg} {jc tc : Nat} {ln : Nat → Nat} (hS : Shp σ jc tc ln) {b : Nat} (hb : b < 2 ^ 31) (hbt : σ 0 0 4 = nI b) {acc : Int32} (K : V p l e rm_X2_playBeat s m args below meth c Q X 4 ex (uC M r (thL b ln σ jc)) lf 0 0 40 [(3, .int (nI jc)), (2, .int acc), (1, .int (nI (b % 2))), (0, .ref (X.2.1 r 0 0))] []) : ∀ (k q : Nat) (τ : Sg), k + q = jc → τ = thL b ln σ q → V p l e rm_X2_playBeat s m args below meth c Q X 4 ex (uC M r τ) lf 0 0 15 [(3, .int (nI q)), (2, .int acc), (1, .int (nI (b % 2))), (0, .ref (X.2.1 r 0 0))] [] := by
  have h12 := hS.2.1
  have h4 := hS.1
  intro k
  induction k with
  | zero =>
    intro q τ hq hτ
    obtain rfl : q = jc := by omega
    have hJ : τ 0 0 2 = nI q := by rw [hτ]; exact (Shp_th hS q).2.2.1
    refine v_iload_n F dX2_playBeat_15 rfl 0 rfl ?_
    refine v_aload_n F dX2_playBeat_16 rfl 3 rfl ?_
    refine v_get F (id_R hr0 (by decide) (by decide)) (heR hr0) rfl uw_X2 2 (by decide) rfl rfl wf_X2_25 dX2_playBeat_17 ?_
    refine v_topr (nI q) hJ ?_
    refine v_icmp_ge F (tgt := 40) dX2_playBeat_20 (by decide) (fun c20 => ?_) (fun h => absurd (nI_le (Nat.le_refl _) (by omega)) h)
    subst hτ
    exact K
  | succ k ih =>
    intro q τ hq hτ
    have hq4 : q < jc := by omega
    have hST : Shp τ jc tc ln := by rw [hτ]; exact Shp_th hS q
    have hBT : τ 0 0 4 = nI b := by rw [hτ]; exact (thL_k (by decide) (by decide) q).trans hbt
    refine v_iload_n F dX2_playBeat_15 rfl 0 rfl ?_
    refine v_aload_n F dX2_playBeat_16 rfl 3 rfl ?_
    refine v_get F (id_R hr0 (by decide) (by decide)) (heR hr0) rfl uw_X2 2 (by decide) rfl rfl wf_X2_25 dX2_playBeat_17 ?_
    refine v_topr (nI jc) hST.2.2.1 ?_
    refine v_icmp_ge F (tgt := 40) dX2_playBeat_20 (by decide) (fun h => absurd h (nI_ge (by omega) (by omega))) (fun c20 => ?_)
    refine v_aload_n F dX2_playBeat_23 rfl 3 rfl ?_
    refine v_aload_n F dX2_playBeat_24 rfl 3 rfl ?_
    refine v_get F (id_R hr0 (by decide) (by decide)) (heR hr0) rfl uw_X2 0 (by decide) rfl rfl wf_X2_11 dX2_playBeat_25 ?_
    refine v_iload_n F dX2_playBeat_28 rfl 0 rfl ?_
    refine v_aaldJ F hr0 (q) (Ix_nI (by omega)) dX2_playBeat_29 ?_
    refine v_iload_n F dX2_playBeat_30 rfl 2 rfl ?_
    refine v_callVv F (As := [_, _]) (rest := []) rfl (c_X2_throwFrom G hr0 h12 hST.2.2.2.1 (show q < 4 by omega) (hST.2.2.2.2 q hq4).1 (hST.2.2.2.2 q hq4).2.1 (hST.2.2.2.2 q hq4).2.2 hb hBT (Nat.mod_lt b (by decide))) (Rv_R hr0) wm_X2_79 rfl ⟨rfl, rfl, Nat.le_of_ble_eq_true rfl, Nat.le_of_ble_eq_true rfl, Nat.le_of_ble_eq_true rfl, Nat.le_of_ble_eq_true rfl, Nat.le_of_ble_eq_true rfl⟩ dX2_playBeat_31 ?_
    refine v_iinc F (k := 0) (nI (q + 1)) dX2_playBeat_34 rfl (iinc_nI q) (by decide) (lv' := [(3, .int _), (2, .int _), (1, .int _), (0, .ref _)]) rfl ?_
    refine v_goto F (tgt := 15) dX2_playBeat_37 (by decide) ?_
    refine ih (q + 1) _ (by omega) ?_
    show _ = fThrow (thL b ln σ q) q (b % ln q) (b % 2)
    rw [hτ]
set_option maxHeartbeats 4000000 in
set_option maxRecDepth 100000 in
theorem c_X2_playBeat {X : Cx} {l : Launch} (G : Gx X l) {M : Mem} {lf : Lf} {r : Nat} (hr0 : r < 2) {σ : Sg} {jc tc : Nat} {ln : Nat → Nat} (hS : Shp σ jc tc ln) {b : Nat} (hb : b < 2 ^ 31) (hbt : σ 0 0 4 = nI b) : CI X l yX2_playBeat (wsc yX2_playBeat cX2_playBeat 4 (some .int)) rm_X2_playBeat [.ref (X.2.1 r 0 0)] (uC M r σ) lf (fBeatR σ b tc) (uC M r (fBeat σ b jc tc ln)) lf 0 0 := by
  refine CI_of (lv := [(0, .ref _)]) G (by decide) (Nat.le_of_ble_eq_true rfl) rfl (fun p e s m args below meth c F hr => ?_)
  have F : Fx p l s m args meth c cX2_playBeat 4 RX2 X := F
  refine v_aload_n F dX2_playBeat_0 rfl 0 rfl ?_
  refine v_get F (id_R hr0 (by decide) (by decide)) (heR hr0) rfl uw_X2 4 (by decide) rfl rfl wf_X2_32 dX2_playBeat_1 ?_
  refine v_topr (nI b) hbt ?_
  refine v_iconst F (v := 1) dX2_playBeat_4 (by decide) ?_
  refine v_iand F dX2_playBeat_5 ?_
  refine v_topr (nI (b % 2)) ((pk_andN (m := 1) (by omega) 1 (by decide)).trans rfl) ?_
  refine v_istore_n F dX2_playBeat_6 rfl (by decide) (lv' := [(1, .int _), (0, .ref _)]) rfl ?_
  refine v_aload_n F dX2_playBeat_7 rfl 1 rfl ?_
  refine v_iload_n F dX2_playBeat_8 rfl 0 rfl ?_
  refine v_callVi F (As := [_]) (rest := []) rfl (c_X2_comeDown G hr0 hS (Nat.mod_lt b (by decide))) (Rv_R hr0) wm_X2_75 rfl ⟨rfl, rfl, Nat.le_of_ble_eq_true rfl, Nat.le_of_ble_eq_true rfl, Nat.le_of_ble_eq_true rfl, Nat.le_of_ble_eq_true rfl, Nat.le_of_ble_eq_true rfl⟩ dX2_playBeat_9 ?_
  refine v_gen (fun τ1 h1 => ?_)
  refine v_istore_n F dX2_playBeat_12 rfl (by decide) (lv' := [(2, .int _), (1, .int _), (0, .ref _)]) rfl ?_
  refine v_iconst F (v := nI 0) dX2_playBeat_13 (by decide) ?_
  refine v_istore_n F dX2_playBeat_14 rfl (by decide) (lv' := [(3, .int _), (2, .int _), (1, .int _), (0, .ref _)]) rfl ?_
  refine L_X2_playBeat F G hr0 (σ := τ1) (jc := jc) (tc := tc) (ln := ln) (by rw [h1]; exact Shp_dn hS tc) hb (by rw [h1]; exact (dnL_k (by decide) (by decide) (by decide) tc).trans hbt) ?_ jc 0 _ (Nat.add_zero jc) rfl
  · skip
    refine v_gen (fun τ2 h2 => ?_)
    refine v_aload_n F dX2_playBeat_40 rfl 3 rfl ?_
    refine v_dup F dX2_playBeat_41 rfl ?_
    refine v_get F (id_R hr0 (by decide) (by decide)) (heR hr0) rfl uw_X2 4 (by decide) rfl rfl wf_X2_32 dX2_playBeat_42 ?_
    refine v_topr (nI b) (by rw [h2, h1]; exact (thL_k (by decide) (by decide) jc).trans ((dnL_k (by decide) (by decide) (by decide) tc).trans hbt)) ?_
    refine v_iconst F (v := 1) dX2_playBeat_45 (by decide) ?_
    refine v_iadd F dX2_playBeat_46 ?_
    refine v_topr (nI (b + 1)) (nI_succ b).symm ?_
    refine v_putC F tyX2 tyX2_ok nmX2 (id_R hr0 (by decide) (by decide)) (celD_R hr0) rfl uw_X2 4 (by decide) rfl rfl (by decide +kernel) (celD_R hr0) (Nat.le_of_ble_eq_true rfl) wf_X2_32 dX2_playBeat_47 ?_
    refine v_iload_n F dX2_playBeat_50 rfl 1 rfl ?_
    refine v_iret F hr dX2_playBeat_51 rfl ?_ rfl
    rw [h2, h1]
    rfl
set_option maxHeartbeats 4000000 in
set_option maxRecDepth 100000 in
theorem L_X2_play (F : Fx p l s m args meth c cX2_play 4 RX2 X) (G : Gx X l) {r : Nat} (hr0 : r < 2) {σ : Sg} {jc tc : Nat} {ln : Nat → Nat} (hS : Shp σ jc tc ln) {b n : Nat} (hb : b + n < 2 ^ 31) (hbt : σ 0 0 4 = nI b) (K : V p l e rm_X2_play s m args below meth c Q X 4 ex (uC M r (plL b jc tc ln σ n)) lf 0 0 22 [(3, .int (nI n)), (2, .int (plR b jc tc ln σ n)), (0, .ref (X.2.1 r 0 0)), (1, .int (nI n))] []) : ∀ (k q : Nat) (τ : Sg) (acc : Int32), k + q = n → τ = plL b jc tc ln σ q → acc = plR b jc tc ln σ q → V p l e rm_X2_play s m args below meth c Q X 4 ex (uC M r τ) lf 0 0 4 [(3, .int (nI q)), (2, .int acc), (0, .ref (X.2.1 r 0 0)), (1, .int (nI n))] [] := by
  intro k
  induction k with
  | zero =>
    intro q τ acc hq hτ hacc
    obtain rfl : q = n := by omega
    refine v_iload_n F dX2_play_4 rfl 0 rfl ?_
    refine v_iload_n F dX2_play_5 rfl 3 rfl ?_
    refine v_icmp_ge F (tgt := 22) dX2_play_6 (by decide) (fun c6 => ?_) (fun h => absurd (nI_le (Nat.le_refl _) (by omega)) h)
    subst hτ; subst hacc
    exact K
  | succ k ih =>
    intro q τ acc hq hτ hacc
    have hST : Shp τ jc tc ln := by rw [hτ]; exact Shp_pl hS q
    have hBT : τ 0 0 4 = nI (b + q) := by rw [hτ]; exact plL_b hbt q
    refine v_iload_n F dX2_play_4 rfl 0 rfl ?_
    refine v_iload_n F dX2_play_5 rfl 3 rfl ?_
    refine v_icmp_ge F (tgt := 22) dX2_play_6 (by decide) (fun h => absurd h (nI_ge (by omega) (by omega))) (fun c6 => ?_)
    refine v_iload_n F dX2_play_9 rfl 1 rfl ?_
    refine v_aload_n F dX2_play_10 rfl 2 rfl ?_
    refine v_callVi F (As := []) (rest := [.int _]) rfl (c_X2_playBeat G hr0 hST (show b + q < 2 ^ 31 by omega) hBT) (Rv_R hr0) wm_X2_71 rfl ⟨rfl, rfl, Nat.le_of_ble_eq_true rfl, Nat.le_of_ble_eq_true rfl, Nat.le_of_ble_eq_true rfl, Nat.le_of_ble_eq_true rfl, Nat.le_of_ble_eq_true rfl⟩ dX2_play_11 ?_
    refine v_iadd F dX2_play_14 ?_
    refine v_istore_n F dX2_play_15 rfl (by decide) (lv' := [(2, .int _), (3, .int _), (0, .ref _), (1, .int _)]) rfl ?_
    refine v_iinc F (k := 1) (nI (q + 1)) dX2_play_16 rfl (iinc_nI q) (by decide) (lv' := [(3, .int _), (2, .int _), (0, .ref _), (1, .int _)]) rfl ?_
    refine v_goto F (tgt := 4) dX2_play_19 (by decide) ?_
    refine ih (q + 1) _ _ (by omega) ?_ ?_
    · show _ = fBeat (plL b jc tc ln σ q) (b + q) jc tc ln
      rw [hτ]
    · show _ = plR b jc tc ln σ q + fBeatR (plL b jc tc ln σ q) (b + q) tc
      rw [hacc, hτ]
set_option maxHeartbeats 4000000 in
set_option maxRecDepth 100000 in
theorem c_X2_play {X : Cx} {l : Launch} (G : Gx X l) {M : Mem} {lf : Lf} {r : Nat} (hr0 : r < 2) {σ : Sg} {jc tc : Nat} {ln : Nat → Nat} (hS : Shp σ jc tc ln) {b n : Nat} (hb : b + n < 2 ^ 31) (hbt : σ 0 0 4 = nI b) : CI X l yX2_play (wsc yX2_play cX2_play 4 (some .int)) rm_X2_play [.ref (X.2.1 r 0 0), .int (nI n)] (uC M r σ) lf (plR b jc tc ln σ n) (uC M r (plL b jc tc ln σ n)) lf 0 0 := by
  refine CI_of (lv := [(0, .ref _), (1, .int _)]) G (by decide) (Nat.le_of_ble_eq_true rfl) rfl (fun p e s m args below meth c F hr => ?_)
  have F : Fx p l s m args meth c cX2_play 4 RX2 X := F
  refine v_iconst F (v := 0) dX2_play_0 (by decide) ?_
  refine v_istore_n F dX2_play_1 rfl (by decide) (lv' := [(2, .int _), (0, .ref _), (1, .int _)]) rfl ?_
  refine v_iconst F (v := nI 0) dX2_play_2 (by decide) ?_
  refine v_istore_n F dX2_play_3 rfl (by decide) (lv' := [(3, .int _), (2, .int _), (0, .ref _), (1, .int _)]) rfl ?_
  refine L_X2_play F G hr0 hS hb hbt ?_ n 0 _ _ (Nat.add_zero n) rfl rfl
  · skip
    refine v_iload_n F dX2_play_22 rfl 1 rfl ?_
    exact v_iret F hr dX2_play_23 rfl rfl rfl
set_option maxHeartbeats 4000000 in
set_option maxRecDepth 100000 in
theorem c_X2_tellThing_0 {X : Cx} {l : Launch} (G : Gx X l) {M : Mem} {lf : Lf} {r : Nat} (hr0 : r < 2) {σ : Sg} {jc tc : Nat} {ln : Nat → Nat} (hS : Shp σ jc tc ln) {k : Nat} (hk : k < tc) : CI X l yX2_tellThing (wsc yX2_tellThing cX2_tellThing 4 (some .int)) rm_X2_tellThing [.ref (X.2.1 r 0 0), .int (nI k), .int (nI 0)] (uC M r σ) lf (fTellT σ k 0) (uC M r σ) lf 0 0 := by
  refine CI_of (lv := [(0, .ref _), (1, .int _), (2, .int _)]) G (by decide) (Nat.le_of_ble_eq_true rfl) rfl (fun p e s m args below meth c F hr => ?_)
  have F : Fx p l s m args meth c cX2_tellThing 4 RX2 X := F
  have h12 := hS.2.1
  refine v_aload_n F dX2_tellThing_0 rfl 0 rfl ?_
  refine v_get F (id_R hr0 (by decide) (by decide)) (heR hr0) rfl uw_X2 1 (by decide) rfl rfl wf_X2_20 dX2_tellThing_1 ?_
  refine v_iload_n F dX2_tellThing_4 rfl 1 rfl ?_
  refine v_aaldT F hr0 (k) (Ix_nI (by omega)) dX2_tellThing_5 ?_
  refine v_astore_n F dX2_tellThing_6 rfl (by decide) (lv' := [(3, .ref _), (0, .ref _), (1, .int _), (2, .int _)]) rfl ?_
  refine v_iload_n F dX2_tellThing_7 rfl 3 rfl ?_
  refine v_tableIn F (tgt := 48) dX2_tellThing_8 (by decide) (by decide) rfl (by decide) ?_
  refine v_aload_n F dX2_tellThing_48 rfl 0 rfl ?_
  refine v_getN F (id_R hr0 (by decide) (show k < 12 by omega)) (heR hr0) rfl uw_X3 0 (by decide) rfl rfl wf_X2_55 dX2_tellThing_49 ?_
  refine v_iret F hr dX2_tellThing_52 ?_ rfl rfl
  first | rfl | (simp_all [fTellT]; done)
set_option maxHeartbeats 4000000 in
set_option maxRecDepth 100000 in
theorem c_X2_tellThing_1 {X : Cx} {l : Launch} (G : Gx X l) {M : Mem} {lf : Lf} {r : Nat} (hr0 : r < 2) {σ : Sg} {jc tc : Nat} {ln : Nat → Nat} (hS : Shp σ jc tc ln) {k : Nat} (hk : k < tc) : CI X l yX2_tellThing (wsc yX2_tellThing cX2_tellThing 4 (some .int)) rm_X2_tellThing [.ref (X.2.1 r 0 0), .int (nI k), .int (nI 1)] (uC M r σ) lf (fTellT σ k 1) (uC M r σ) lf 0 0 := by
  refine CI_of (lv := [(0, .ref _), (1, .int _), (2, .int _)]) G (by decide) (Nat.le_of_ble_eq_true rfl) rfl (fun p e s m args below meth c F hr => ?_)
  have F : Fx p l s m args meth c cX2_tellThing 4 RX2 X := F
  have h12 := hS.2.1
  refine v_aload_n F dX2_tellThing_0 rfl 0 rfl ?_
  refine v_get F (id_R hr0 (by decide) (by decide)) (heR hr0) rfl uw_X2 1 (by decide) rfl rfl wf_X2_20 dX2_tellThing_1 ?_
  refine v_iload_n F dX2_tellThing_4 rfl 1 rfl ?_
  refine v_aaldT F hr0 (k) (Ix_nI (by omega)) dX2_tellThing_5 ?_
  refine v_astore_n F dX2_tellThing_6 rfl (by decide) (lv' := [(3, .ref _), (0, .ref _), (1, .int _), (2, .int _)]) rfl ?_
  refine v_iload_n F dX2_tellThing_7 rfl 3 rfl ?_
  refine v_tableIn F (tgt := 53) dX2_tellThing_8 (by decide) (by decide) rfl (by decide) ?_
  refine v_aload_n F dX2_tellThing_53 rfl 0 rfl ?_
  refine v_getN F (id_R hr0 (by decide) (show k < 12 by omega)) (heR hr0) rfl uw_X3 1 (by decide) rfl rfl wf_X2_62 dX2_tellThing_54 ?_
  refine v_iret F hr dX2_tellThing_57 ?_ rfl rfl
  first | rfl | (simp_all [fTellT]; done)
set_option maxHeartbeats 4000000 in
set_option maxRecDepth 100000 in
theorem c_X2_tellThing_2 {X : Cx} {l : Launch} (G : Gx X l) {M : Mem} {lf : Lf} {r : Nat} (hr0 : r < 2) {σ : Sg} {jc tc : Nat} {ln : Nat → Nat} (hS : Shp σ jc tc ln) {k : Nat} (hk : k < tc) : CI X l yX2_tellThing (wsc yX2_tellThing cX2_tellThing 4 (some .int)) rm_X2_tellThing [.ref (X.2.1 r 0 0), .int (nI k), .int (nI 2)] (uC M r σ) lf (fTellT σ k 2) (uC M r σ) lf 0 0 := by
  refine CI_of (lv := [(0, .ref _), (1, .int _), (2, .int _)]) G (by decide) (Nat.le_of_ble_eq_true rfl) rfl (fun p e s m args below meth c F hr => ?_)
  have F : Fx p l s m args meth c cX2_tellThing 4 RX2 X := F
  have h12 := hS.2.1
  refine v_aload_n F dX2_tellThing_0 rfl 0 rfl ?_
  refine v_get F (id_R hr0 (by decide) (by decide)) (heR hr0) rfl uw_X2 1 (by decide) rfl rfl wf_X2_20 dX2_tellThing_1 ?_
  refine v_iload_n F dX2_tellThing_4 rfl 1 rfl ?_
  refine v_aaldT F hr0 (k) (Ix_nI (by omega)) dX2_tellThing_5 ?_
  refine v_astore_n F dX2_tellThing_6 rfl (by decide) (lv' := [(3, .ref _), (0, .ref _), (1, .int _), (2, .int _)]) rfl ?_
  refine v_iload_n F dX2_tellThing_7 rfl 3 rfl ?_
  refine v_tableIn F (tgt := 58) dX2_tellThing_8 (by decide) (by decide) rfl (by decide) ?_
  refine v_aload_n F dX2_tellThing_58 rfl 0 rfl ?_
  refine v_getN F (id_R hr0 (by decide) (show k < 12 by omega)) (heR hr0) rfl uw_X3 2 (by decide) rfl rfl wf_X2_65 dX2_tellThing_59 ?_
  refine v_iret F hr dX2_tellThing_62 ?_ rfl rfl
  first | rfl | (simp_all [fTellT]; done)
set_option maxHeartbeats 4000000 in
set_option maxRecDepth 100000 in
theorem c_X2_tellThing_3 {X : Cx} {l : Launch} (G : Gx X l) {M : Mem} {lf : Lf} {r : Nat} (hr0 : r < 2) {σ : Sg} {jc tc : Nat} {ln : Nat → Nat} (hS : Shp σ jc tc ln) {k : Nat} (hk : k < tc) : CI X l yX2_tellThing (wsc yX2_tellThing cX2_tellThing 4 (some .int)) rm_X2_tellThing [.ref (X.2.1 r 0 0), .int (nI k), .int (nI 3)] (uC M r σ) lf (fTellT σ k 3) (uC M r σ) lf 0 0 := by
  refine CI_of (lv := [(0, .ref _), (1, .int _), (2, .int _)]) G (by decide) (Nat.le_of_ble_eq_true rfl) rfl (fun p e s m args below meth c F hr => ?_)
  have F : Fx p l s m args meth c cX2_tellThing 4 RX2 X := F
  have h12 := hS.2.1
  refine v_aload_n F dX2_tellThing_0 rfl 0 rfl ?_
  refine v_get F (id_R hr0 (by decide) (by decide)) (heR hr0) rfl uw_X2 1 (by decide) rfl rfl wf_X2_20 dX2_tellThing_1 ?_
  refine v_iload_n F dX2_tellThing_4 rfl 1 rfl ?_
  refine v_aaldT F hr0 (k) (Ix_nI (by omega)) dX2_tellThing_5 ?_
  refine v_astore_n F dX2_tellThing_6 rfl (by decide) (lv' := [(3, .ref _), (0, .ref _), (1, .int _), (2, .int _)]) rfl ?_
  refine v_iload_n F dX2_tellThing_7 rfl 3 rfl ?_
  refine v_tableIn F (tgt := 63) dX2_tellThing_8 (by decide) (by decide) rfl (by decide) ?_
  refine v_aload_n F dX2_tellThing_63 rfl 0 rfl ?_
  refine v_getN F (id_R hr0 (by decide) (show k < 12 by omega)) (heR hr0) rfl uw_X3 3 (by decide) rfl rfl wf_X2_68 dX2_tellThing_64 ?_
  refine v_iret F hr dX2_tellThing_67 ?_ rfl rfl
  first | rfl | (simp_all [fTellT]; done)
set_option maxHeartbeats 4000000 in
set_option maxRecDepth 100000 in
theorem c_X2_tellThing_4 {X : Cx} {l : Launch} (G : Gx X l) {M : Mem} {lf : Lf} {r : Nat} (hr0 : r < 2) {σ : Sg} {jc tc : Nat} {ln : Nat → Nat} (hS : Shp σ jc tc ln) {k : Nat} (hk : k < tc) : CI X l yX2_tellThing (wsc yX2_tellThing cX2_tellThing 4 (some .int)) rm_X2_tellThing [.ref (X.2.1 r 0 0), .int (nI k), .int (nI 4)] (uC M r σ) lf (fTellT σ k 4) (uC M r σ) lf 0 0 := by
  refine CI_of (lv := [(0, .ref _), (1, .int _), (2, .int _)]) G (by decide) (Nat.le_of_ble_eq_true rfl) rfl (fun p e s m args below meth c F hr => ?_)
  have F : Fx p l s m args meth c cX2_tellThing 4 RX2 X := F
  have h12 := hS.2.1
  refine v_aload_n F dX2_tellThing_0 rfl 0 rfl ?_
  refine v_get F (id_R hr0 (by decide) (by decide)) (heR hr0) rfl uw_X2 1 (by decide) rfl rfl wf_X2_20 dX2_tellThing_1 ?_
  refine v_iload_n F dX2_tellThing_4 rfl 1 rfl ?_
  refine v_aaldT F hr0 (k) (Ix_nI (by omega)) dX2_tellThing_5 ?_
  refine v_astore_n F dX2_tellThing_6 rfl (by decide) (lv' := [(3, .ref _), (0, .ref _), (1, .int _), (2, .int _)]) rfl ?_
  refine v_iload_n F dX2_tellThing_7 rfl 3 rfl ?_
  refine v_tableIn F (tgt := 68) dX2_tellThing_8 (by decide) (by decide) rfl (by decide) ?_
  refine v_aload_n F dX2_tellThing_68 rfl 0 rfl ?_
  refine v_getN F (id_R hr0 (by decide) (show k < 12 by omega)) (heR hr0) rfl uw_X3 1 (by decide) rfl rfl wf_X2_62 dX2_tellThing_69 ?_
  refine v_iconst F (v := 2) dX2_tellThing_72 (by decide) ?_
  refine v_icmp_ne F (tgt := 88) dX2_tellThing_73 (by decide) (fun c73 => ?_) (fun c73 => ?_)
  · have := c73
    refine v_iconst F (v := (-1)) dX2_tellThing_88 (by decide) ?_
    refine v_iret F hr dX2_tellThing_89 ?_ rfl rfl
    first | rfl | (simp_all [fTellT]; done)
  · have := c73
    refine v_aload_n F dX2_tellThing_76 rfl 0 rfl ?_
    refine v_getN F (id_R hr0 (by decide) (show k < 12 by omega)) (heR hr0) rfl uw_X3 4 (by decide) rfl rfl wf_X2_130 dX2_tellThing_77 ?_
    refine v_aload_n F dX2_tellThing_80 rfl 1 rfl ?_
    refine v_get F (id_R hr0 (by decide) (by decide)) (heR hr0) rfl uw_X2 4 (by decide) rfl rfl wf_X2_32 dX2_tellThing_81 ?_
    refine v_isub F dX2_tellThing_84 ?_
    refine v_goto F (tgt := 89) dX2_tellThing_85 (by decide) ?_
    refine v_iret F hr dX2_tellThing_89 ?_ rfl rfl
    first | rfl | (simp_all [fTellT]; done)
set_option maxHeartbeats 4000000 in
set_option maxRecDepth 100000 in
theorem c_X2_tellThing_5 {X : Cx} {l : Launch} (G : Gx X l) {M : Mem} {lf : Lf} {r : Nat} (hr0 : r < 2) {σ : Sg} {jc tc : Nat} {ln : Nat → Nat} (hS : Shp σ jc tc ln) {k : Nat} (hk : k < tc) : CI X l yX2_tellThing (wsc yX2_tellThing cX2_tellThing 4 (some .int)) rm_X2_tellThing [.ref (X.2.1 r 0 0), .int (nI k), .int (nI 5)] (uC M r σ) lf (fTellT σ k 5) (uC M r σ) lf 0 0 := by
  refine CI_of (lv := [(0, .ref _), (1, .int _), (2, .int _)]) G (by decide) (Nat.le_of_ble_eq_true rfl) rfl (fun p e s m args below meth c F hr => ?_)
  have F : Fx p l s m args meth c cX2_tellThing 4 RX2 X := F
  have h12 := hS.2.1
  refine v_aload_n F dX2_tellThing_0 rfl 0 rfl ?_
  refine v_get F (id_R hr0 (by decide) (by decide)) (heR hr0) rfl uw_X2 1 (by decide) rfl rfl wf_X2_20 dX2_tellThing_1 ?_
  refine v_iload_n F dX2_tellThing_4 rfl 1 rfl ?_
  refine v_aaldT F hr0 (k) (Ix_nI (by omega)) dX2_tellThing_5 ?_
  refine v_astore_n F dX2_tellThing_6 rfl (by decide) (lv' := [(3, .ref _), (0, .ref _), (1, .int _), (2, .int _)]) rfl ?_
  refine v_iload_n F dX2_tellThing_7 rfl 3 rfl ?_
  refine v_tableIn F (tgt := 90) dX2_tellThing_8 (by decide) (by decide) rfl (by decide) ?_
  refine v_aload_n F dX2_tellThing_90 rfl 0 rfl ?_
  refine v_getN F (id_R hr0 (by decide) (show k < 12 by omega)) (heR hr0) rfl uw_X3 6 (by decide) rfl rfl wf_X2_121 dX2_tellThing_91 ?_
  refine v_iret F hr dX2_tellThing_94 ?_ rfl rfl
  first | rfl | (simp_all [fTellT]; done)
set_option maxHeartbeats 4000000 in
set_option maxRecDepth 100000 in
theorem c_X2_tellThing_6 {X : Cx} {l : Launch} (G : Gx X l) {M : Mem} {lf : Lf} {r : Nat} (hr0 : r < 2) {σ : Sg} {jc tc : Nat} {ln : Nat → Nat} (hS : Shp σ jc tc ln) {k : Nat} (hk : k < tc) : CI X l yX2_tellThing (wsc yX2_tellThing cX2_tellThing 4 (some .int)) rm_X2_tellThing [.ref (X.2.1 r 0 0), .int (nI k), .int (nI 6)] (uC M r σ) lf (fTellT σ k 6) (uC M r σ) lf 0 0 := by
  refine CI_of (lv := [(0, .ref _), (1, .int _), (2, .int _)]) G (by decide) (Nat.le_of_ble_eq_true rfl) rfl (fun p e s m args below meth c F hr => ?_)
  have F : Fx p l s m args meth c cX2_tellThing 4 RX2 X := F
  have h12 := hS.2.1
  refine v_aload_n F dX2_tellThing_0 rfl 0 rfl ?_
  refine v_get F (id_R hr0 (by decide) (by decide)) (heR hr0) rfl uw_X2 1 (by decide) rfl rfl wf_X2_20 dX2_tellThing_1 ?_
  refine v_iload_n F dX2_tellThing_4 rfl 1 rfl ?_
  refine v_aaldT F hr0 (k) (Ix_nI (by omega)) dX2_tellThing_5 ?_
  refine v_astore_n F dX2_tellThing_6 rfl (by decide) (lv' := [(3, .ref _), (0, .ref _), (1, .int _), (2, .int _)]) rfl ?_
  refine v_iload_n F dX2_tellThing_7 rfl 3 rfl ?_
  refine v_tableOut F (tgt := 95) dX2_tellThing_8 (Or.inr (by decide)) (by decide) ?_
  refine v_aload_n F dX2_tellThing_95 rfl 0 rfl ?_
  refine v_getN F (id_R hr0 (by decide) (show k < 12 by omega)) (heR hr0) rfl uw_X3 7 (by decide) rfl rfl wf_X2_124 dX2_tellThing_96 ?_
  refine v_iret F hr dX2_tellThing_99 ?_ rfl rfl
  first | rfl | (simp_all [fTellT]; done)
set_option maxHeartbeats 4000000 in
set_option maxRecDepth 100000 in
theorem c_X2_tellJuggler_0 {X : Cx} {l : Launch} (G : Gx X l) {M : Mem} {lf : Lf} {r : Nat} (hr0 : r < 2) {σ : Sg} {jc tc : Nat} {ln : Nat → Nat} (hS : Shp σ jc tc ln) {j : Nat} (hj : j < jc) : CI X l yX2_tellJuggler (wsc yX2_tellJuggler cX2_tellJuggler 4 (some .int)) rm_X2_tellJuggler [.ref (X.2.1 r 0 0), .int (nI j), .int (nI 0)] (uC M r σ) lf (fTellJ σ tc j 0) (uC M r σ) lf 0 0 := by
  refine CI_of (lv := [(0, .ref _), (1, .int _), (2, .int _)]) G (by decide) (Nat.le_of_ble_eq_true rfl) rfl (fun p e s m args below meth c F hr => ?_)
  have F : Fx p l s m args meth c cX2_tellJuggler 4 RX2 X := F
  have h4 := hS.1
  refine v_aload_n F dX2_tellJuggler_0 rfl 0 rfl ?_
  refine v_get F (id_R hr0 (by decide) (by decide)) (heR hr0) rfl uw_X2 0 (by decide) rfl rfl wf_X2_11 dX2_tellJuggler_1 ?_
  refine v_iload_n F dX2_tellJuggler_4 rfl 1 rfl ?_
  refine v_aaldJ F hr0 (j) (Ix_nI (by omega)) dX2_tellJuggler_5 ?_
  refine v_astore_n F dX2_tellJuggler_6 rfl (by decide) (lv' := [(3, .ref _), (0, .ref _), (1, .int _), (2, .int _)]) rfl ?_
  refine v_iload_n F dX2_tellJuggler_7 rfl 3 rfl ?_
  refine v_tableIn F (tgt := 48) dX2_tellJuggler_8 (by decide) (by decide) rfl (by decide) ?_
  refine v_aload_n F dX2_tellJuggler_48 rfl 0 rfl ?_
  refine v_getN F (id_R hr0 (by decide) (show j < 4 by omega)) (heR hr0) rfl uw_X0 2 (by decide) rfl rfl wf_X2_42 dX2_tellJuggler_49 ?_
  exact v_iret F hr dX2_tellJuggler_52 rfl rfl rfl
set_option maxHeartbeats 4000000 in
set_option maxRecDepth 100000 in
theorem c_X2_tellJuggler_1 {X : Cx} {l : Launch} (G : Gx X l) {M : Mem} {lf : Lf} {r : Nat} (hr0 : r < 2) {σ : Sg} {jc tc : Nat} {ln : Nat → Nat} (hS : Shp σ jc tc ln) {j : Nat} (hj : j < jc) : CI X l yX2_tellJuggler (wsc yX2_tellJuggler cX2_tellJuggler 4 (some .int)) rm_X2_tellJuggler [.ref (X.2.1 r 0 0), .int (nI j), .int (nI 1)] (uC M r σ) lf (fTellJ σ tc j 1) (uC M r σ) lf 0 0 := by
  refine CI_of (lv := [(0, .ref _), (1, .int _), (2, .int _)]) G (by decide) (Nat.le_of_ble_eq_true rfl) rfl (fun p e s m args below meth c F hr => ?_)
  have F : Fx p l s m args meth c cX2_tellJuggler 4 RX2 X := F
  have h4 := hS.1
  refine v_aload_n F dX2_tellJuggler_0 rfl 0 rfl ?_
  refine v_get F (id_R hr0 (by decide) (by decide)) (heR hr0) rfl uw_X2 0 (by decide) rfl rfl wf_X2_11 dX2_tellJuggler_1 ?_
  refine v_iload_n F dX2_tellJuggler_4 rfl 1 rfl ?_
  refine v_aaldJ F hr0 (j) (Ix_nI (by omega)) dX2_tellJuggler_5 ?_
  refine v_astore_n F dX2_tellJuggler_6 rfl (by decide) (lv' := [(3, .ref _), (0, .ref _), (1, .int _), (2, .int _)]) rfl ?_
  refine v_iload_n F dX2_tellJuggler_7 rfl 3 rfl ?_
  refine v_tableIn F (tgt := 53) dX2_tellJuggler_8 (by decide) (by decide) rfl (by decide) ?_
  refine v_aload_n F dX2_tellJuggler_53 rfl 0 rfl ?_
  refine v_getN F (id_R hr0 (by decide) (show j < 4 by omega)) (heR hr0) rfl uw_X0 3 (by decide) rfl rfl wf_X2_127 dX2_tellJuggler_54 ?_
  exact v_iret F hr dX2_tellJuggler_57 rfl rfl rfl
set_option maxHeartbeats 4000000 in
set_option maxRecDepth 100000 in
theorem c_X2_tellJuggler_2 {X : Cx} {l : Launch} (G : Gx X l) {M : Mem} {lf : Lf} {r : Nat} (hr0 : r < 2) {σ : Sg} {jc tc : Nat} {ln : Nat → Nat} (hS : Shp σ jc tc ln) {j : Nat} (hj : j < jc) : CI X l yX2_tellJuggler (wsc yX2_tellJuggler cX2_tellJuggler 4 (some .int)) rm_X2_tellJuggler [.ref (X.2.1 r 0 0), .int (nI j), .int (nI 2)] (uC M r σ) lf (fTellJ σ tc j 2) (uC M r σ) lf 0 0 := by
  refine CI_of (lv := [(0, .ref _), (1, .int _), (2, .int _)]) G (by decide) (Nat.le_of_ble_eq_true rfl) rfl (fun p e s m args below meth c F hr => ?_)
  have F : Fx p l s m args meth c cX2_tellJuggler 4 RX2 X := F
  have h4 := hS.1
  refine v_aload_n F dX2_tellJuggler_0 rfl 0 rfl ?_
  refine v_get F (id_R hr0 (by decide) (by decide)) (heR hr0) rfl uw_X2 0 (by decide) rfl rfl wf_X2_11 dX2_tellJuggler_1 ?_
  refine v_iload_n F dX2_tellJuggler_4 rfl 1 rfl ?_
  refine v_aaldJ F hr0 (j) (Ix_nI (by omega)) dX2_tellJuggler_5 ?_
  refine v_astore_n F dX2_tellJuggler_6 rfl (by decide) (lv' := [(3, .ref _), (0, .ref _), (1, .int _), (2, .int _)]) rfl ?_
  refine v_iload_n F dX2_tellJuggler_7 rfl 3 rfl ?_
  refine v_tableIn F (tgt := 58) dX2_tellJuggler_8 (by decide) (by decide) rfl (by decide) ?_
  refine v_aload_n F dX2_tellJuggler_58 rfl 0 rfl ?_
  refine v_getN F (id_R hr0 (by decide) (show j < 4 by omega)) (heR hr0) rfl uw_X0 1 (by decide) rfl rfl wf_X2_58 dX2_tellJuggler_59 ?_
  refine v_iconst F (v := 0) dX2_tellJuggler_62 (by decide) ?_
  refine v_iald F (id_R hr0 (by decide) (show j < 4 by omega)) (heR hr0) rfl (0) ⟨by decide, by decide, by decide⟩ dX2_tellJuggler_63 ?_
  exact v_iret F hr dX2_tellJuggler_64 rfl rfl rfl
set_option maxHeartbeats 4000000 in
set_option maxRecDepth 100000 in
theorem c_X2_tellJuggler_3 {X : Cx} {l : Launch} (G : Gx X l) {M : Mem} {lf : Lf} {r : Nat} (hr0 : r < 2) {σ : Sg} {jc tc : Nat} {ln : Nat → Nat} (hS : Shp σ jc tc ln) {j : Nat} (hj : j < jc) : CI X l yX2_tellJuggler (wsc yX2_tellJuggler cX2_tellJuggler 4 (some .int)) rm_X2_tellJuggler [.ref (X.2.1 r 0 0), .int (nI j), .int (nI 3)] (uC M r σ) lf (fTellJ σ tc j 3) (uC M r σ) lf 0 0 := by
  refine CI_of (lv := [(0, .ref _), (1, .int _), (2, .int _)]) G (by decide) (Nat.le_of_ble_eq_true rfl) rfl (fun p e s m args below meth c F hr => ?_)
  have F : Fx p l s m args meth c cX2_tellJuggler 4 RX2 X := F
  have h4 := hS.1
  refine v_aload_n F dX2_tellJuggler_0 rfl 0 rfl ?_
  refine v_get F (id_R hr0 (by decide) (by decide)) (heR hr0) rfl uw_X2 0 (by decide) rfl rfl wf_X2_11 dX2_tellJuggler_1 ?_
  refine v_iload_n F dX2_tellJuggler_4 rfl 1 rfl ?_
  refine v_aaldJ F hr0 (j) (Ix_nI (by omega)) dX2_tellJuggler_5 ?_
  refine v_astore_n F dX2_tellJuggler_6 rfl (by decide) (lv' := [(3, .ref _), (0, .ref _), (1, .int _), (2, .int _)]) rfl ?_
  refine v_iload_n F dX2_tellJuggler_7 rfl 3 rfl ?_
  refine v_tableIn F (tgt := 65) dX2_tellJuggler_8 (by decide) (by decide) rfl (by decide) ?_
  refine v_aload_n F dX2_tellJuggler_65 rfl 0 rfl ?_
  refine v_getN F (id_R hr0 (by decide) (show j < 4 by omega)) (heR hr0) rfl uw_X0 1 (by decide) rfl rfl wf_X2_58 dX2_tellJuggler_66 ?_
  refine v_iconst F (v := 1) dX2_tellJuggler_69 (by decide) ?_
  refine v_iald F (id_R hr0 (by decide) (show j < 4 by omega)) (heR hr0) rfl (1) ⟨by decide, by decide, by decide⟩ dX2_tellJuggler_70 ?_
  exact v_iret F hr dX2_tellJuggler_71 rfl rfl rfl
set_option maxHeartbeats 4000000 in
set_option maxRecDepth 100000 in
theorem c_X2_tellJuggler_4 {X : Cx} {l : Launch} (G : Gx X l) {M : Mem} {lf : Lf} {r : Nat} (hr0 : r < 2) {σ : Sg} {jc tc : Nat} {ln : Nat → Nat} (hS : Shp σ jc tc ln) {j : Nat} (hj : j < jc) : CI X l yX2_tellJuggler (wsc yX2_tellJuggler cX2_tellJuggler 4 (some .int)) rm_X2_tellJuggler [.ref (X.2.1 r 0 0), .int (nI j), .int (nI 4)] (uC M r σ) lf (fTellJ σ tc j 4) (uC M r σ) lf 0 0 := by
  refine CI_of (lv := [(0, .ref _), (1, .int _), (2, .int _)]) G (by decide) (Nat.le_of_ble_eq_true rfl) rfl (fun p e s m args below meth c F hr => ?_)
  have F : Fx p l s m args meth c cX2_tellJuggler 4 RX2 X := F
  have h4 := hS.1
  refine v_aload_n F dX2_tellJuggler_0 rfl 0 rfl ?_
  refine v_get F (id_R hr0 (by decide) (by decide)) (heR hr0) rfl uw_X2 0 (by decide) rfl rfl wf_X2_11 dX2_tellJuggler_1 ?_
  refine v_iload_n F dX2_tellJuggler_4 rfl 1 rfl ?_
  refine v_aaldJ F hr0 (j) (Ix_nI (by omega)) dX2_tellJuggler_5 ?_
  refine v_astore_n F dX2_tellJuggler_6 rfl (by decide) (lv' := [(3, .ref _), (0, .ref _), (1, .int _), (2, .int _)]) rfl ?_
  refine v_iload_n F dX2_tellJuggler_7 rfl 3 rfl ?_
  refine v_tableIn F (tgt := 72) dX2_tellJuggler_8 (by decide) (by decide) rfl (by decide) ?_
  refine v_aload_n F dX2_tellJuggler_72 rfl 0 rfl ?_
  refine v_getN F (id_R hr0 (by decide) (show j < 4 by omega)) (heR hr0) rfl uw_X0 0 (by decide) rfl rfl wf_X2_45 dX2_tellJuggler_73 ?_
  refine v_getN F (id_R hr0 (by decide) (show j < 4 by omega)) (heR hr0) rfl uw_X1 2 (by decide) rfl rfl wf_X2_133 dX2_tellJuggler_76 ?_
  exact v_iret F hr dX2_tellJuggler_79 rfl rfl rfl
set_option maxHeartbeats 4000000 in
set_option maxRecDepth 100000 in
theorem c_X2_tellJuggler_5 {X : Cx} {l : Launch} (G : Gx X l) {M : Mem} {lf : Lf} {r : Nat} (hr0 : r < 2) {σ : Sg} {jc tc : Nat} {ln : Nat → Nat} (hS : Shp σ jc tc ln) {j : Nat} (hj : j < jc) : CI X l yX2_tellJuggler (wsc yX2_tellJuggler cX2_tellJuggler 4 (some .int)) rm_X2_tellJuggler [.ref (X.2.1 r 0 0), .int (nI j), .int (nI 5)] (uC M r σ) lf (fTellJ σ tc j 5) (uC M r σ) lf 0 0 := by
  refine CI_of (lv := [(0, .ref _), (1, .int _), (2, .int _)]) G (by decide) (Nat.le_of_ble_eq_true rfl) rfl (fun p e s m args below meth c F hr => ?_)
  have F : Fx p l s m args meth c cX2_tellJuggler 4 RX2 X := F
  have h4 := hS.1
  refine v_aload_n F dX2_tellJuggler_0 rfl 0 rfl ?_
  refine v_get F (id_R hr0 (by decide) (by decide)) (heR hr0) rfl uw_X2 0 (by decide) rfl rfl wf_X2_11 dX2_tellJuggler_1 ?_
  refine v_iload_n F dX2_tellJuggler_4 rfl 1 rfl ?_
  refine v_aaldJ F hr0 (j) (Ix_nI (by omega)) dX2_tellJuggler_5 ?_
  refine v_astore_n F dX2_tellJuggler_6 rfl (by decide) (lv' := [(3, .ref _), (0, .ref _), (1, .int _), (2, .int _)]) rfl ?_
  refine v_iload_n F dX2_tellJuggler_7 rfl 3 rfl ?_
  refine v_tableIn F (tgt := 80) dX2_tellJuggler_8 (by decide) (by decide) rfl (by decide) ?_
  refine v_aload_n F dX2_tellJuggler_80 rfl 1 rfl ?_
  refine v_iload_n F dX2_tellJuggler_81 rfl 2 rfl ?_
  refine v_callVi F (As := [_]) (rest := []) rfl (c_X2_thingsFlyingTo G hr0 hS _) (Rv_R hr0) wm_X2_136 rfl ⟨rfl, rfl, Nat.le_of_ble_eq_true rfl, Nat.le_of_ble_eq_true rfl, Nat.le_of_ble_eq_true rfl, Nat.le_of_ble_eq_true rfl, Nat.le_of_ble_eq_true rfl⟩ dX2_tellJuggler_82 ?_
  exact v_iret F hr dX2_tellJuggler_85 rfl rfl rfl
set_option maxHeartbeats 4000000 in
set_option maxRecDepth 100000 in
theorem c_X2_tellJuggler_6 {X : Cx} {l : Launch} (G : Gx X l) {M : Mem} {lf : Lf} {r : Nat} (hr0 : r < 2) {σ : Sg} {jc tc : Nat} {ln : Nat → Nat} (hS : Shp σ jc tc ln) {j : Nat} (hj : j < jc) : CI X l yX2_tellJuggler (wsc yX2_tellJuggler cX2_tellJuggler 4 (some .int)) rm_X2_tellJuggler [.ref (X.2.1 r 0 0), .int (nI j), .int (nI 6)] (uC M r σ) lf (fTellJ σ tc j 6) (uC M r σ) lf 0 0 := by
  refine CI_of (lv := [(0, .ref _), (1, .int _), (2, .int _)]) G (by decide) (Nat.le_of_ble_eq_true rfl) rfl (fun p e s m args below meth c F hr => ?_)
  have F : Fx p l s m args meth c cX2_tellJuggler 4 RX2 X := F
  have h4 := hS.1
  refine v_aload_n F dX2_tellJuggler_0 rfl 0 rfl ?_
  refine v_get F (id_R hr0 (by decide) (by decide)) (heR hr0) rfl uw_X2 0 (by decide) rfl rfl wf_X2_11 dX2_tellJuggler_1 ?_
  refine v_iload_n F dX2_tellJuggler_4 rfl 1 rfl ?_
  refine v_aaldJ F hr0 (j) (Ix_nI (by omega)) dX2_tellJuggler_5 ?_
  refine v_astore_n F dX2_tellJuggler_6 rfl (by decide) (lv' := [(3, .ref _), (0, .ref _), (1, .int _), (2, .int _)]) rfl ?_
  refine v_iload_n F dX2_tellJuggler_7 rfl 3 rfl ?_
  refine v_tableOut F (tgt := 86) dX2_tellJuggler_8 (Or.inr (by decide)) (by decide) ?_
  refine v_aload_n F dX2_tellJuggler_86 rfl 0 rfl ?_
  refine v_getN F (id_R hr0 (by decide) (show j < 4 by omega)) (heR hr0) rfl uw_X0 4 (by decide) rfl rfl wf_X2_100 dX2_tellJuggler_87 ?_
  exact v_iret F hr dX2_tellJuggler_90 rfl rfl rfl
set_option maxHeartbeats 4000000 in
set_option maxRecDepth 100000 in
theorem c_X2_tellCount_0 {X : Cx} {l : Launch} (G : Gx X l) {M : Mem} {lf : Lf} {r : Nat} (hr0 : r < 2) {σ : Sg} {jc tc : Nat} {ln : Nat → Nat} (hS : Shp σ jc tc ln)  : CI X l yX2_tellCount (wsc yX2_tellCount cX2_tellCount 2 (some .int)) rm_X2_tellCount [.ref (X.2.1 r 0 0), .int (nI 0)] (uC M r σ) lf (fTellC σ tc 0) (uC M r σ) lf 0 0 := by
  refine CI_of (lv := [(0, .ref _), (1, .int _)]) G (by decide) (Nat.le_of_ble_eq_true rfl) rfl (fun p e s m args below meth c F hr => ?_)
  have F : Fx p l s m args meth c cX2_tellCount 2 RX2 X := F
  refine v_iload_n F dX2_tellCount_0 rfl 1 rfl ?_
  refine v_tableIn F (tgt := 48) dX2_tellCount_1 (by decide) (by decide) rfl (by decide) ?_
  refine v_aload_n F dX2_tellCount_48 rfl 0 rfl ?_
  refine v_get F (id_R hr0 (by decide) (by decide)) (heR hr0) rfl uw_X2 4 (by decide) rfl rfl wf_X2_32 dX2_tellCount_49 ?_
  exact v_iret F hr dX2_tellCount_52 rfl rfl rfl
set_option maxHeartbeats 4000000 in
set_option maxRecDepth 100000 in
theorem c_X2_tellCount_1 {X : Cx} {l : Launch} (G : Gx X l) {M : Mem} {lf : Lf} {r : Nat} (hr0 : r < 2) {σ : Sg} {jc tc : Nat} {ln : Nat → Nat} (hS : Shp σ jc tc ln)  : CI X l yX2_tellCount (wsc yX2_tellCount cX2_tellCount 2 (some .int)) rm_X2_tellCount [.ref (X.2.1 r 0 0), .int (nI 1)] (uC M r σ) lf (fTellC σ tc 1) (uC M r σ) lf 0 0 := by
  refine CI_of (lv := [(0, .ref _), (1, .int _)]) G (by decide) (Nat.le_of_ble_eq_true rfl) rfl (fun p e s m args below meth c F hr => ?_)
  have F : Fx p l s m args meth c cX2_tellCount 2 RX2 X := F
  refine v_iload_n F dX2_tellCount_0 rfl 1 rfl ?_
  refine v_tableIn F (tgt := 53) dX2_tellCount_1 (by decide) (by decide) rfl (by decide) ?_
  refine v_aload_n F dX2_tellCount_53 rfl 0 rfl ?_
  refine v_get F (id_R hr0 (by decide) (by decide)) (heR hr0) rfl uw_X2 2 (by decide) rfl rfl wf_X2_25 dX2_tellCount_54 ?_
  exact v_iret F hr dX2_tellCount_57 rfl rfl rfl
set_option maxHeartbeats 4000000 in
set_option maxRecDepth 100000 in
theorem c_X2_tellCount_2 {X : Cx} {l : Launch} (G : Gx X l) {M : Mem} {lf : Lf} {r : Nat} (hr0 : r < 2) {σ : Sg} {jc tc : Nat} {ln : Nat → Nat} (hS : Shp σ jc tc ln)  : CI X l yX2_tellCount (wsc yX2_tellCount cX2_tellCount 2 (some .int)) rm_X2_tellCount [.ref (X.2.1 r 0 0), .int (nI 2)] (uC M r σ) lf (fTellC σ tc 2) (uC M r σ) lf 0 0 := by
  refine CI_of (lv := [(0, .ref _), (1, .int _)]) G (by decide) (Nat.le_of_ble_eq_true rfl) rfl (fun p e s m args below meth c F hr => ?_)
  have F : Fx p l s m args meth c cX2_tellCount 2 RX2 X := F
  refine v_iload_n F dX2_tellCount_0 rfl 1 rfl ?_
  refine v_tableIn F (tgt := 58) dX2_tellCount_1 (by decide) (by decide) rfl (by decide) ?_
  refine v_aload_n F dX2_tellCount_58 rfl 0 rfl ?_
  refine v_get F (id_R hr0 (by decide) (by decide)) (heR hr0) rfl uw_X2 3 (by decide) rfl rfl wf_X2_29 dX2_tellCount_59 ?_
  exact v_iret F hr dX2_tellCount_62 rfl rfl rfl
set_option maxHeartbeats 4000000 in
set_option maxRecDepth 100000 in
theorem c_X2_tellCount_3 {X : Cx} {l : Launch} (G : Gx X l) {M : Mem} {lf : Lf} {r : Nat} (hr0 : r < 2) {σ : Sg} {jc tc : Nat} {ln : Nat → Nat} (hS : Shp σ jc tc ln)  : CI X l yX2_tellCount (wsc yX2_tellCount cX2_tellCount 2 (some .int)) rm_X2_tellCount [.ref (X.2.1 r 0 0), .int (nI 3)] (uC M r σ) lf (fTellC σ tc 3) (uC M r σ) lf 0 0 := by
  refine CI_of (lv := [(0, .ref _), (1, .int _)]) G (by decide) (Nat.le_of_ble_eq_true rfl) rfl (fun p e s m args below meth c F hr => ?_)
  have F : Fx p l s m args meth c cX2_tellCount 2 RX2 X := F
  refine v_iload_n F dX2_tellCount_0 rfl 1 rfl ?_
  refine v_tableIn F (tgt := 63) dX2_tellCount_1 (by decide) (by decide) rfl (by decide) ?_
  refine v_aload_n F dX2_tellCount_63 rfl 0 rfl ?_
  refine v_iconst F (v := 1) dX2_tellCount_64 (by decide) ?_
  refine v_callVi F (As := [_]) (rest := []) rfl (c_X2_thingsIn G hr0 hS _) (Rv_R hr0) wm_X2_139 rfl ⟨rfl, rfl, Nat.le_of_ble_eq_true rfl, Nat.le_of_ble_eq_true rfl, Nat.le_of_ble_eq_true rfl, Nat.le_of_ble_eq_true rfl, Nat.le_of_ble_eq_true rfl⟩ dX2_tellCount_65 ?_
  exact v_iret F hr dX2_tellCount_68 rfl rfl rfl
set_option maxHeartbeats 4000000 in
set_option maxRecDepth 100000 in
theorem c_X2_tellCount_4 {X : Cx} {l : Launch} (G : Gx X l) {M : Mem} {lf : Lf} {r : Nat} (hr0 : r < 2) {σ : Sg} {jc tc : Nat} {ln : Nat → Nat} (hS : Shp σ jc tc ln)  : CI X l yX2_tellCount (wsc yX2_tellCount cX2_tellCount 2 (some .int)) rm_X2_tellCount [.ref (X.2.1 r 0 0), .int (nI 4)] (uC M r σ) lf (fTellC σ tc 4) (uC M r σ) lf 0 0 := by
  refine CI_of (lv := [(0, .ref _), (1, .int _)]) G (by decide) (Nat.le_of_ble_eq_true rfl) rfl (fun p e s m args below meth c F hr => ?_)
  have F : Fx p l s m args meth c cX2_tellCount 2 RX2 X := F
  refine v_iload_n F dX2_tellCount_0 rfl 1 rfl ?_
  refine v_tableIn F (tgt := 69) dX2_tellCount_1 (by decide) (by decide) rfl (by decide) ?_
  refine v_aload_n F dX2_tellCount_69 rfl 0 rfl ?_
  refine v_iconst F (v := 2) dX2_tellCount_70 (by decide) ?_
  refine v_callVi F (As := [_]) (rest := []) rfl (c_X2_thingsIn G hr0 hS _) (Rv_R hr0) wm_X2_139 rfl ⟨rfl, rfl, Nat.le_of_ble_eq_true rfl, Nat.le_of_ble_eq_true rfl, Nat.le_of_ble_eq_true rfl, Nat.le_of_ble_eq_true rfl, Nat.le_of_ble_eq_true rfl⟩ dX2_tellCount_71 ?_
  exact v_iret F hr dX2_tellCount_74 rfl rfl rfl
set_option maxHeartbeats 4000000 in
set_option maxRecDepth 100000 in
theorem c_X2_tellCount_5 {X : Cx} {l : Launch} (G : Gx X l) {M : Mem} {lf : Lf} {r : Nat} (hr0 : r < 2) {σ : Sg} {jc tc : Nat} {ln : Nat → Nat} (hS : Shp σ jc tc ln)  : CI X l yX2_tellCount (wsc yX2_tellCount cX2_tellCount 2 (some .int)) rm_X2_tellCount [.ref (X.2.1 r 0 0), .int (nI 5)] (uC M r σ) lf (fTellC σ tc 5) (uC M r σ) lf 0 0 := by
  refine CI_of (lv := [(0, .ref _), (1, .int _)]) G (by decide) (Nat.le_of_ble_eq_true rfl) rfl (fun p e s m args below meth c F hr => ?_)
  have F : Fx p l s m args meth c cX2_tellCount 2 RX2 X := F
  refine v_iload_n F dX2_tellCount_0 rfl 1 rfl ?_
  refine v_tableIn F (tgt := 75) dX2_tellCount_1 (by decide) (by decide) rfl (by decide) ?_
  refine v_aload_n F dX2_tellCount_75 rfl 0 rfl ?_
  refine v_iconst F (v := 0) dX2_tellCount_76 (by decide) ?_
  refine v_callVi F (As := [_]) (rest := []) rfl (c_X2_thingsIn G hr0 hS _) (Rv_R hr0) wm_X2_139 rfl ⟨rfl, rfl, Nat.le_of_ble_eq_true rfl, Nat.le_of_ble_eq_true rfl, Nat.le_of_ble_eq_true rfl, Nat.le_of_ble_eq_true rfl, Nat.le_of_ble_eq_true rfl⟩ dX2_tellCount_77 ?_
  exact v_iret F hr dX2_tellCount_80 rfl rfl rfl
set_option maxHeartbeats 4000000 in
set_option maxRecDepth 100000 in
theorem c_X2_tellCount_6 {X : Cx} {l : Launch} (G : Gx X l) {M : Mem} {lf : Lf} {r : Nat} (hr0 : r < 2) {σ : Sg} {jc tc : Nat} {ln : Nat → Nat} (hS : Shp σ jc tc ln)  : CI X l yX2_tellCount (wsc yX2_tellCount cX2_tellCount 2 (some .int)) rm_X2_tellCount [.ref (X.2.1 r 0 0), .int (nI 6)] (uC M r σ) lf (fTellC σ tc 6) (uC M r σ) lf 0 0 := by
  refine CI_of (lv := [(0, .ref _), (1, .int _)]) G (by decide) (Nat.le_of_ble_eq_true rfl) rfl (fun p e s m args below meth c F hr => ?_)
  have F : Fx p l s m args meth c cX2_tellCount 2 RX2 X := F
  refine v_iload_n F dX2_tellCount_0 rfl 1 rfl ?_
  refine v_tableIn F (tgt := 81) dX2_tellCount_1 (by decide) (by decide) rfl (by decide) ?_
  refine v_aload_n F dX2_tellCount_81 rfl 0 rfl ?_
  refine v_iconst F (v := 3) dX2_tellCount_82 (by decide) ?_
  refine v_callVi F (As := [_]) (rest := []) rfl (c_X2_thingsIn G hr0 hS _) (Rv_R hr0) wm_X2_139 rfl ⟨rfl, rfl, Nat.le_of_ble_eq_true rfl, Nat.le_of_ble_eq_true rfl, Nat.le_of_ble_eq_true rfl, Nat.le_of_ble_eq_true rfl, Nat.le_of_ble_eq_true rfl⟩ dX2_tellCount_83 ?_
  exact v_iret F hr dX2_tellCount_86 rfl rfl rfl
set_option maxHeartbeats 4000000 in
set_option maxRecDepth 100000 in
theorem c_X2_tellCount_7 {X : Cx} {l : Launch} (G : Gx X l) {M : Mem} {lf : Lf} {r : Nat} (hr0 : r < 2) {σ : Sg} {jc tc : Nat} {ln : Nat → Nat} (hS : Shp σ jc tc ln)  : CI X l yX2_tellCount (wsc yX2_tellCount cX2_tellCount 2 (some .int)) rm_X2_tellCount [.ref (X.2.1 r 0 0), .int (nI 7)] (uC M r σ) lf (fTellC σ tc 7) (uC M r σ) lf 0 0 := by
  refine CI_of (lv := [(0, .ref _), (1, .int _)]) G (by decide) (Nat.le_of_ble_eq_true rfl) rfl (fun p e s m args below meth c F hr => ?_)
  have F : Fx p l s m args meth c cX2_tellCount 2 RX2 X := F
  refine v_iload_n F dX2_tellCount_0 rfl 1 rfl ?_
  refine v_tableIn F (tgt := 87) dX2_tellCount_1 (by decide) (by decide) rfl (by decide) ?_
  refine v_aload_n F dX2_tellCount_87 rfl 0 rfl ?_
  refine v_callVi F (As := []) (rest := []) rfl (c_X2_allFell G hr0 hS) (Rv_R hr0) wm_X2_142 rfl ⟨rfl, rfl, Nat.le_of_ble_eq_true rfl, Nat.le_of_ble_eq_true rfl, Nat.le_of_ble_eq_true rfl, Nat.le_of_ble_eq_true rfl, Nat.le_of_ble_eq_true rfl⟩ dX2_tellCount_88 ?_
  exact v_iret F hr dX2_tellCount_91 rfl rfl rfl
set_option maxHeartbeats 4000000 in
set_option maxRecDepth 100000 in
theorem c_X2_tellCount_8 {X : Cx} {l : Launch} (G : Gx X l) {M : Mem} {lf : Lf} {r : Nat} (hr0 : r < 2) {σ : Sg} {jc tc : Nat} {ln : Nat → Nat} (hS : Shp σ jc tc ln)  : CI X l yX2_tellCount (wsc yX2_tellCount cX2_tellCount 2 (some .int)) rm_X2_tellCount [.ref (X.2.1 r 0 0), .int (nI 8)] (uC M r σ) lf (fTellC σ tc 8) (uC M r σ) lf 0 0 := by
  refine CI_of (lv := [(0, .ref _), (1, .int _)]) G (by decide) (Nat.le_of_ble_eq_true rfl) rfl (fun p e s m args below meth c F hr => ?_)
  have F : Fx p l s m args meth c cX2_tellCount 2 RX2 X := F
  refine v_iload_n F dX2_tellCount_0 rfl 1 rfl ?_
  refine v_tableOut F (tgt := 92) dX2_tellCount_1 (Or.inr (by decide)) (by decide) ?_
  refine v_aload_n F dX2_tellCount_92 rfl 0 rfl ?_
  refine v_callVi F (As := []) (rest := []) rfl (c_X2_allThrown G hr0 hS) (Rv_R hr0) wm_X2_145 rfl ⟨rfl, rfl, Nat.le_of_ble_eq_true rfl, Nat.le_of_ble_eq_true rfl, Nat.le_of_ble_eq_true rfl, Nat.le_of_ble_eq_true rfl, Nat.le_of_ble_eq_true rfl⟩ dX2_tellCount_93 ?_
  exact v_iret F hr dX2_tellCount_96 rfl rfl rfl
theorem c_X2_tellThing {X : Cx} {l : Launch} (G : Gx X l) {M : Mem} {lf : Lf} {r : Nat} (hr0 : r < 2) {σ : Sg} {jc tc : Nat} {ln : Nat → Nat} (hS : Shp σ jc tc ln) {k : Nat} (hk : k < tc) : ∀ w : Nat, w < 7 → CI X l yX2_tellThing (wsc yX2_tellThing cX2_tellThing 4 (some .int)) rm_X2_tellThing [.ref (X.2.1 r 0 0), .int (nI k), .int (nI w)] (uC M r σ) lf (fTellT σ k w) (uC M r σ) lf 0 0
  | 0, _ => c_X2_tellThing_0 G hr0 hS hk
  | 1, _ => c_X2_tellThing_1 G hr0 hS hk
  | 2, _ => c_X2_tellThing_2 G hr0 hS hk
  | 3, _ => c_X2_tellThing_3 G hr0 hS hk
  | 4, _ => c_X2_tellThing_4 G hr0 hS hk
  | 5, _ => c_X2_tellThing_5 G hr0 hS hk
  | 6, _ => c_X2_tellThing_6 G hr0 hS hk
  | w + 7, h => absurd h (by omega)
theorem c_X2_tellJuggler {X : Cx} {l : Launch} (G : Gx X l) {M : Mem} {lf : Lf} {r : Nat} (hr0 : r < 2) {σ : Sg} {jc tc : Nat} {ln : Nat → Nat} (hS : Shp σ jc tc ln) {j : Nat} (hj : j < jc) : ∀ w : Nat, w < 7 → CI X l yX2_tellJuggler (wsc yX2_tellJuggler cX2_tellJuggler 4 (some .int)) rm_X2_tellJuggler [.ref (X.2.1 r 0 0), .int (nI j), .int (nI w)] (uC M r σ) lf (fTellJ σ tc j w) (uC M r σ) lf 0 0
  | 0, _ => c_X2_tellJuggler_0 G hr0 hS hj
  | 1, _ => c_X2_tellJuggler_1 G hr0 hS hj
  | 2, _ => c_X2_tellJuggler_2 G hr0 hS hj
  | 3, _ => c_X2_tellJuggler_3 G hr0 hS hj
  | 4, _ => c_X2_tellJuggler_4 G hr0 hS hj
  | 5, _ => c_X2_tellJuggler_5 G hr0 hS hj
  | 6, _ => c_X2_tellJuggler_6 G hr0 hS hj
  | w + 7, h => absurd h (by omega)
theorem c_X2_tellCount {X : Cx} {l : Launch} (G : Gx X l) {M : Mem} {lf : Lf} {r : Nat} (hr0 : r < 2) {σ : Sg} {jc tc : Nat} {ln : Nat → Nat} (hS : Shp σ jc tc ln) : ∀ w : Nat, w < 9 → CI X l yX2_tellCount (wsc yX2_tellCount cX2_tellCount 2 (some .int)) rm_X2_tellCount [.ref (X.2.1 r 0 0), .int (nI w)] (uC M r σ) lf (fTellC σ tc w) (uC M r σ) lf 0 0
  | 0, _ => c_X2_tellCount_0 G hr0 hS
  | 1, _ => c_X2_tellCount_1 G hr0 hS
  | 2, _ => c_X2_tellCount_2 G hr0 hS
  | 3, _ => c_X2_tellCount_3 G hr0 hS
  | 4, _ => c_X2_tellCount_4 G hr0 hS
  | 5, _ => c_X2_tellCount_5 G hr0 hS
  | 6, _ => c_X2_tellCount_6 G hr0 hS
  | 7, _ => c_X2_tellCount_7 G hr0 hS
  | 8, _ => c_X2_tellCount_8 G hr0 hS
  | w + 9, h => absurd h (by omega)
set_option maxHeartbeats 4000000 in
set_option maxRecDepth 100000 in
theorem L1_X2_copyFrom (F : Fx p l s m args meth c cX2_copyFrom 3 RX2 X) (G : Gx X l) {r t : Nat} (hr0 : r < 2) (ht0 : t < 2) (htr : t ≠ r) {σ : Sg} {jc tc : Nat} {ln : Nat → Nat} (hS : Shp (M t) jc tc ln) (hσ : σ 0 0 2 = nI jc) (K : V p l e rm_X2_copyFrom s m args below meth c Q X 3 ex (uC M r (cpJL (M t) ln σ jc)) lf 0 0 55 [(2, .int (nI jc)), (0, .ref (X.2.1 r 0 0)), (1, .ref (X.2.1 t 0 0))] []) : ∀ (k q : Nat) (τ : Sg), k + q = jc → τ = cpJL (M t) ln σ q → V p l e rm_X2_copyFrom s m args below meth c Q X 3 ex (uC M r τ) lf 0 0 26 [(2, .int (nI q)), (0, .ref (X.2.1 r 0 0)), (1, .ref (X.2.1 t 0 0))] [] := by
  have h4 := hS.1
  intro k
  induction k with
  | zero =>
    intro q τ hq hτ
    obtain rfl : q = jc := by omega
    have hJ : τ 0 0 2 = nI q := by rw [hτ]; exact (cpJL_k (Or.inl rfl) q).trans hσ
    refine v_iload_n F dX2_copyFrom_26 rfl 0 rfl ?_
    refine v_aload_n F dX2_copyFrom_27 rfl 1 rfl ?_
    refine v_get F (id_R hr0 (by decide) (by decide)) (heR hr0) rfl uw_X2 2 (by decide) rfl rfl wf_X2_25 dX2_copyFrom_28 ?_
    refine v_topr (nI q) hJ ?_
    refine v_icmp_ge F (tgt := 55) dX2_copyFrom_31 (by decide) (fun c31 => ?_) (fun h => absurd (nI_le (Nat.le_refl _) (by omega)) h)
    subst hτ
    exact K
  | succ k ih =>
    intro q τ hq hτ
    have hJ : τ 0 0 2 = nI jc := by rw [hτ]; exact (cpJL_k (Or.inl rfl) q).trans hσ
    have hl := hS.2.2.2.2 q (by omega)
    refine v_iload_n F dX2_copyFrom_26 rfl 0 rfl ?_
    refine v_aload_n F dX2_copyFrom_27 rfl 1 rfl ?_
    refine v_get F (id_R hr0 (by decide) (by decide)) (heR hr0) rfl uw_X2 2 (by decide) rfl rfl wf_X2_25 dX2_copyFrom_28 ?_
    refine v_topr (nI jc) hJ ?_
    refine v_icmp_ge F (tgt := 55) dX2_copyFrom_31 (by decide) (fun h => absurd h (nI_ge (by omega) (by omega))) (fun c31 => ?_)
    refine v_aload_n F dX2_copyFrom_34 rfl 1 rfl ?_
    refine v_get F (id_R hr0 (by decide) (by decide)) (heR hr0) rfl uw_X2 0 (by decide) rfl rfl wf_X2_11 dX2_copyFrom_35 ?_
    refine v_iload_n F dX2_copyFrom_38 rfl 0 rfl ?_
    refine v_aaldJ F hr0 (q) (Ix_nI (by omega)) dX2_copyFrom_39 ?_
    refine v_aload_n F dX2_copyFrom_40 rfl 2 rfl ?_
    refine v_get F (id_R ht0 (by decide) (by decide)) ((heO htr).trans ((celD_R ht0))) rfl uw_X2 0 (by decide) rfl rfl wf_X2_11 dX2_copyFrom_41 ?_
    refine v_iload_n F dX2_copyFrom_44 rfl 0 rfl ?_
    refine v_aaldJ F ht0 (q) (Ix_nI (by omega)) dX2_copyFrom_45 ?_
    refine v_callNv F (As := [_]) (rest := []) rfl (c_X0_copyFrom G hr0 ht0 htr (show q < 4 by omega) hl.2.1 hl.2.2) (Rv_J hr0 (show _ < 4 by omega)) wm_X2_35 rfl ⟨rfl, rfl, Nat.le_of_ble_eq_true rfl, Nat.le_of_ble_eq_true rfl, Nat.le_of_ble_eq_true rfl, Nat.le_of_ble_eq_true rfl, Nat.le_of_ble_eq_true rfl⟩ dX2_copyFrom_46 ?_
    refine v_iinc F (k := 0) (nI (q + 1)) dX2_copyFrom_49 rfl (iinc_nI q) (by decide) (lv' := [(2, .int _), (0, .ref _), (1, .ref _)]) rfl ?_
    refine v_goto F (tgt := 26) dX2_copyFrom_52 (by decide) ?_
    refine ih (q + 1) _ (by omega) ?_
    show _ = fCopyJ (cpJL (M t) ln σ q) (M t) q (ln q)
    rw [hτ]
set_option maxHeartbeats 4000000 in
set_option maxRecDepth 100000 in
theorem L2_X2_copyFrom (F : Fx p l s m args meth c cX2_copyFrom 3 RX2 X) (G : Gx X l) {r t : Nat} (hr0 : r < 2) (ht0 : t < 2) (htr : t ≠ r) {σ : Sg} {tc : Nat} (h12 : tc ≤ 12) (hσ : σ 0 0 3 = nI tc) (K : V p l e rm_X2_copyFrom s m args below meth c Q X 3 ex (uC M r (cpTL (M t) σ tc)) lf 0 0 86 [(2, .int (nI tc)), (0, .ref (X.2.1 r 0 0)), (1, .ref (X.2.1 t 0 0))] []) : ∀ (k q : Nat) (τ : Sg), k + q = tc → τ = cpTL (M t) σ q → V p l e rm_X2_copyFrom s m args below meth c Q X 3 ex (uC M r τ) lf 0 0 57 [(2, .int (nI q)), (0, .ref (X.2.1 r 0 0)), (1, .ref (X.2.1 t 0 0))] [] := by
  intro k
  induction k with
  | zero =>
    intro q τ hq hτ
    obtain rfl : q = tc := by omega
    have hJ : τ 0 0 3 = nI q := by rw [hτ]; exact (cpTL_k (by decide) q).trans hσ
    refine v_iload_n F dX2_copyFrom_57 rfl 0 rfl ?_
    refine v_aload_n F dX2_copyFrom_58 rfl 1 rfl ?_
    refine v_get F (id_R hr0 (by decide) (by decide)) (heR hr0) rfl uw_X2 3 (by decide) rfl rfl wf_X2_29 dX2_copyFrom_59 ?_
    refine v_topr (nI q) hJ ?_
    refine v_icmp_ge F (tgt := 86) dX2_copyFrom_62 (by decide) (fun c62 => ?_) (fun h => absurd (nI_le (Nat.le_refl _) (by omega)) h)
    subst hτ
    exact K
  | succ k ih =>
    intro q τ hq hτ
    have hJ : τ 0 0 3 = nI tc := by rw [hτ]; exact (cpTL_k (by decide) q).trans hσ
    refine v_iload_n F dX2_copyFrom_57 rfl 0 rfl ?_
    refine v_aload_n F dX2_copyFrom_58 rfl 1 rfl ?_
    refine v_get F (id_R hr0 (by decide) (by decide)) (heR hr0) rfl uw_X2 3 (by decide) rfl rfl wf_X2_29 dX2_copyFrom_59 ?_
    refine v_topr (nI tc) hJ ?_
    refine v_icmp_ge F (tgt := 86) dX2_copyFrom_62 (by decide) (fun h => absurd h (nI_ge (by omega) (by omega))) (fun c62 => ?_)
    refine v_aload_n F dX2_copyFrom_65 rfl 1 rfl ?_
    refine v_get F (id_R hr0 (by decide) (by decide)) (heR hr0) rfl uw_X2 1 (by decide) rfl rfl wf_X2_20 dX2_copyFrom_66 ?_
    refine v_iload_n F dX2_copyFrom_69 rfl 0 rfl ?_
    refine v_aaldT F hr0 (q) (Ix_nI (by omega)) dX2_copyFrom_70 ?_
    refine v_aload_n F dX2_copyFrom_71 rfl 2 rfl ?_
    refine v_get F (id_R ht0 (by decide) (by decide)) ((heO htr).trans ((celD_R ht0))) rfl uw_X2 1 (by decide) rfl rfl wf_X2_20 dX2_copyFrom_72 ?_
    refine v_iload_n F dX2_copyFrom_75 rfl 0 rfl ?_
    refine v_aaldT F ht0 (q) (Ix_nI (by omega)) dX2_copyFrom_76 ?_
    refine v_callNv F (As := [_]) (rest := []) rfl (c_X3_copyFrom G hr0 ht0 htr (show q < 12 by omega)) (Rv_T hr0 (show _ < 12 by omega)) wm_X2_39 rfl ⟨rfl, rfl, Nat.le_of_ble_eq_true rfl, Nat.le_of_ble_eq_true rfl, Nat.le_of_ble_eq_true rfl, Nat.le_of_ble_eq_true rfl, Nat.le_of_ble_eq_true rfl⟩ dX2_copyFrom_77 ?_
    refine v_iinc F (k := 0) (nI (q + 1)) dX2_copyFrom_80 rfl (iinc_nI q) (by decide) (lv' := [(2, .int _), (0, .ref _), (1, .ref _)]) rfl ?_
    refine v_goto F (tgt := 57) dX2_copyFrom_83 (by decide) ?_
    refine ih (q + 1) _ (by omega) ?_
    show _ = fCopyT (cpTL (M t) σ q) (M t) q
    rw [hτ]
set_option maxHeartbeats 4000000 in
set_option maxRecDepth 100000 in
theorem c_X2_copyFrom {X : Cx} {l : Launch} (G : Gx X l) {M : Mem} {lf : Lf} {r t : Nat} (hr0 : r < 2) (ht0 : t < 2) (htr : t ≠ r) {σ : Sg} {jc tc : Nat} {ln : Nat → Nat} (hS : Shp (M t) jc tc ln) : CV X l yX2_copyFrom (wsc yX2_copyFrom cX2_copyFrom 3 none) rm_X2_copyFrom [.ref (X.2.1 r 0 0), .ref (X.2.1 t 0 0)] (uC M r σ) lf (uC M r (fCopyR σ (M t) jc tc ln)) lf 0 0 := by
  refine CV_of (lv := [(0, .ref _), (1, .ref _)]) G (by decide) (Nat.le_of_ble_eq_true rfl) rfl (fun p e s m args below meth c F hr => ?_)
  have F : Fx p l s m args meth c cX2_copyFrom 3 RX2 X := F
  refine v_aload_n F dX2_copyFrom_0 rfl 0 rfl ?_
  refine v_aload_n F dX2_copyFrom_1 rfl 1 rfl ?_
  refine v_get F (id_R ht0 (by decide) (by decide)) ((heO htr).trans ((celD_R ht0))) rfl uw_X2 2 (by decide) rfl rfl wf_X2_25 dX2_copyFrom_2 ?_
  refine v_putC F tyX2 tyX2_ok nmX2 (id_R hr0 (by decide) (by decide)) (celD_R hr0) rfl uw_X2 2 (by decide) rfl rfl (by decide +kernel) (celD_R hr0) (Nat.le_of_ble_eq_true rfl) wf_X2_25 dX2_copyFrom_5 ?_
  refine v_aload_n F dX2_copyFrom_8 rfl 0 rfl ?_
  refine v_aload_n F dX2_copyFrom_9 rfl 1 rfl ?_
  refine v_get F (id_R ht0 (by decide) (by decide)) ((heO htr).trans ((celD_R ht0))) rfl uw_X2 3 (by decide) rfl rfl wf_X2_29 dX2_copyFrom_10 ?_
  refine v_putC F tyX2 tyX2_ok nmX2 (id_R hr0 (by decide) (by decide)) (celD_R hr0) rfl uw_X2 3 (by decide) rfl rfl (by decide +kernel) (celD_R hr0) (Nat.le_of_ble_eq_true rfl) wf_X2_29 dX2_copyFrom_13 ?_
  refine v_aload_n F dX2_copyFrom_16 rfl 0 rfl ?_
  refine v_aload_n F dX2_copyFrom_17 rfl 1 rfl ?_
  refine v_get F (id_R ht0 (by decide) (by decide)) ((heO htr).trans ((celD_R ht0))) rfl uw_X2 4 (by decide) rfl rfl wf_X2_32 dX2_copyFrom_18 ?_
  refine v_putC F tyX2 tyX2_ok nmX2 (id_R hr0 (by decide) (by decide)) (celD_R hr0) rfl uw_X2 4 (by decide) rfl rfl (by decide +kernel) (celD_R hr0) (Nat.le_of_ble_eq_true rfl) wf_X2_32 dX2_copyFrom_21 ?_
  refine v_gen (fun τ0 h0 => ?_)
  refine v_iconst F (v := nI 0) dX2_copyFrom_24 (by decide) ?_
  refine v_istore_n F dX2_copyFrom_25 rfl (by decide) (lv' := [(2, .int _), (0, .ref _), (1, .ref _)]) rfl ?_
  refine L1_X2_copyFrom F G hr0 ht0 htr hS (by rw [h0, u3_ne (by decide), u3_ne (by decide), u3_at]; exact hS.2.2.1) ?_ jc 0 _ (Nat.add_zero jc) rfl
  · skip
    refine v_gen (fun τ1 h1 => ?_)
    refine v_iconst F (v := nI 0) dX2_copyFrom_55 (by decide) ?_
    refine v_istore_n F dX2_copyFrom_56 rfl (by decide) (lv' := [(2, .int _), (0, .ref _), (1, .ref _)]) rfl ?_
    refine L2_X2_copyFrom F G hr0 ht0 htr hS.2.1 (by rw [h1]; refine (cpJL_k (Or.inl rfl) jc).trans ?_; rw [h0, u3_ne (by decide), u3_at]; exact hS.2.2.2.1) ?_ tc 0 _ (Nat.add_zero tc) rfl
    · skip
      refine v_gen (fun τ2 h2 => ?_)
      refine v_vret F hr dX2_copyFrom_86 ?_ rfl
      rw [h2, h1, h0]
      rfl
end RS
