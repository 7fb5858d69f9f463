/-! ===== the law: what hands hold that throw nothing ===== -/
theorem mean_cmp (a : Int32) {b : Int32} (hb : ¬ b = 0) (o : CmpOp) : Op.cmpValue (FP.dcmp (FP.ddiv (FP.i2d a) (FP.i2d b)) (FP.ddiv (FP.i2d a) (FP.i2d b))) o = 0 := by
  have h := FP.Core.ddiv_out (FP.Core.i2d_fin a).notNaN (FP.Core.i2d_fin b) (fun z => FP.Core.i2d_ne_zero hb ((FP.Core.zero_bits2 _).mp z))
  have e : FP.dcmp (FP.ddiv (FP.i2d a) (FP.i2d b)) (FP.ddiv (FP.i2d a) (FP.i2d b)) = some .eq := FP.Core.dcmp_refl h
  rw [e]
  rfl
theorem exR_at {X : Cx} {q N i : Nat} {r : Nat → Nat} {g : Nat → Nat → Int32} (hi : i < N) : (exR X q N r g)[i + 1]? = some (r i, .inl (X.2.2.1 0, 2, .inl (g i))) := by
  have := exR_out (X := X) (ex := []) (q := q) (r := r) (g := g) hi
  rw [List.append_nil] at this
  exact this
/-- told so far: all of the jugglers below i, and of i the hands below h -/
def HI (σ : Sg) (bt : Nat) (ln : Nat → Nat) (n i h : Nat) (g : Nat → Nat → Int32) : Prop := (∀ a d, a < i → d < 2 → g a d = hldR σ bt ln a d n) ∧ ∀ d, d < h → g i d = hldR σ bt ln i d n
theorem HI_upd {σ : Sg} {bt n i h : Nat} {ln : Nat → Nat} {g : Nat → Nat → Int32} {v : Int32} (H : HI σ bt ln n i h g) : HI σ bt ln n i h (upd2 g i h v) := by
  refine ⟨fun a d ha hd => ?_, fun d hd => ?_⟩
  · rw [upd2_ne (by omega)]
    exact H.1 a d ha hd
  · rw [upd2_ne (by omega)]
    exact H.2 d hd
theorem HI_hand {σ : Sg} {bt n i h : Nat} {ln : Nat → Nat} {g : Nat → Nat → Int32} (H : HI σ bt ln n i h g) (e : g i h = hldR σ bt ln i h n) : HI σ bt ln n i (h + 1) g := by
  refine ⟨H.1, fun d hd => ?_⟩
  by_cases z : d = h
  · rw [z]; exact e
  · exact H.2 d (by omega)
theorem HI_next {σ : Sg} {bt n i : Nat} {ln : Nat → Nat} {g : Nat → Nat → Int32} (H : HI σ bt ln n i 2 g) : HI σ bt ln n (i + 1) 0 g := by
  refine ⟨fun a d ha hd => ?_, fun d hd => absurd hd (Nat.not_lt_zero d)⟩
  by_cases z : a = i
  · rw [z]; exact H.2 d hd
  · exact H.1 a d (by omega) hd
section LHELD
variable {p : Program} {l : Launch} {e : Env} {s : State} {m : MethodId} {below : List Frame} {meth : Method} {c : Code} {Q : State → Prop} {X : Cx} {M : Mem} {lf : Lf} {b L : Nat} {xs : Nat → Int32}
set_option maxHeartbeats 4000000 in
set_option maxRecDepth 100000 in
theorem L_held_x (F : Fx p l s m #[Value.ref b] meth c cL_law 28 RL X) (G : Gx X l) {C S t jc tc bt n q : Nat} {r : Nat → Nat} {σ : Sg} {ln : Nat → Nat} (hC : C + 19 ≤ 787500) (hS0 : S + 92 ≤ 6738968) (h4 : jc ≤ 4) (hM : M 0 = σ) (hS : Shp (M 0) jc tc ln) (hbt : bt ≤ 1000) (hn4 : n ≤ 4) {i h : Nat} (hi : i < jc) (hh : h < 2) (K : ∀ g : Nat → Nat → Int32, HI σ bt ln n i h g → g i h = hldR σ bt ln i h n → V p l e room_1 s m #[Value.ref b] below meth c Q X 28 (exR X q jc r g) (M) lf (C + 1 + jc) (S + jc + jc * 2) 582 [(17, .int (nI h)), (16, .int (nI i)), (15, .ref q), (14, .int (nI bt)), (11, .int (plR bt jc tc ln σ n)), (10, .int (fIn (plL bt jc tc ln σ n) tc 2)), (7, .int (nI n)), (5, .int (nI tc)), (4, .int (nI jc)), (2, .int (nI t)), (1, .ref (X.2.1 5 0 0)), (0, .ref b)] [])  : ∀ (f x : Nat) (g : Nat → Nat → Int32), f + x = n → HI σ bt ln n i h g → g i h = hldR σ bt ln i h x → V p l e room_1 s m #[Value.ref b] below meth c Q X 28 (exR X q jc r g) (M) lf (C + 1 + jc) (S + jc + jc * 2) 528 [(18, .int (nI (bt + x))), (17, .int (nI h)), (16, .int (nI i)), (15, .ref q), (14, .int (nI bt)), (11, .int (plR bt jc tc ln σ n)), (10, .int (fIn (plL bt jc tc ln σ n) tc 2)), (7, .int (nI n)), (5, .int (nI tc)), (4, .int (nI jc)), (2, .int (nI t)), (1, .ref (X.2.1 5 0 0)), (0, .ref b)] [] := by
  have hl := hS.2.2.2.2 i hi
  rw [hM] at hl
  intro f
  induction f with
  | zero =>
    intro x g hf hH hg
    obtain rfl : x = n := by omega
    refine v_iload F dL_law_528 0 rfl ?_
    refine v_iload F dL_law_530 4 rfl ?_
    refine v_iload F dL_law_532 7 rfl ?_
    refine v_iadd F dL_law_534 ?_
    refine v_topr (nI (bt + x)) (nI_add _ _) ?_
    refine v_icmp_ge F (tgt := 582) dL_law_535 (by decide) (fun c535 => ?_) (fun h => absurd (nI_le (Nat.le_refl _) (by omega)) h)
    exact v_locs [1, 2, 3, 4, 5, 6, 7, 8, 9, 10, 11, 12] rfl (K g hH hg)
  | succ f ih =>
    intro x g hf hH hg
    refine v_iload F dL_law_528 0 rfl ?_
    refine v_iload F dL_law_530 4 rfl ?_
    refine v_iload F dL_law_532 7 rfl ?_
    refine v_iadd F dL_law_534 ?_
    refine v_topr (nI (bt + n)) (nI_add _ _) ?_
    refine v_icmp_ge F (tgt := 582) dL_law_535 (by decide) (fun h => absurd h (nI_ge (by omega) (by omega))) (fun c535 => ?_)
    refine v_iload F dL_law_538 0 rfl ?_
    refine v_iconst F (v := nI 2) dL_law_540 (by decide) ?_
    refine v_irem F dL_law_541 (nI_ne0 (by decide) (by decide)) ?_
    refine v_topr (nI ((bt + x) % 2)) (pk_rem (by omega) (by decide) (by decide)) ?_
    refine v_iload F dL_law_542 1 rfl ?_
    refine v_icmp_ne F (tgt := 576) dL_law_544 (by decide) (fun c544 => ?_) (fun c544 => ?_)
    · have := c544
      have hg2 : g i h = hldR σ bt ln i h (x + 1) := by rw [hldR_f (fun z => c544 (by rw [z.1]))]; exact hg
      have hH2 := hH
      refine v_iinc F (k := 0) (nI (bt + (x + 1))) dL_law_576 rfl (iinc_nI _) (by decide) (lv' := [(18, .int _), (17, .int _), (16, .int _), (15, .ref _), (14, .int _), (11, .int _), (10, .int _), (7, .int _), (5, .int _), (4, .int _), (2, .int _), (1, .ref _), (0, .ref _)]) rfl ?_
      refine v_goto F (tgt := 528) dL_law_579 (by decide) ?_
      exact ih (x + 1) _ (by omega) hH2 hg2
    · have := c544
      refine v_aload_n F dL_law_547 rfl 11 rfl ?_
      refine v_iload F dL_law_548 2 rfl ?_
      refine v_iload F dL_law_550 0 rfl ?_
      refine v_aload_n F dL_law_552 rfl 11 rfl ?_
      refine v_iload F dL_law_553 2 rfl ?_
      refine v_iconst F (v := nI 4) dL_law_555 (by decide) ?_
      refine v_callVi F (As := [_, _]) (rest := [.int _, .int _, .ref _]) rfl (c_X4_juggler G hS hi (q := 4) (by decide)) Rv_H wm_L_57 rfl ⟨rfl, rfl, Nat.le_of_ble_eq_true rfl, Nat.le_of_ble_eq_true rfl, (by show _ ≤ 787500; omega), (by show _ ≤ 6738968; omega), Nat.le_of_ble_eq_true rfl⟩ dL_law_556 ?_
      refine v_topr (nI (ln i)) (by rw [hM]; exact hl.2.2) ?_
      refine v_irem F dL_law_559 (nI_ne0 hl.1 (by omega)) ?_
      refine v_topr (nI ((bt + x) % ln i)) (pk_rem (by omega) hl.1 (by omega)) ?_
      refine v_iconst F (v := nI 0) dL_law_560 (by decide) ?_
      refine v_callVi F (As := [_, _, _]) (rest := []) rfl (c_X4_written_0 G hS hi (q := (bt + x) % ln i) (Nat.mod_lt _ hl.1)) Rv_H wm_L_60 rfl ⟨rfl, rfl, Nat.le_of_ble_eq_true rfl, Nat.le_of_ble_eq_true rfl, (by show _ ≤ 787500; omega), (by show _ ≤ 6738968; omega), Nat.le_of_ble_eq_true rfl⟩ dL_law_561 ?_
      refine v_topr (σ 4 i ((bt + x) % ln i)) (by rw [hM]) ?_
      refine v_if_le F (tgt := 576) dL_law_564 (by decide) (fun c564 => ?_) (fun c564 => ?_)
      · have := c564
        have hg2 : g i h = hldR σ bt ln i h (x + 1) := by rw [hldR_f (fun z => z.2 c564)]; exact hg
        have hH2 := hH
        refine v_iinc F (k := 0) (nI (bt + (x + 1))) dL_law_576 rfl (iinc_nI _) (by decide) (lv' := [(18, .int _), (17, .int _), (16, .int _), (15, .ref _), (14, .int _), (11, .int _), (10, .int _), (7, .int _), (5, .int _), (4, .int _), (2, .int _), (1, .ref _), (0, .ref _)]) rfl ?_
        refine v_goto F (tgt := 528) dL_law_579 (by decide) ?_
        exact ih (x + 1) _ (by omega) hH2 hg2
      · have := c564
        refine v_aload F dL_law_567 3 rfl ?_
        refine v_iload F dL_law_569 2 rfl ?_
        refine v_xaald F 0 rfl i (Ix_nI hi (by omega)) (if_pos hi) dL_law_571 ?_
        refine v_iload F dL_law_572 1 rfl ?_
        refine v_iconst F (v := (-1)) dL_law_574 (by decide) ?_
        refine v_xast F (i + 1) (exR_at hi) h (Ix_nI hh) (exR_set hi) dL_law_575 ?_
        have hg2 : upd2 g i h (-1) i h = hldR σ bt ln i h (x + 1) := by rw [upd2_at]; exact (hldR_t (nI_inj (by omega) (by omega) c544) c564).symm
        have hH2 := HI_upd (v := -1) hH
        refine v_iinc F (k := 0) (nI (bt + (x + 1))) dL_law_576 rfl (iinc_nI _) (by decide) (lv' := [(18, .int _), (17, .int _), (16, .int _), (15, .ref _), (14, .int _), (11, .int _), (10, .int _), (7, .int _), (5, .int _), (4, .int _), (2, .int _), (1, .ref _), (0, .ref _)]) rfl ?_
        refine v_goto F (tgt := 528) dL_law_579 (by decide) ?_
        exact ih (x + 1) _ (by omega) hH2 hg2
set_option maxHeartbeats 4000000 in
set_option maxRecDepth 100000 in
theorem L_held_h (F : Fx p l s m #[Value.ref b] meth c cL_law 28 RL X) (G : Gx X l) {C S t jc tc bt n q : Nat} {r : Nat → Nat} {σ : Sg} {ln : Nat → Nat} (hC : C + 19 ≤ 787500) (hS0 : S + 92 ≤ 6738968) (h4 : jc ≤ 4) (hM : M 0 = σ) (hS : Shp (M 0) jc tc ln) (hbt : bt ≤ 1000) (hn4 : n ≤ 4) {i : Nat} (hi : i < jc) (K : ∀ g : Nat → Nat → Int32, HI σ bt ln n (i + 1) 0 g → V p l e room_1 s m #[Value.ref b] below meth c Q X 28 (exR X q jc r g) (M) lf (C + 1 + jc) (S + jc + jc * 2) 588 [(16, .int (nI i)), (15, .ref q), (14, .int (nI bt)), (11, .int (plR bt jc tc ln σ n)), (10, .int (fIn (plL bt jc tc ln σ n) tc 2)), (7, .int (nI n)), (5, .int (nI tc)), (4, .int (nI jc)), (2, .int (nI t)), (1, .ref (X.2.1 5 0 0)), (0, .ref b)] [])  : ∀ (f h : Nat) (g : Nat → Nat → Int32), f + h = 2 → HI σ bt ln n i h g → V p l e room_1 s m #[Value.ref b] below meth c Q X 28 (exR X q jc r g) (M) lf (C + 1 + jc) (S + jc + jc * 2) 500 [(17, .int (nI h)), (16, .int (nI i)), (15, .ref q), (14, .int (nI bt)), (11, .int (plR bt jc tc ln σ n)), (10, .int (fIn (plL bt jc tc ln σ n) tc 2)), (7, .int (nI n)), (5, .int (nI tc)), (4, .int (nI jc)), (2, .int (nI t)), (1, .ref (X.2.1 5 0 0)), (0, .ref b)] [] := by
  intro f
  induction f with
  | zero =>
    intro h g hf hH
    obtain rfl : h = 2 := by omega
    refine v_iload F dL_law_500 0 rfl ?_
    refine v_iconst F (v := nI 2) dL_law_502 (by decide) ?_
    refine v_icmp_ge F (tgt := 588) dL_law_503 (by decide) (fun c503 => ?_) (fun h => absurd (nI_le (Nat.le_refl _) (by omega)) h)
    exact v_locs [1, 2, 3, 4, 5, 6, 7, 8, 9, 10, 11] rfl (K g (HI_next hH))
  | succ f ih =>
    intro h g hf hH
    have hh : h < 2 := by omega
    refine v_iload F dL_law_500 0 rfl ?_
    refine v_iconst F (v := nI 2) dL_law_502 (by decide) ?_
    refine v_icmp_ge F (tgt := 588) dL_law_503 (by decide) (fun h => absurd h (nI_ge (by omega) (by omega))) (fun c503 => ?_)
    refine v_aload F dL_law_506 2 rfl ?_
    refine v_iload F dL_law_508 1 rfl ?_
    refine v_xaald F 0 rfl i (Ix_nI hi (by omega)) (if_pos hi) dL_law_510 ?_
    refine v_iload F dL_law_511 0 rfl ?_
    refine v_aload_n F dL_law_513 rfl 10 rfl ?_
    refine v_iload F dL_law_514 1 rfl ?_
    refine v_iconst F (v := nI 2) dL_law_516 (by decide) ?_
    refine v_iload F dL_law_517 0 rfl ?_
    refine v_iadd F dL_law_519 ?_
    refine v_topr (nI (2 + h)) (nI_add _ _) ?_
    refine v_callVi F (As := [_, _]) (rest := [.int _, .ref _]) rfl (c_X4_juggler G hS hi (q := 2 + h) (by omega)) Rv_H wm_L_57 rfl ⟨rfl, rfl, Nat.le_of_ble_eq_true rfl, Nat.le_of_ble_eq_true rfl, (by show _ ≤ 787500; omega), (by show _ ≤ 6738968; omega), Nat.le_of_ble_eq_true rfl⟩ dL_law_520 ?_
    refine v_topr (σ 6 i h) (by rw [hM]; exact tellJ_h hh) ?_
    refine v_xast F (i + 1) (exR_at hi) h (Ix_nI hh) (exR_set hi) dL_law_523 ?_
    refine v_iload F dL_law_524 3 rfl ?_
    refine v_istore F dL_law_526 (by decide) (lv' := [(18, .int _), (17, .int _), (16, .int _), (15, .ref _), (14, .int _), (11, .int _), (10, .int _), (7, .int _), (5, .int _), (4, .int _), (2, .int _), (1, .ref _), (0, .ref _)]) rfl ?_
    refine v_locs [0, 1, 2, 3, 4, 5, 6, 7, 8, 9, 10, 11, 12] rfl ?_
    refine L_held_x F G hC hS0 h4 hM hS hbt hn4 hi hh (fun g hH hg => ?_) n 0 _ (Nat.add_zero n) (HI_upd hH) (by rw [upd2_at]; rfl)
    refine v_iinc F (k := 0) (nI (h + 1)) dL_law_582 rfl (iinc_nI h) (by decide) (lv' := [(17, .int _), (16, .int _), (15, .ref _), (14, .int _), (11, .int _), (10, .int _), (7, .int _), (5, .int _), (4, .int _), (2, .int _), (1, .ref _), (0, .ref _)]) rfl ?_
    refine v_goto F (tgt := 500) dL_law_585 (by decide) ?_
    exact ih (h + 1) g (by omega) (HI_hand hH hg)
set_option maxHeartbeats 4000000 in
set_option maxRecDepth 100000 in
theorem L_held_i (F : Fx p l s m #[Value.ref b] meth c cL_law 28 RL X) (G : Gx X l) {C S t jc tc bt n q : Nat} {r : Nat → Nat} {σ : Sg} {ln : Nat → Nat} (hC : C + 19 ≤ 787500) (hS0 : S + 92 ≤ 6738968) (h4 : jc ≤ 4) (hM : M 0 = σ) (hS : Shp (M 0) jc tc ln) (hbt : bt ≤ 1000) (hn4 : n ≤ 4) (K : ∀ g : Nat → Nat → Int32, HI σ bt ln n jc 0 g → V p l e room_1 s m #[Value.ref b] below meth c Q X 28 (exR X q jc r g) (M) lf (C + 1 + jc) (S + jc + jc * 2) 594 [(15, .ref q), (14, .int (nI bt)), (11, .int (plR bt jc tc ln σ n)), (10, .int (fIn (plL bt jc tc ln σ n) tc 2)), (7, .int (nI n)), (5, .int (nI tc)), (4, .int (nI jc)), (2, .int (nI t)), (1, .ref (X.2.1 5 0 0)), (0, .ref b)] [])  : ∀ (f i : Nat) (g : Nat → Nat → Int32), f + i = jc → HI σ bt ln n i 0 g → V p l e room_1 s m #[Value.ref b] below meth c Q X 28 (exR X q jc r g) (M) lf (C + 1 + jc) (S + jc + jc * 2) 490 [(16, .int (nI i)), (15, .ref q), (14, .int (nI bt)), (11, .int (plR bt jc tc ln σ n)), (10, .int (fIn (plL bt jc tc ln σ n) tc 2)), (7, .int (nI n)), (5, .int (nI tc)), (4, .int (nI jc)), (2, .int (nI t)), (1, .ref (X.2.1 5 0 0)), (0, .ref b)] [] := by
  intro f
  induction f with
  | zero =>
    intro i g hf hH
    obtain rfl : i = jc := by omega
    refine v_iload F dL_law_490 0 rfl ?_
    refine v_iload F dL_law_492 7 rfl ?_
    refine v_icmp_ge F (tgt := 594) dL_law_494 (by decide) (fun c494 => ?_) (fun h => absurd (nI_le (Nat.le_refl _) (by omega)) h)
    exact v_locs [1, 2, 3, 4, 5, 6, 7, 8, 9, 10] rfl (K g hH)
  | succ f ih =>
    intro i g hf hH
    have hi : i < jc := by omega
    refine v_iload F dL_law_490 0 rfl ?_
    refine v_iload F dL_law_492 7 rfl ?_
    refine v_icmp_ge F (tgt := 594) dL_law_494 (by decide) (fun h => absurd h (nI_ge (by omega) (by omega))) (fun c494 => ?_)
    refine v_iconst F (v := nI 0) dL_law_497 (by decide) ?_
    refine v_istore F dL_law_498 (by decide) (lv' := [(17, .int _), (16, .int _), (15, .ref _), (14, .int _), (11, .int _), (10, .int _), (7, .int _), (5, .int _), (4, .int _), (2, .int _), (1, .ref _), (0, .ref _)]) rfl ?_
    refine L_held_h F G hC hS0 h4 hM hS hbt hn4 hi (fun g hH => ?_) 2 0 g rfl hH
    · skip
      refine v_iinc F (k := 0) (nI (i + 1)) dL_law_588 rfl (iinc_nI i) (by decide) (lv' := [(16, .int _), (15, .ref _), (14, .int _), (11, .int _), (10, .int _), (7, .int _), (5, .int _), (4, .int _), (2, .int _), (1, .ref _), (0, .ref _)]) rfl ?_
      refine v_goto F (tgt := 490) dL_law_591 (by decide) ?_
      exact ih (i + 1) g (by omega) hH
set_option maxHeartbeats 4000000 in
set_option maxRecDepth 100000 in
theorem law_held (F : Fx p l s m #[Value.ref b] meth c cL_law 28 RL X) (G : Gx X l) {C S t jc tc bt n : Nat} {σ : Sg} {ln : Nat → Nat} (hC : C + 19 ≤ 787500) (hS0 : S + 92 ≤ 6738968) (h4 : jc ≤ 4) (hov : va_AOA .int s) (hM : M 0 = σ) (I : RI σ jc tc bt ln) (hbt : bt ≤ 1000) (hn4 : n ≤ 4) (K : ∀ (q : Nat) (r : Nat → Nat) (g : Nat → Nat → Int32), HI σ bt ln n jc 0 g → V p l e room_1 s m #[Value.ref b] below meth c Q X 28 (exR X q jc r g) (M) lf (C + 1 + jc) (S + jc + jc * 2) 594 [(15, .ref q), (14, .int (nI bt)), (11, .int (plR bt jc tc ln σ n)), (10, .int (fIn (plL bt jc tc ln σ n) tc 2)), (7, .int (nI n)), (5, .int (nI tc)), (4, .int (nI jc)), (2, .int (nI t)), (1, .ref (X.2.1 5 0 0)), (0, .ref b)] [])  : V p l e room_1 s m #[Value.ref b] below meth c Q X 28 ([]) (M) lf (C) (S) 471 [(11, .int (plR bt jc tc ln σ n)), (10, .int (fIn (plL bt jc tc ln σ n) tc 2)), (7, .int (nI n)), (5, .int (nI tc)), (4, .int (nI jc)), (2, .int (nI t)), (1, .ref (X.2.1 5 0 0)), (0, .ref b)] [] := by
  have h12 := I.1.2.1
  have hS : Shp (M 0) jc tc ln := by rw [hM]; exact I.1
  refine v_aload_n F dL_law_471 rfl 6 rfl ?_
  refine v_iconst F (v := nI 0) dL_law_472 (by decide) ?_
  refine v_callVi F (As := [_]) (rest := []) rfl (c_X4_count G hS (q := 0) (by decide)) Rv_H wm_L_54 rfl ⟨rfl, rfl, Nat.le_of_ble_eq_true rfl, Nat.le_of_ble_eq_true rfl, (by show _ ≤ 787500; omega), (by show _ ≤ 6738968; omega), Nat.le_of_ble_eq_true rfl⟩ dL_law_473 ?_
  refine v_topr (nI bt) (by rw [hM]; exact I.2.1) ?_
  refine v_istore F dL_law_476 (by decide) (lv' := [(14, .int _), (11, .int _), (10, .int _), (7, .int _), (5, .int _), (4, .int _), (2, .int _), (1, .ref _), (0, .ref _)]) rfl ?_
  refine v_iload F dL_law_478 5 rfl ?_
  refine v_iconst F (v := nI 2) dL_law_480 (by decide) ?_
  refine v_xgrid F jc war_int wcl_L_77 hov (nI_pos (by omega)) (nI_clamp (by omega)) (by decide) (by decide) (by omega) (by show _ ≤ 787500; omega) (by show _ ≤ 6738968; omega) dL_law_481 (fun q r => ?_)
  refine v_astore F dL_law_485 (by decide) (lv' := [(15, .ref _), (14, .int _), (11, .int _), (10, .int _), (7, .int _), (5, .int _), (4, .int _), (2, .int _), (1, .ref _), (0, .ref _)]) rfl ?_
  refine v_iconst F (v := nI 0) dL_law_487 (by decide) ?_
  refine v_istore F dL_law_488 (by decide) (lv' := [(16, .int _), (15, .ref _), (14, .int _), (11, .int _), (10, .int _), (7, .int _), (5, .int _), (4, .int _), (2, .int _), (1, .ref _), (0, .ref _)]) rfl ?_
  refine v_locs [0, 1, 2, 3, 4, 5, 6, 7, 8, 9, 10] rfl ?_
  exact L_held_i F G hC hS0 h4 hM hS hbt hn4 (K q r) jc 0 _ (Nat.add_zero jc) ⟨fun a d ha => absurd ha (Nat.not_lt_zero a), fun d hd => absurd hd (Nat.not_lt_zero d)⟩
end LHELD
