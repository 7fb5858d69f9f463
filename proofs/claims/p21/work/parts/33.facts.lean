/-! ===== what the law asks of a ring ===== -/
section LF
variable {σ ρ : Sg} {jc tc b k i h n j : Nat} {ln : Nat → Nat}
theorem e_air (S : Shp σ jc tc ln) : fIn (plL b jc tc ln (fCopyR ρ σ jc tc ln) n) tc 2 = fIn (plL b jc tc ln σ n) tc 2 := Alk_in (Alk_play S Alk_copy n).1 2
theorem e_falls (S : Shp σ jc tc ln) : plR b jc tc ln (fCopyR ρ σ jc tc ln) n = plR b jc tc ln σ n := (Alk_play S Alk_copy n).2
theorem lg_self (v : Int64) : lg_cmp v v = 0 := by
  unfold lg_cmp
  rw [if_neg (Int64.lt_irrefl), if_pos rfl]
theorem gvR_ne (hk : k < 2 ^ 31) (hh : h < 2) : ¬ gvR σ k j h = 0 := by
  unfold gvR
  split
  · exact held_put hk hh
  · decide
theorem tellJ_h (hh : h < 2) : fTellJ σ tc i (2 + h) = σ 6 i h := by
  rcases (show h = 0 ∨ h = 1 by omega) with rfl | rfl <;> rfl
-- what hands keep
def hldR (σ : Sg) (b : Nat) (ln : Nat → Nat) (i h : Nat) : Nat → Int32
  | 0 => σ 6 i h
  | x + 1 => if (b + x) % 2 = h ∧ ¬ σ 4 i ((b + x) % ln i) ≤ 0 then -1 else hldR σ b ln i h x
theorem hldR_t {x : Nat} (h1 : (b + x) % 2 = h) (h2 : ¬ σ 4 i ((b + x) % ln i) ≤ 0) : hldR σ b ln i h (x + 1) = -1 := if_pos ⟨h1, h2⟩
theorem hldR_f {x : Nat} (h1 : ¬ ((b + x) % 2 = h ∧ ¬ σ 4 i ((b + x) % ln i) ≤ 0)) : hldR σ b ln i h (x + 1) = hldR σ b ln i h x := if_neg h1
theorem hldR_m : ∀ n, hldR σ b ln i h n = -1 ∨ (hldR σ b ln i h n = σ 6 i h ∧ ∀ x, x < n → ¬ (h = (b + x) % 2 ∧ ¬ σ 4 i ((b + x) % ln i) ≤ 0))
  | 0 => Or.inr ⟨rfl, fun x hx => absurd hx (Nat.not_lt_zero x)⟩
  | n + 1 => by
    by_cases z : (b + n) % 2 = h ∧ ¬ σ 4 i ((b + n) % ln i) ≤ 0
    · exact Or.inl (if_pos z)
    · rw [hldR_f z]
      rcases hldR_m n with y | ⟨y1, y2⟩
      · exact Or.inl y
      · refine Or.inr ⟨y1, fun x hx => ?_⟩
        by_cases w : x = n
        · subst w
          exact fun u => z ⟨u.1.symm, u.2⟩
        · exact y2 x (by omega)
theorem hld_ok (I : RI σ jc tc b ln) (hb : b + n + 10 < 2 ^ 31) (hi : i < jc) (hh : h < 2) (hn : ¬ hldR σ b ln i h n < 0) : plL b jc tc ln σ n 6 i h = hldR σ b ln i h n := by
  rcases hldR_m (σ := σ) (b := b) (i := i) (h := h) (ln := ln) n with y | ⟨y1, y2⟩
  · rw [y] at hn
    exact absurd (by decide) hn
  · rw [y1]
    rw [y1] at hn
    exact (RI_play n hb I).2.2 i h hi hh (fun z => hn (by rw [z]; decide)) y2
-- things, counted
theorem fIn_succ {x : Int32} : fIn σ (k + 1) x = if σ 8 k 1 = x then fIn σ k x + 1 else fIn σ k x := by
  show (if decide (σ 8 k 1 = x) = true then fIn σ k x + 1 else fIn σ k x) = _
  by_cases z : σ 8 k 1 = x
  · rw [if_pos (decide_eq_true z), if_pos z]
  · rw [if_neg (by rw [decide_eq_false z]; decide), if_neg z]
theorem fly_succ {x : Int32} : fFlies σ (k + 1) x = if σ 8 k 1 = 2 ∧ σ 8 k 2 = x then fFlies σ k x + 1 else fFlies σ k x := by
  show (if (decide (σ 8 k 1 = 2) && decide (σ 8 k 2 = x)) = true then fFlies σ k x + 1 else fFlies σ k x) = _
  by_cases z : σ 8 k 1 = 2 ∧ σ 8 k 2 = x
  · rw [if_pos (by rw [decide_eq_true z.1, decide_eq_true z.2]; rfl), if_pos z]
  · rw [if_neg (fun y => z ?_), if_neg z]
    rw [Bool.and_eq_true] at y
    exact ⟨of_decide_eq_true y.1, of_decide_eq_true y.2⟩
/-- the tallies of where things are, and to whom they fly -/
def tlA (σ : Sg) (k : Nat) (f : Nat → Int32) : Prop := ∀ w, w < 4 → f w = fIn σ k (nI w)
def tlF (σ : Sg) (jc k : Nat) (f : Nat → Int32) : Prop := ∀ j, j < jc → f j = fFlies σ k (nI j)
theorem tlA_0 : tlA σ 0 (fun _ => 0) := fun _ _ => rfl
theorem tlF_0 : tlF σ jc 0 (fun _ => 0) := fun _ _ => rfl
theorem tlA_s {f : Nat → Int32} {w : Nat} (T : tlA σ k f) (hw : w < 4) (e : σ 8 k 1 = nI w) : tlA σ (k + 1) (upd f w (f w + nI 1)) := by
  intro v hv
  rw [fIn_succ, e]
  by_cases z : v = w
  · subst z
    rw [pk_us, if_pos rfl, T v hv]
    rfl
  · rw [pk_un z, if_neg (fun y => z (nI_inj (by omega) (by omega) y).symm)]
    exact T v hv
theorem tlF_n {f : Nat → Int32} (T : tlF σ jc k f) (e : ¬ σ 8 k 1 = 2) : tlF σ jc (k + 1) f := by
  intro v hv
  rw [fly_succ, if_neg (fun z => e z.1)]
  exact T v hv
theorem tlF_s {f : Nat → Int32} (T : tlF σ jc k f) (hi : i < jc) (h4 : jc ≤ 4) (e : σ 8 k 1 = 2) (e2 : σ 8 k 2 = nI i) : tlF σ jc (k + 1) (upd f i (f i + nI 1)) := by
  intro v hv
  rw [fly_succ, e2]
  by_cases z : v = i
  · subst z
    rw [pk_us, if_pos ⟨e, rfl⟩, T v hv]
    rfl
  · rw [pk_un z, if_neg (fun y => z (nI_inj (by omega) (by omega) y.2).symm)]
    exact T v hv
/-- a thing, as the law meets it -/
theorem th_cases (hb : b + 10 < 2 ^ 31) (I : RI σ jc tc b ln) (hk : k < tc) : (σ 8 k 1 = nI 0 ∧ σ 8 k 2 = -1 ∧ σ 8 k 3 = -1 ∧ fTellT σ k 4 = -1 ∧ (σ 8 k 0 = 2 → σ 8 k 7 = 0)) ∨ (σ 8 k 1 = nI 1 ∧ (∃ i h, i < jc ∧ h < 2 ∧ σ 8 k 2 = nI i ∧ σ 8 k 3 = nI h ∧ σ 6 i h = nI k) ∧ fTellT σ k 4 = -1 ∧ (σ 8 k 0 = 2 → σ 8 k 7 = 0)) ∨ (σ 8 k 1 = nI 2 ∧ (∃ i, i < jc ∧ σ 8 k 2 = nI i) ∧ σ 8 k 3 = -1 ∧ (∃ d, d ≤ 9 ∧ fTellT σ k 4 = nI d) ∧ (σ 8 k 0 = 2 → σ 8 k 7 = 0)) ∨ (σ 8 k 1 = nI 3 ∧ σ 8 k 2 = -1 ∧ σ 8 k 3 = -1 ∧ fTellT σ k 4 = -1 ∧ σ 8 k 0 = 2 ∧ σ 8 k 7 = 1) := by
  obtain ⟨g1, g2, g3⟩ := (I.2.2.2.2.1 k hk).2
  have t4 : ¬ σ 8 k 1 = 2 → fTellT σ k 4 = -1 := fun z => if_neg z
  rcases (I.2.2.2.2.1 k hk).1 with ⟨z1, z2, z3⟩ | ⟨z1, z2⟩ | ⟨z1, z2, i, d, z3, z4, z5, z6, z7⟩ | ⟨z1, z2, z3⟩
  · exact Or.inl ⟨z1, z2, z3, t4 (st02 z1).2.1, g3 (st02 z1).2.2⟩
  · exact Or.inr (Or.inl ⟨z1, z2, t4 (st12 z1).2.1, g3 (st12 z1).2.2⟩)
  · refine Or.inr (Or.inr (Or.inl ⟨z1, ⟨i, z3, z4⟩, z2, ⟨d - b, by omega, ?_⟩, g3 (st01 z1).2.2⟩))
    show (if σ 8 k 1 = 2 then σ 8 k 4 - σ 0 0 4 else -1) = _
    rw [if_pos z1, z7, I.2.1, pk_sub z5]
  · exact Or.inr (Or.inr (Or.inr ⟨z1, z2, z3, t4 (by rw [z1]; decide), g2 z1⟩))
end LF
/-! ===== rows of rows ===== -/
section XR
variable {p : Program} {l : Launch} {e : Env} {R : Room} {s : State} {m : MethodId} {args : Array Value} {below : List Frame} {meth : Method} {c : Code} {Q : State → Prop} {X : Cx} {nL : Nat} {ex : va_W} {M M' : Mem} {lf lf' : Lf} {cells slots pc : Nat} {lv : List (Nat × Value)} {st : List Value} {cc : ByteArray} {own : String}
theorem v_topP {x : Int32} {P : Int32 → Prop} (h : P x) (K : ∀ y, P y → V p l e R s m args below meth c Q X nL ex M lf cells slots pc lv (.int y :: st)) : V p l e R s m args below meth c Q X nL ex M lf cells slots pc lv (.int x :: st) := K x h
theorem v_topd {x : UInt64} (y : UInt64) (h : x = y) (K : V p l e R s m args below meth c Q X nL ex M lf cells slots pc lv (.double y :: st)) : V p l e R s m args below meth c Q X nL ex M lf cells slots pc lv (.double x :: st) := h ▸ K
theorem v_ex {ex' : va_W} (h : ex = ex') (K : V p l e R s m args below meth c Q X nL ex' M lf cells slots pc lv st) : V p l e R s m args below meth c Q X nL ex M lf cells slots pc lv st := h ▸ K
def upd2 (g : Nat → Nat → Int32) (i h : Nat) (v : Int32) : Nat → Nat → Int32 := fun a => if a = i then upd (g i) h v else g a
theorem upd2_at {g : Nat → Nat → Int32} {i h : Nat} {v : Int32} : upd2 g i h v i h = v := by
  unfold upd2
  rw [if_pos rfl, pk_us]
theorem upd2_ne {g : Nat → Nat → Int32} {i h a d : Nat} {v : Int32} (hne : ¬ (a = i ∧ d = h)) : upd2 g i h v a d = g a d := by
  unfold upd2
  by_cases z : a = i
  · subst z
    rw [if_pos rfl, pk_un (fun y => hne ⟨rfl, y⟩)]
  · rw [if_neg z]
theorem exR_len {q N : Nat} {r : Nat → Nat} {g : Nat → Nat → Int32} : (exR X q N r g).length = N + 1 := by
  simp
theorem exR_out {q N i : Nat} {r : Nat → Nat} {g : Nat → Nat → Int32} (hi : i < N) : (exR X q N r g ++ ex)[i + 1]? = some (r i, .inl (X.2.2.1 0, 2, .inl (g i))) := by
  rw [List.getElem?_append_left (by rw [exR_len]; omega)]
  show ((List.range N).map (fun i => (r i, Sum.inl (X.2.2.1 0, 2, Sum.inl (g i)))))[i]? = _
  rw [List.getElem?_map, List.getElem?_range hi]
  rfl
theorem exR_set {q N i h : Nat} {r : Nat → Nat} {g : Nat → Nat → Int32} {v : Int32} (hi : i < N) : (exR X q N r g).set (i + 1) (r i, .inl (X.2.2.1 0, 2, .inl (upd (g i) h v))) = exR X q N r (upd2 g i h v) := by
  show _ :: ((List.range N).map (fun i => (r i, Sum.inl (X.2.2.1 0, 2, Sum.inl (g i))))).set i _ = _ :: (List.range N).map (fun a => (r a, Sum.inl (X.2.2.1 0, 2, Sum.inl (upd2 g i h v a))))
  congr 1
  apply List.ext_getElem?
  intro j
  by_cases z : j = i
  · subst z
    rw [List.getElem?_set_self (by rw [List.length_map, List.length_range]; exact hi), List.getElem?_map, List.getElem?_range hi]
    show some _ = some (r j, Sum.inl (X.2.2.1 0, 2, Sum.inl (upd2 g j h v j)))
    unfold upd2
    rw [if_pos rfl]
  · rw [List.getElem?_set_ne (Ne.symm z), List.getElem?_map, List.getElem?_map]
    cases hj : (List.range N)[j]? with
    | none => rfl
    | some a =>
      have ha : a = j := by
        obtain ⟨h1, h2⟩ := List.getElem?_eq_some_iff.mp hj
        rw [List.getElem_range] at h2
        exact h2.symm
      subst ha
      show some (r a, Sum.inl (X.2.2.1 0, 2, Sum.inl (g a))) = some (r a, Sum.inl (X.2.2.1 0, 2, Sum.inl (upd2 g i h v a)))
      unfold upd2
      rw [if_neg z]
/-- with the tallies behind -/
abbrev exE (X : Cx) (q N : Nat) (r : Nat → Nat) (g : Nat → Nat → Int32) (a : Nat) (fa : Nat → Int32) (a2 : Nat) (fb : Nat → Int32) : va_W := exR X q N r g ++ [(a, .inl (X.2.2.1 0, 4, .inl fa)), (a2, .inl (X.2.2.1 0, N, .inl fb))]
theorem exE_a {q N : Nat} {r : Nat → Nat} {g : Nat → Nat → Int32} {a : Nat} {fa : Nat → Int32} {a2 : Nat} {fb : Nat → Int32} : (exE X q N r g a fa a2 fb)[N + 1]? = some (a, .inl (X.2.2.1 0, 4, .inl fa)) := by
  rw [List.getElem?_append_right (by rw [exR_len]; exact Nat.le_refl _), exR_len, Nat.sub_self]
  rfl
theorem exE_b {q N : Nat} {r : Nat → Nat} {g : Nat → Nat → Int32} {a : Nat} {fa : Nat → Int32} {a2 : Nat} {fb : Nat → Int32} : (exE X q N r g a fa a2 fb)[N + 2]? = some (a2, .inl (X.2.2.1 0, N, .inl fb)) := by
  rw [List.getElem?_append_right (by rw [exR_len]; omega), exR_len, show N + 2 - (N + 1) = 1 by omega]
  rfl
theorem exE_sa {q N : Nat} {r : Nat → Nat} {g : Nat → Nat → Int32} {a : Nat} {fa fa' : Nat → Int32} {a2 : Nat} {fb : Nat → Int32} : (exE X q N r g a fa a2 fb).set (N + 1) (a, .inl (X.2.2.1 0, 4, .inl fa')) = exE X q N r g a fa' a2 fb := by
  rw [List.set_append_right _ _ (by rw [exR_len]; exact Nat.le_refl _), exR_len, Nat.sub_self]
  rfl
theorem exE_sb {q N : Nat} {r : Nat → Nat} {g : Nat → Nat → Int32} {a : Nat} {fa : Nat → Int32} {a2 : Nat} {fb fb' : Nat → Int32} : (exE X q N r g a fa a2 fb).set (N + 2) (a2, .inl (X.2.2.1 0, N, .inl fb')) = exE X q N r g a fa a2 fb' := by
  rw [List.set_append_right _ _ (by rw [exR_len]; omega), exR_len, show N + 2 - (N + 1) = 1 by omega]
  rfl
end XR
