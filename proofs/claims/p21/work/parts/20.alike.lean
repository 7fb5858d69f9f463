/-! ===== rings that are alike where it counts play alike ===== -/
section ALK
variable {σ σ' ρ : Sg} {jc tc b k i hd n j : Nat} {ln : Nat → Nat}
theorem Alk_rfl : Alk σ σ jc tc ln := ⟨fun _ _ _ => rfl, fun _ _ => ⟨fun _ _ _ => rfl, rfl, fun _ _ => rfl, fun _ _ => ⟨rfl, rfl⟩⟩, fun _ _ _ _ => rfl⟩
theorem Alk_u3 (A : Alk σ σ' jc tc ln) (a x c : Nat) (v : Int32) : Alk (u3 σ a x c v) (u3 σ' a x c v) jc tc ln := by
  obtain ⟨a0, aj, at'⟩ := A
  refine ⟨fun c h1 h2 => ?_, fun i hi => ⟨fun c h1 h2 => ?_, ?_, fun h hh => ?_, fun p hp => ⟨?_, ?_⟩⟩, fun k hk c hc => ?_⟩
  all_goals
    rw [u3_eq, u3_eq]
    split
    · rfl
  · exact a0 c h1 h2
  · exact (aj i hi).1 c h1 h2
  · exact (aj i hi).2.1
  · exact (aj i hi).2.2.1 h hh
  · exact ((aj i hi).2.2.2 p hp).1
  · exact ((aj i hi).2.2.2 p hp).2
  · exact at' k hk c hc
theorem Alk_fall (A : Alk σ σ' jc tc ln) (hk : k < tc) : Alk (fFall σ k) (fFall σ' k) jc tc ln := by
  unfold fFall
  rw [A.2.2 k hk 0 (by omega), A.2.2 k hk 7 (by omega)]
  exact Alk_u3 (Alk_u3 (Alk_u3 A _ _ _ _) _ _ _ _) _ _ _ _
theorem Alk_miss (A : Alk σ σ' jc tc ln) (hk : k < tc) (hi : i < jc) : Alk (fMiss σ i k) (fMiss σ' i k) jc tc ln := by
  unfold fMiss
  rw [A.2.2 k hk 0 (by omega)]
  split
  · rw [(A.2.1 i hi).1 3 (by omega) (by omega)]
    exact Alk_fall (Alk_u3 A _ _ _ _) hk
  · exact Alk_fall A hk
theorem Alk_put (A : Alk σ σ' jc tc ln) (to : Int32) : Alk (fPut σ k to j hd) (fPut σ' k to j hd) jc tc ln := by
  unfold fPut
  exact Alk_u3 (Alk_u3 (Alk_u3 (Alk_u3 A _ _ _ _) _ _ _ _) _ _ _ _) _ _ _ _
theorem Alk_dn1 (S : Shp σ jc tc ln) (A : Alk σ σ' jc tc ln) (hk : k < tc) (hh : hd < 2) : Alk (fDown1 σ k hd) (fDown1 σ' k hd) jc tc ln ∧ fDown1r σ' k hd = fDown1r σ k hd := by
  have e1 : fDown σ' k (σ' 0 0 4) = fDown σ k (σ 0 0 4) := by
    unfold fDown
    rw [A.2.2 k hk 1 (by omega), A.2.2 k hk 4 (by omega), A.1 4 (by omega) (by omega)]
  have e2 : σ' 8 k 2 = σ 8 k 2 := A.2.2 k hk 2 (by omega)
  have e3 : ∀ x, fHasJ σ' x = fHasJ σ x := fun x => by
    unfold fHasJ
    rw [A.1 2 (by omega) (by omega)]
  have e5 : σ' 8 k 5 = σ 8 k 5 := A.2.2 k hk 5 (by omega)
  unfold fDown1 fDown1r
  rw [e1, e2, e3, e5]
  by_cases f0 : fDown σ k (σ 0 0 4) = 0
  · simp only [if_pos f0]
    exact ⟨A, trivial⟩
  · simp only [if_neg f0]
    by_cases f1 : fHasJ σ (σ 8 k 2) = 0
    · simp only [if_pos f1]
      exact ⟨A, trivial⟩
    · simp only [if_neg f1]
      have ix := (fHasJ_ix S.2.2.1 S.1 f1).2.2
      generalize (σ 8 k 2).toNatClampNeg = i at ix
      have e4 : fCan σ' i (σ 8 k 5) hd = fCan σ i (σ 8 k 5) hd := by
        unfold fCan
        rw [(A.2.1 i ix).2.2.1 hd hh, (A.2.1 i ix).1 2 (by omega) (by omega)]
      rw [e4]
      by_cases f2 : fCan σ i (σ 8 k 5) hd = 0
      · simp only [if_pos f2]
        exact ⟨Alk_miss A hk ix, trivial⟩
      · simp only [if_neg f2]
        have B : Alk (fPut σ k (σ 8 k 2) i hd) (fPut σ' k (σ 8 k 2) i hd) jc tc ln := Alk_put A _
        rw [(B.2.1 i ix).1 4 (by omega) (by omega)]
        exact ⟨Alk_u3 B _ _ _ _, trivial⟩
theorem Alk_dn (S : Shp σ jc tc ln) (A : Alk σ σ' jc tc ln) (hh : hd < 2) : ∀ n, n ≤ tc → Alk (dnL hd σ n) (dnL hd σ' n) jc tc ln ∧ dnR hd σ' n = dnR hd σ n
  | 0, _ => ⟨A, rfl⟩
  | n + 1, h => by
    obtain ⟨h1, h2⟩ := Alk_dn S A hh n (by omega)
    obtain ⟨g1, g2⟩ := Alk_dn1 (Shp_dn S n) h1 (show n < tc by omega) hh
    refine ⟨g1, ?_⟩
    show dnR hd σ' n + fDown1r (dnL hd σ' n) n hd = dnR hd σ n + fDown1r (dnL hd σ n) n hd
    rw [h2, g2]
theorem Alk_throw {q : Nat} (S : Shp σ jc tc ln) (A : Alk σ σ' jc tc ln) (hi : i < jc) (hq : q < ln i) (hh : hd < 2) : Alk (fThrow σ i q hd) (fThrow σ' i q hd) jc tc ln := by
  have e1 : ∀ x, fHasT σ' x = fHasT σ x := fun x => by
    unfold fHasT
    rw [A.1 3 (by omega) (by omega)]
  unfold fThrow
  rw [(A.2.1 i hi).2.2.1 hd hh, e1, ((A.2.1 i hi).2.2.2 q hq).1, ((A.2.1 i hi).2.2.2 q hq).2, A.1 4 (by omega) (by omega)]
  by_cases f0 : fHasT σ (σ 6 i hd) = 0
  · simp only [if_pos f0]
    exact A
  · simp only [if_neg f0]
    have ix := (fHasT_ix S.2.2.2.1 S.2.1 f0).2.2
    generalize (σ 6 i hd).toNatClampNeg = k at ix
    split
    · exact A
    · unfold fFly
      rw [A.2.2 k ix 0 (by omega), A.2.2 k ix 6 (by omega)]
      exact Alk_u3 (Alk_u3 (Alk_u3 (Alk_u3 (Alk_u3 (Alk_u3 (Alk_u3 A _ _ _ _) _ _ _ _) _ _ _ _) _ _ _ _) _ _ _ _) _ _ _ _) _ _ _ _
theorem Alk_th (S : Shp σ jc tc ln) (A : Alk σ σ' jc tc ln) : ∀ n, n ≤ jc → Alk (thL b ln σ n) (thL b ln σ' n) jc tc ln
  | 0, _ => A
  | n + 1, h => Alk_throw (Shp_th S n) (Alk_th S A n (by omega)) (show n < jc by omega) (Nat.mod_lt b (S.2.2.2.2 n (by omega)).1) (Nat.mod_lt b (by decide))
theorem Alk_beat (S : Shp σ jc tc ln) (A : Alk σ σ' jc tc ln) : Alk (fBeat σ b jc tc ln) (fBeat σ' b jc tc ln) jc tc ln ∧ fBeatR σ' b tc = fBeatR σ b tc := by
  obtain ⟨h1, h2⟩ := Alk_dn S A (Nat.mod_lt b (by decide : 0 < 2)) tc (Nat.le_refl tc)
  exact ⟨Alk_u3 (Alk_th (Shp_dn S tc) h1 jc (Nat.le_refl jc)) _ _ _ _, h2⟩
theorem Alk_play (S : Shp σ jc tc ln) (A : Alk σ σ' jc tc ln) : ∀ n, Alk (plL b jc tc ln σ n) (plL b jc tc ln σ' n) jc tc ln ∧ plR b jc tc ln σ' n = plR b jc tc ln σ n
  | 0 => ⟨A, rfl⟩
  | n + 1 => by
    obtain ⟨h1, h2⟩ := Alk_play S A n
    obtain ⟨g1, g2⟩ := Alk_beat (Shp_pl S n) h1
    refine ⟨g1, ?_⟩
    show plR b jc tc ln σ' n + fBeatR (plL b jc tc ln σ' n) (b + n) tc = plR b jc tc ln σ n + fBeatR (plL b jc tc ln σ n) (b + n) tc
    rw [h2, g2]
theorem Alk_in (A : Alk σ σ' jc tc ln) (x : Int32) : fIn σ' tc x = fIn σ tc x := cI_eq (fun k hk => by rw [A.2.2 k hk 1 (by omega)])
-- falls
/-- what falls in the beat x from now on -/
def rB (σ : Sg) (b jc tc : Nat) (ln : Nat → Nat) (x : Nat) : Int32 := fBeatR (plL b jc tc ln σ x) (b + x) tc
theorem rB_alk (S : Shp σ jc tc ln) (A : Alk σ σ' jc tc ln) (x : Nat) : rB σ' b jc tc ln x = rB σ b jc tc ln x := (Alk_beat (Shp_pl S x) (Alk_play S A x).1).2
theorem flF_spec {f : Nat → Int32} : ∀ k q, (flF f k q = -1 ∧ ∀ x, q ≤ x → x < q + k → f x ≤ 0) ∨ ∃ x, q ≤ x ∧ x < q + k ∧ flF f k q = nI x ∧ ¬ f x ≤ 0 ∧ ∀ y, q ≤ y → y < x → f y ≤ 0
  | 0, q => Or.inl ⟨rfl, fun x h1 h2 => by omega⟩
  | k + 1, q => by
    unfold flF
    by_cases z : f q ≤ 0
    · rw [if_pos z]
      rcases flF_spec k (q + 1) with ⟨h1, h2⟩ | ⟨x, h1, h2, h3, h4, h5⟩
      · refine Or.inl ⟨h1, fun x g1 g2 => ?_⟩
        by_cases y : x = q
        · rw [y]; exact z
        · exact h2 x (by omega) (by omega)
      · refine Or.inr ⟨x, by omega, by omega, h3, h4, fun y g1 g2 => ?_⟩
        by_cases w : y = q
        · rw [w]; exact z
        · exact h5 y (by omega) g2
    · rw [if_neg z]
      exact Or.inr ⟨q, Nat.le_refl q, by omega, rfl, z, fun y g1 g2 => by omega⟩
theorem plR_pos (h12 : tc ≤ 12) : ∀ n, n ≤ 1000 → ∃ d, d ≤ n * 12 ∧ plR b jc tc ln σ n = nI d ∧ (0 < d ↔ ∃ x, x < n ∧ ¬ rB σ b jc tc ln x ≤ 0)
  | 0, _ => ⟨0, Nat.le_refl _, rfl, fun h => absurd h (Nat.lt_irrefl 0), fun ⟨x, h, _⟩ => absurd h (Nat.not_lt_zero x)⟩
  | n + 1, hn => by
    obtain ⟨d, h1, h2, h3⟩ := plR_pos h12 n (by omega)
    obtain ⟨d2, g1, g2⟩ := dnR_n (hd := (b + n) % 2) (σ := plL b jc tc ln σ n) tc
    have g3 : rB σ b jc tc ln n = nI d2 := g2
    refine ⟨d + d2, by omega, ?_, ?_⟩
    · show plR b jc tc ln σ n + rB σ b jc tc ln n = _
      rw [h2, g3, nI_add]
    · have e : ¬ rB σ b jc tc ln n ≤ 0 ↔ 0 < d2 := by
        rw [g3]
        constructor
        · intro z
          rcases Nat.lt_or_ge 0 d2 with w | w
          · exact w
          · have : d2 = 0 := by omega
            rw [this] at z
            exact absurd (show nI 0 ≤ 0 by decide) z
        · exact fun w => nI_nle w (by omega)
      constructor
      · intro w
        by_cases z : 0 < d2
        · exact ⟨n, by omega, e.mpr z⟩
        · obtain ⟨x, x1, x2⟩ := h3.mp (by omega)
          exact ⟨x, by omega, x2⟩
      · rintro ⟨x, x1, x2⟩
        by_cases z : x = n
        · subst z
          have := e.mp x2
          omega
        · have := h3.mpr ⟨x, by omega, x2⟩
          omega
/-- the first fall and how many fall are told alike -/
theorem falls_e (S : Shp σ jc tc ln) (A : Alk σ σ' jc tc ln) (h1 : 1 ≤ n) (h200 : n ≤ 200) : (0 < flF (fFall1 σ' b jc tc ln) 200 1 ∧ flF (fFall1 σ' b jc tc ln) 200 1 ≤ nI n) ↔ 0 < plR b jc tc ln σ n := by
  obtain ⟨d, d1, d2, d3⟩ := plR_pos (b := b) (jc := jc) (ln := ln) (σ := σ) S.2.1 n (by omega)
  have ef : ∀ x, fFall1 σ' b jc tc ln (x + 1) = rB σ b jc tc ln x := fun x => rB_alk S A x
  have e0 : 0 < plR b jc tc ln σ n ↔ 0 < d := by
    rw [d2]
    show nI 0 < nI d ↔ 0 < d
    exact nI_ltI (by decide) (by omega)
  rw [e0, d3]
  rcases flF_spec (f := fFall1 σ' b jc tc ln) 200 1 with ⟨g1, g2⟩ | ⟨x, x1, x2, x3, x4, x5⟩
  · rw [g1]
    constructor
    · exact fun z => absurd z.1 (by decide)
    · rintro ⟨y, y1, y2⟩
      exact absurd ((ef y) ▸ g2 (y + 1) (by omega) (by omega)) y2
  · rw [x3]
    have q1 : (0 : Int32) < nI x := nI_lt (a := 0) (by omega) (by omega)
    obtain ⟨y, rfl⟩ : ∃ y, x = y + 1 := ⟨x - 1, by omega⟩
    constructor
    · rintro ⟨-, z⟩
      have := (nI_leI (by omega) (by omega)).mp z
      exact ⟨y, by omega, by rw [← ef]; exact x4⟩
    · rintro ⟨w, w1, w2⟩
      refine ⟨q1, (nI_leI (by omega) (by omega)).mpr ?_⟩
      rcases Nat.lt_or_ge w y with z | z
      · exact absurd ((ef w) ▸ x5 (w + 1) (by omega) (by omega)) w2
      · omega
-- advise
theorem Alk_with {p h : Nat} (hp : p < ln j) (hj : j < jc) (e : σ 4 j p = nI h) : Alk σ (fWith σ ρ b jc tc ln n j p h) jc tc ln := by
  obtain ⟨a0, aj, at'⟩ := Alk_copy (ρ := σ) (σ := ρ) (jc := jc) (tc := tc) (ln := ln)
  unfold fWith
  refine ⟨fun c h1 h2 => ?_, fun i hi => ⟨fun c h1 h2 => ?_, ?_, fun h hh => ?_, fun q hq => ⟨?_, ?_⟩⟩, fun k hk c hc => ?_⟩
  · rw [u3_ne (by omega)]; exact a0 c h1 h2
  · rw [u3_ne (by omega)]; exact (aj i hi).1 c h1 h2
  · rw [u3_ne (by omega)]; exact (aj i hi).2.1
  · rw [u3_ne (by omega)]; exact (aj i hi).2.2.1 h hh
  · rw [u3_eq]
    split
    · rename_i z
      obtain ⟨-, rfl, rfl⟩ := z
      exact e.symm
    · exact ((aj i hi).2.2.2 q hq).1
  · rw [u3_ne (by omega)]; exact ((aj i hi).2.2.2 q hq).2
  · rw [u3_ne (by omega)]; exact at' k hk c hc
/-- an advice that may stand -/
def AdOk (σ : Sg) (j : Nat) (ln : Nat → Nat) (ad : Int32) : Prop := ad = -1 ∨ ∃ p h, p < ln j ∧ h ≤ 9 ∧ ad = nI (10 * p + h) ∧ ¬ σ 4 j p = nI h
theorem adI_ok {p : Nat} (S : Shp σ jc tc ln) (hp : p < ln j) (hj : j < jc) : ∀ (k h : Nat) (fw ad : Int32) (ρ : Sg), h + k = 10 → fw ≤ plR b jc tc ln σ n → AdOk σ j ln ad → (adI σ b jc tc ln n j p k h fw ad ρ).1 ≤ plR b jc tc ln σ n ∧ AdOk σ j ln (adI σ b jc tc ln n j p k h fw ad ρ).2.1
  | 0, _, fw, ad, ρ, _, h1, h2 => ⟨h1, h2⟩
  | k + 1, h, fw, ad, ρ, hk, h1, h2 => by
    unfold adI
    split
    · exact ⟨h1, h2⟩
    · split
      · rename_i z
        refine adI_ok S hp hj k (h + 1) _ _ _ (by omega) (Int32.le_of_lt (Int32.lt_of_lt_of_le z h1)) (Or.inr ⟨p, h, hp, by omega, ?_, fun e => ?_⟩)
        · rw [show (10 : Int32) = nI 10 from rfl, pk_mul, nI_add]
        · have := (Alk_play (b := b) S (Alk_with (ρ := ρ) (b := b) (n := n) hp hj e) n).2
          rw [this] at z
          exact Int32.lt_irrefl (Int32.lt_of_lt_of_le z h1)
      · exact adI_ok S hp hj k (h + 1) _ _ _ (by omega) h1 h2
theorem adO_ok (S : Shp σ jc tc ln) (hj : j < jc) : ∀ (k p : Nat) (fw ad : Int32) (ρ : Sg), p + k = ln j → fw ≤ plR b jc tc ln σ n → AdOk σ j ln ad → AdOk σ j ln (adO σ b jc tc ln n j k p fw ad ρ).1
  | 0, _, fw, ad, ρ, _, h1, h2 => h2
  | k + 1, p, fw, ad, ρ, hk, h1, h2 => by
    obtain ⟨g1, g2⟩ := adI_ok (b := b) (n := n) S (show p < ln j by omega) hj 10 0 fw ad ρ rfl h1 h2
    exact adO_ok S hj k (p + 1) _ _ _ (by omega) g1 g2
/-- the advice itself -/
theorem advise_ok (S : Shp σ jc tc ln) (hj : j < jc) : AdOk σ j ln (adO σ b jc tc ln n j (ln j) 0 (plR b jc tc ln (fCopyR ρ σ jc tc ln) n) (-1) (plL b jc tc ln (fCopyR ρ σ jc tc ln) n)).1 :=
  adO_ok S hj (ln j) 0 _ _ _ (Nat.zero_add _) (by rw [(Alk_play (b := b) S Alk_copy n).2]; exact Int32.le_refl _) (Or.inl rfl)
end ALK
