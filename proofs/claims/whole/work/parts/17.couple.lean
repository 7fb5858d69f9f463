/-! ===== the reference's numbers beside the class's ===== -/
theorem nI_m1 {k : Nat} (h : k < 2 ^ 31) : ¬ nI k = -1 := fun z => nI_pos h (by rw [z]; decide)
theorem nI_inj {a b : Nat} (ha : a < 2 ^ 31) (hb : b < 2 ^ 31) (h : nI a = nI b) : a = b := (nI_eq ha hb).mp h
-- the reference's steps
def gCatch (τ : Sg) (k i hd : Nat) : Sg := u3 (u3 (u3 τ 3 0 (2 * i + hd) (nI k + 1)) 4 0 k 1) 2 0 i (τ 2 0 i + 1)
def gMiss (τ q : Sg) (k i : Nat) : Sg := if q 5 0 k = 1 then u3 (u3 (u3 τ 9 0 k (τ 9 0 k + 1)) 4 0 k (if q 5 0 k = 2 then 3 else 0)) 1 0 i (τ 1 0 i + 1) else u3 (u3 τ 9 0 k (τ 9 0 k + 1)) 4 0 k (if q 5 0 k = 2 then 3 else 0)
def gDown (τ q : Sg) (k i hd : Nat) : Sg := if τ 3 0 (2 * i + hd) = 0 ∧ ¬ q 1 0 i + 2 < τ 7 0 k then gCatch τ k i hd else gMiss τ q k i
def gDn1 (τ q : Sg) (k b : Nat) : Sg := if τ 4 0 k = 2 ∧ τ 6 0 k = nI b then gDown τ q k (τ 5 0 k).toNatClampNeg (b % 2) else τ
def gdL (q : Sg) (b : Nat) (τ : Sg) : Nat → Sg
  | 0 => τ
  | n + 1 => gDn1 (gdL q b τ n) q n b
def gFly (τ q : Sg) (k hand place b : Nat) : Sg := u3 (u3 (u3 (u3 (u3 (u3 τ 3 0 hand 0) 4 0 k 2) 5 0 k (q 4 0 place)) 7 0 k (q 3 0 place)) 6 0 k (nI b + fAir (q 5 0 k) (q 3 0 place))) 8 0 k (τ 8 0 k + 1)
def gThrow (τ q : Sg) (j b n : Nat) : Sg := if τ 3 0 (2 * j + b % 2) = 0 ∨ q 3 0 (8 * j + b % n) = 0 then τ else gFly τ q (τ 3 0 (2 * j + b % 2) - 1).toNatClampNeg (2 * j + b % 2) (8 * j + b % n) b
def gtL (q : Sg) (b : Nat) (ln : Nat → Nat) (τ : Sg) : Nat → Sg
  | 0 => τ
  | n + 1 => gThrow (gtL q b ln τ n) q n b (ln n)
def gBeat (τ q : Sg) (b jc tc : Nat) (ln : Nat → Nat) : Sg := u3 (gtL q b ln (gdL q b τ tc) jc) 0 0 0 (nI (b + 1))
def ggL (q : Sg) (b jc tc : Nat) (ln : Nat → Nat) (τ : Sg) : Nat → Sg
  | 0 => τ
  | n + 1 => gBeat (ggL q b jc tc ln τ n) q (b + n) jc tc ln
-- what is alike
def St (σ q : Sg) (jc tc : Nat) (ln : Nat → Nat) : Prop := Shp σ jc tc ln ∧ q 0 0 1 = nI jc ∧ q 0 0 2 = nI tc ∧ (∀ i, i < jc → q 1 0 i = σ 2 i 2 ∧ q 2 0 i = nI (ln i) ∧ ∀ p, p < ln i → ∃ h t, h ≤ 9 ∧ t < jc ∧ σ 4 i p = nI h ∧ q 3 0 (8 * i + p) = nI h ∧ σ 5 i p = nI t ∧ q 4 0 (8 * i + p) = nI t) ∧ ∀ k, k < tc → q 5 0 k = σ 8 k 0
def cA (σ τ : Sg) (jc k : Nat) : Prop := ((σ 8 k 1 = 0 ∨ σ 8 k 1 = 3) ∧ σ 8 k 2 = -1 ∧ σ 8 k 3 = -1) ∨ (σ 8 k 1 = 1 ∧ ∃ i h, i < jc ∧ h < 2 ∧ σ 8 k 2 = nI i ∧ σ 8 k 3 = nI h ∧ σ 6 i h = nI k) ∨ (σ 8 k 1 = 2 ∧ ∃ i, i < jc ∧ σ 8 k 2 = nI i ∧ σ 8 k 3 = -1 ∧ τ 5 0 k = nI i ∧ τ 6 0 k = σ 8 k 4 ∧ τ 7 0 k = σ 8 k 5)
def cH (σ τ : Sg) (jc tc : Nat) : Prop := ∀ i h, i < jc → h < 2 → τ 3 0 (2 * i + h) = σ 6 i h + 1 ∧ (σ 6 i h = -1 ∨ ∃ k, k < tc ∧ σ 6 i h = nI k ∧ σ 8 k 1 = 1 ∧ σ 8 k 2 = nI i ∧ σ 8 k 3 = nI h)
def cT (σ τ : Sg) (jc tc : Nat) : Prop := ∀ k, k < tc → τ 4 0 k = σ 8 k 1 ∧ τ 8 0 k = σ 8 k 6 ∧ τ 9 0 k = σ 8 k 7 ∧ cA σ τ jc k
def cJ (σ τ : Sg) (jc : Nat) : Prop := ∀ i, i < jc → τ 1 0 i = σ 2 i 3 ∧ τ 2 0 i = σ 2 i 4
def cZ (τ : Sg) (jc tc : Nat) : Prop := (∀ i, jc ≤ i → i < 4 → τ 1 0 i = 0 ∧ τ 2 0 i = 0) ∧ (∀ h, 2 * jc ≤ h → h < 8 → τ 3 0 h = 0) ∧ ∀ k, tc ≤ k → k < 12 → τ 4 0 k = 0 ∧ τ 8 0 k = 0 ∧ τ 9 0 k = 0
def Dy (σ τ : Sg) (jc tc b : Nat) : Prop := σ 0 0 4 = nI b ∧ τ 0 0 0 = nI b ∧ cH σ τ jc tc ∧ cT σ τ jc tc ∧ cJ σ τ jc ∧ cZ τ jc tc
def Cp (σ q τ : Sg) (jc tc b : Nat) (ln : Nat → Nat) : Prop := St σ q jc tc ln ∧ Dy σ τ jc tc b
section CPL
variable {σ σ' τ τ' q : Sg} {jc tc b k i hd : Nat} {ln : Nat → Nat}
theorem cA_of (h : cA σ τ jc k) (h8 : ∀ c, σ' 8 k c = σ 8 k c) (h6 : ∀ i h, i < jc → h < 2 → σ 6 i h = nI k → σ' 6 i h = nI k) (h5 : τ' 5 0 k = τ 5 0 k) (h6' : τ' 6 0 k = τ 6 0 k) (h7 : τ' 7 0 k = τ 7 0 k) : cA σ' τ' jc k := by
  unfold cA
  rw [h8, h8, h8, h8, h8, h5, h6', h7]
  rcases h with h | ⟨h, i, a, h1, h2, h3, h4, h9⟩ | h
  · exact Or.inl h
  · exact Or.inr (Or.inl ⟨h, i, a, h1, h2, h3, h4, h6 i a h1 h2 h9⟩)
  · exact Or.inr (Or.inr h)
theorem St_of (h : St σ q jc tc ln) (hk : ∀ a b c, a = 3 ∨ a = 4 ∨ a = 5 ∨ (a = 0 ∧ c ≠ 4) ∨ (a = 2 ∧ c = 2) ∨ (a = 8 ∧ c = 0) → σ' a b c = σ a b c) : St σ' q jc tc ln := by
  refine ⟨Shp_of h.1 (fun a b c z => hk a b c (by omega)), h.2.1, h.2.2.1, fun i hi => ?_, fun k hk2 => by rw [hk 8 k 0 (by omega)]; exact h.2.2.2.2 k hk2⟩
  rw [hk 2 i 2 (by omega)]
  refine ⟨(h.2.2.2.1 i hi).1, (h.2.2.2.1 i hi).2.1, fun p hp => ?_⟩
  rw [hk 4 i p (by omega), hk 5 i p (by omega)]
  exact (h.2.2.2.1 i hi).2.2 p hp
-- caught
theorem Dy_catch (D : Dy σ τ jc tc b) (h4 : jc ≤ 4) (h12 : tc ≤ 12) (hk : k < tc) (hi : i < jc) (hh : hd < 2) (h2 : σ 8 k 1 = 2) (hw : σ 8 k 2 = nI i) (h6 : σ 6 i hd = -1) (e6 : ∀ a c, σ' 6 a c = if a = i ∧ c = hd then nI k else σ 6 a c) (e8 : ∀ a c, a ≠ k → σ' 8 a c = σ 8 a c) (e81 : σ' 8 k 1 = 1) (e82 : σ' 8 k 2 = nI i) (e83 : σ' 8 k 3 = nI hd) (e86 : σ' 8 k 6 = σ 8 k 6) (e87 : σ' 8 k 7 = σ 8 k 7) (e23 : ∀ a, σ' 2 a 3 = σ 2 a 3) (e24 : ∀ a, σ' 2 a 4 = if a = i then σ 2 i 4 + 1 else σ 2 a 4) (e0 : σ' 0 0 4 = σ 0 0 4) : Dy σ' (gCatch τ k i hd) jc tc b := by
  obtain ⟨d1, d2, dH, dT, dJ, dZ⟩ := D
  have g0 : ∀ a c, gCatch τ k i hd a 0 c = if a = 2 ∧ c = i then τ 2 0 i + 1 else if a = 4 ∧ c = k then 1 else if a = 3 ∧ c = 2 * i + hd then nI k + 1 else τ a 0 c := by
    intro a c
    unfold gCatch
    rw [u3_eq, u3_eq, u3_eq]
    simp
  refine ⟨e0.trans d1, ?_, ?_, ?_, ?_, ?_, ?_, ?_⟩
  · rw [g0]; simpa using d2
  · intro a h ha hh2
    rw [g0, e6]
    by_cases z : a = i ∧ h = hd
    · obtain ⟨rfl, rfl⟩ := z
      refine ⟨by simp, Or.inr ⟨k, hk, by simp, e81, e82, e83⟩⟩
    · have z2 : ¬ 2 * a + h = 2 * i + hd := by omega
      rw [if_neg z]
      refine ⟨by simpa [z2] using (dH a h ha hh2).1, ?_⟩
      rcases (dH a h ha hh2).2 with y | ⟨k2, y1, y2, y3, y4, y5⟩
      · exact Or.inl y
      · have hne : k2 ≠ k := fun z => by rw [z, h2] at y3; exact absurd y3 (by decide)
        exact Or.inr ⟨k2, y1, y2, by rw [e8 _ _ hne]; exact y3, by rw [e8 _ _ hne]; exact y4, by rw [e8 _ _ hne]; exact y5⟩
  · intro k2 hk2
    by_cases z : k2 = k
    · subst z
      refine ⟨by rw [g0, e81]; simp, by rw [g0, e86]; simpa using (dT k2 hk2).2.1, by rw [g0, e87]; simpa using (dT k2 hk2).2.2.1, Or.inr (Or.inl ⟨e81, i, hd, hi, hh, e82, e83, by rw [e6]; simp⟩)⟩
    · rw [e8 _ _ z, e8 _ _ z, e8 _ _ z]
      refine ⟨by rw [g0]; simpa [z] using (dT k2 hk2).1, by rw [g0]; simpa using (dT k2 hk2).2.1, by rw [g0]; simpa using (dT k2 hk2).2.2.1, cA_of (dT k2 hk2).2.2.2 (fun c => e8 _ _ z) (fun a h ha hh2 y => ?_) (by rw [g0]; simp) (by rw [g0]; simp) (by rw [g0]; simp)⟩
      rw [e6]
      by_cases z2 : a = i ∧ h = hd
      · obtain ⟨rfl, rfl⟩ := z2
        rw [h6] at y
        exact absurd y.symm (nI_m1 (by omega))
      · rw [if_neg z2]; exact y
  · intro a ha
    rw [g0, g0, e23, e24]
    refine ⟨by simpa using (dJ a ha).1, ?_⟩
    by_cases z : a = i
    · subst z; simp [(dJ a ha).2]
    · simpa [z] using (dJ a ha).2
  · intro a ha ha4
    rw [g0, g0]
    have : a ≠ i := by omega
    simpa [this] using dZ.1 a ha ha4
  · intro h hh1 hh8
    rw [g0]
    have : h ≠ 2 * i + hd := by omega
    simpa [this] using dZ.2.1 h hh1 hh8
  · intro k2 hk1 hk2
    rw [g0, g0, g0]
    have : k2 ≠ k := by omega
    simpa [this] using dZ.2.2 k2 hk1 hk2
-- missed
theorem Dy_miss (S : St σ q jc tc ln) (D : Dy σ τ jc tc b) (hk : k < tc) (hi : i < jc) (h2 : σ 8 k 1 = 2) (hw : σ 8 k 2 = nI i) (h3 : σ 8 k 3 = -1) (e6 : ∀ a c, σ' 6 a c = σ 6 a c) (e8 : ∀ a c, a ≠ k → σ' 8 a c = σ 8 a c) (e81 : σ' 8 k 1 = if σ 8 k 0 = 2 then 3 else 0) (e82 : σ' 8 k 2 = -1) (e83 : σ' 8 k 3 = σ 8 k 3) (e86 : σ' 8 k 6 = σ 8 k 6) (e87 : σ' 8 k 7 = σ 8 k 7 + 1) (e23 : ∀ a, σ' 2 a 3 = if σ 8 k 0 = 1 ∧ a = i then σ 2 i 3 + 1 else σ 2 a 3) (e24 : ∀ a, σ' 2 a 4 = σ 2 a 4) (e0 : σ' 0 0 4 = σ 0 0 4) : Dy σ' (gMiss τ q k i) jc tc b := by
  obtain ⟨d1, d2, dH, dT, dJ, dZ⟩ := D
  have hq : q 5 0 k = σ 8 k 0 := S.2.2.2.2 k hk
  have g0 : ∀ a c, gMiss τ q k i a 0 c = if a = 1 ∧ c = i ∧ σ 8 k 0 = 1 then τ 1 0 i + 1 else if a = 4 ∧ c = k then (if σ 8 k 0 = 2 then 3 else 0) else if a = 9 ∧ c = k then τ 9 0 k + 1 else τ a 0 c := by
    intro a c
    unfold gMiss
    rw [hq]
    split
    · rename_i y
      rw [u3_eq, u3_eq, u3_eq]
      simp [y]
    · rename_i y
      rw [u3_eq, u3_eq]
      simp [y]
  refine ⟨e0.trans d1, ?_, ?_, ?_, ?_, ?_, ?_, ?_⟩
  · rw [g0]; simpa using d2
  · intro a h ha hh2
    rw [g0, e6]
    refine ⟨by simpa using (dH a h ha hh2).1, ?_⟩
    rcases (dH a h ha hh2).2 with y | ⟨k2, y1, y2, y3, y4, y5⟩
    · exact Or.inl y
    · have hne : k2 ≠ k := fun z => by rw [z, h2] at y3; exact absurd y3 (by decide)
      exact Or.inr ⟨k2, y1, y2, by rw [e8 _ _ hne]; exact y3, by rw [e8 _ _ hne]; exact y4, by rw [e8 _ _ hne]; exact y5⟩
  · intro k2 hk2
    by_cases z : k2 = k
    · subst z
      refine ⟨by rw [g0, e81]; simp, by rw [g0, e86]; simpa using (dT k2 hk2).2.1, by rw [g0, e87]; simpa using (dT k2 hk2).2.2.1, Or.inl ⟨?_, e82, e83.trans h3⟩⟩
      rw [e81]
      split
      · exact Or.inr rfl
      · exact Or.inl rfl
    · rw [e8 _ _ z, e8 _ _ z, e8 _ _ z]
      exact ⟨by rw [g0]; simpa [z] using (dT k2 hk2).1, by rw [g0]; simpa using (dT k2 hk2).2.1, by rw [g0]; simpa [z] using (dT k2 hk2).2.2.1, cA_of (dT k2 hk2).2.2.2 (fun c => e8 _ _ z) (fun a h ha hh2 y => by rw [e6]; exact y) (by rw [g0]; simp) (by rw [g0]; simp) (by rw [g0]; simp)⟩
  · intro a ha
    rw [g0, g0, e23, e24]
    refine ⟨?_, by simpa using (dJ a ha).2⟩
    by_cases z : a = i
    · subst z; simp [(dJ a ha).1]
    · simpa [z] using (dJ a ha).1
  · intro a ha ha4
    rw [g0, g0]
    have : a ≠ i := by omega
    simpa [this] using dZ.1 a ha ha4
  · intro h hh1 hh8
    rw [g0]
    simpa using dZ.2.1 h hh1 hh8
  · intro k2 hk1 hk2
    rw [g0, g0, g0]
    have : k2 ≠ k := by omega
    simpa [this] using dZ.2.2 k2 hk1 hk2
end CPL
