/-! ===== every call keeps both sides alike ===== -/
def Fr (σ : Sg) (jc tc : Nat) : Prop := (∀ i, jc ≤ i → i < 4 → σ 2 i 3 = 0 ∧ σ 2 i 4 = 0 ∧ σ 6 i 0 = -1 ∧ σ 6 i 1 = -1) ∧ ∀ k, tc ≤ k → k < 12 → σ 8 k 1 = 0 ∧ σ 8 k 2 = -1 ∧ σ 8 k 3 = -1 ∧ σ 8 k 6 = 0 ∧ σ 8 k 7 = 0
def Fz (q : Sg) (jc : Nat) : Prop := ∀ i, jc ≤ i → i < 4 → q 3 0 (8 * i) = 0
def cF (τ : Sg) (b : Nat) : Prop := ∃ F, F ≤ 12 * b ∧ sI (τ 9 0) 12 = nI F
def Inv (σ q τ : Sg) (jc tc b : Nat) (ln : Nat → Nat) : Prop := Cp σ q τ jc tc b ln ∧ Fr σ jc tc ∧ Fz q jc ∧ cF τ b
def gCome (q : Sg) (j : Nat) (x : Int32) : Sg := u3 (u3 (u3 (u3 q 1 0 j x) 2 0 j 1) 4 0 (8 * j) (nI j)) 0 0 1 (nI (j + 1))
def grL (j : Nat) : Nat → Int32 → Sg → Sg
  | 0, _, q => q
  | n + 1, rest, q => grL j n (rest / 10) (u3 (u3 q 3 0 (8 * j + n) (rest - rest / 10 * 10)) 4 0 (8 * j + n) (nI j))
def gPat (q : Sg) (j n : Nat) (d : Int32) : Sg := grL j n d (u3 q 2 0 j (nI n))
def gMake (q : Sg) (k : Nat) (x : Int32) : Sg := u3 (u3 q 5 0 k x) 0 0 2 (nI (k + 1))
def gGive (τ : Sg) (k j hd : Nat) : Sg := u3 (u3 τ 4 0 k 1) 3 0 (2 * j + hd) (nI k + 1)
section STP
variable {σ σ' τ τ' ρ q : Sg} {jc tc b k i hd : Nat} {ln : Nat → Nat}
theorem Inv_q (I : Inv σ q τ jc tc b ln) (v : Int32) : Inv σ (u3 q 0 0 0 v) τ jc tc b ln := ⟨Cp_q I.1 v, I.2.1, fun i h1 h2 => by rw [u3_ne (by omega)]; exact I.2.2.1 i h1 h2, I.2.2.2⟩
-- come
theorem fAddJ_e {j : Nat} {sk : Int32} (a x c : Nat) : fAddJ σ j sk a x c = if a = 0 ∧ x = 0 ∧ c = 2 then nI j + 1 else if a = 5 ∧ x = j ∧ c = 0 then nI j else if a = 4 ∧ x = j ∧ c = 0 then 0 else if a = 3 ∧ x = j ∧ c = 2 then nI 1 else if a = 2 ∧ x = j ∧ c = 2 then sk else σ a x c := by
  unfold fAddJ fWrite wrL wrL
  rw [u3_eq, u3_eq, u3_eq, u3_eq, u3_eq]
  rfl
theorem gCome_e {j : Nat} {x : Int32} (a c : Nat) : gCome q j x a 0 c = if a = 0 ∧ c = 1 then nI (j + 1) else if a = 4 ∧ c = 8 * j then nI j else if a = 2 ∧ c = j then 1 else if a = 1 ∧ c = j then x else q a 0 c := by
  unfold gCome
  rw [u3_eq, u3_eq, u3_eq, u3_eq]
  simp
def lnSet (ln : Nat → Nat) (j n : Nat) : Nat → Nat := fun i => if i = j then n else ln i
theorem Inv_come (I : Inv σ q τ jc tc b ln) (hj : jc < 4) (x : Int32) : Inv (fAddJ σ jc x) (gCome q jc x) τ (jc + 1) tc b (lnSet ln jc 1) := by
  obtain ⟨⟨⟨⟨s4, s12, sJ, sT, sL⟩, S1, S2, SP, SK⟩, d1, d2, dH, dT, dJ, dZ⟩, ⟨f1, f2⟩, fz, cf⟩ := I
  refine ⟨⟨⟨⟨by omega, s12, ?_, ?_, fun i hi => ?_⟩, ?_, ?_, fun i hi => ?_, fun k hk => ?_⟩, ?_, d2, fun i h hi hh => ?_, fun k hk => ?_, fun i hi => ?_, ?_, ?_, dZ.2.2⟩, ⟨fun i hi h4 => ?_, fun k hk h12 => ?_⟩, fun i hi h4 => ?_, cf⟩
  · rw [fAddJ_e]; simp [nI_1]
  · rw [fAddJ_e]; simpa using sT
  · unfold lnSet
    rw [fAddJ_e]
    by_cases z : i = jc
    · subst z; simp
    · have := sL i (by omega)
      simpa [z] using this
  · rw [gCome_e]; simp
  · rw [gCome_e]; simpa using S2
  · unfold lnSet
    by_cases z : i = jc
    · subst z
      refine ⟨by rw [gCome_e, fAddJ_e]; simp, by rw [gCome_e]; simp; rfl, fun p hp => ?_⟩
      have hp0 : p = 0 := by simpa using hp
      subst hp0
      refine ⟨0, i, by omega, by omega, by rw [fAddJ_e]; simp; rfl, by rw [gCome_e]; simp; exact fz i (Nat.le_refl i) hj, by rw [fAddJ_e]; simp, by rw [gCome_e]; simp⟩
    · obtain ⟨a1, a2, a3⟩ := SP i (by omega)
      refine ⟨by rw [gCome_e, fAddJ_e]; simpa [z] using a1, by rw [gCome_e]; simpa [z] using a2, fun p hp => ?_⟩
      have hp2 : p < ln i := by simpa [z] using hp
      have h8 := (sL i (by omega)).2.1
      obtain ⟨h, t, h9, ht, b1, b2, b3, b4⟩ := a3 p hp2
      have hne : 8 * i + p ≠ 8 * jc := by omega
      exact ⟨h, t, h9, by omega, by rw [fAddJ_e]; simpa [z] using b1, by rw [gCome_e]; simpa using b2, by rw [fAddJ_e]; simpa [z] using b3, by rw [gCome_e]; simpa [hne] using b4⟩
  · rw [gCome_e, fAddJ_e]; simpa using SK k hk
  · rw [fAddJ_e]; simpa using d1
  · have e6 : fAddJ σ jc x 6 i h = σ 6 i h := by rw [fAddJ_e]; simp
    have e8 : ∀ a c, fAddJ σ jc x 8 a c = σ 8 a c := fun a c => by rw [fAddJ_e]; simp
    rw [e6]
    by_cases z : i = jc
    · subst z
      have hm : σ 6 i h = -1 := by
        have := f1 i (Nat.le_refl i) hj
        have hh2 : h = 0 ∨ h = 1 := by omega
        rcases hh2 with rfl | rfl
        · exact this.2.2.1
        · exact this.2.2.2
      exact ⟨by rw [hm, dZ.2.1 _ (by omega) (by omega)]; decide, Or.inl hm⟩
    · refine ⟨(dH i h (by omega) hh).1, ?_⟩
      rcases (dH i h (by omega) hh).2 with y | ⟨k, y1, y2, y3, y4, y5⟩
      · exact Or.inl y
      · exact Or.inr ⟨k, y1, y2, by rw [e8]; exact y3, by rw [e8]; exact y4, by rw [e8]; exact y5⟩
  · have e6 : ∀ i h, fAddJ σ jc x 6 i h = σ 6 i h := fun i h => by rw [fAddJ_e]; simp
    have e8 : ∀ a c, fAddJ σ jc x 8 a c = σ 8 a c := fun a c => by rw [fAddJ_e]; simp
    obtain ⟨t1, t2, t3, t4⟩ := dT k hk
    refine ⟨by rw [e8]; exact t1, by rw [e8]; exact t2, by rw [e8]; exact t3, ?_⟩
    unfold cA
    rw [e8, e8, e8, e8, e8]
    rcases t4 with z | ⟨z, i, h, hi, hh, z2, z3, z4⟩ | ⟨z, i, hi, z2⟩
    · exact Or.inl z
    · exact Or.inr (Or.inl ⟨z, i, h, by omega, hh, z2, z3, by rw [e6]; exact z4⟩)
    · exact Or.inr (Or.inr ⟨z, i, by omega, z2⟩)
  · rw [show fAddJ σ jc x 2 i 3 = σ 2 i 3 by rw [fAddJ_e]; simp, show fAddJ σ jc x 2 i 4 = σ 2 i 4 by rw [fAddJ_e]; simp]
    by_cases z : i = jc
    · subst z
      rw [(f1 i (Nat.le_refl i) hj).1, (f1 i (Nat.le_refl i) hj).2.1]
      exact dZ.1 i (Nat.le_refl i) hj
    · exact dJ i (by omega)
  · exact fun i h5 h6 => dZ.1 i (by omega) h6
  · exact fun h h5 h6 => dZ.2.1 h (by omega) h6
  · rw [fAddJ_e, fAddJ_e, fAddJ_e, fAddJ_e]
    simpa using f1 i (by omega) h4
  · rw [fAddJ_e, fAddJ_e, fAddJ_e, fAddJ_e, fAddJ_e]
    simpa using f2 k hk h12
  · rw [gCome_e]
    simpa using fz i (by omega) h4
-- setPattern
theorem grL_ne {j a c : Nat} (h : ¬ ((a = 3 ∨ a = 4) ∧ 8 * j ≤ c ∧ c < 8 * j + 8)) : ∀ (n : Nat) (d : Int32) (q : Sg), n ≤ 8 → grL j n d q a 0 c = q a 0 c
  | 0, _, _, _ => rfl
  | n + 1, d, q, hn => by
    show grL j n (d / 10) (u3 (u3 q 3 0 (8 * j + n) (d - d / 10 * 10)) 4 0 (8 * j + n) (nI j)) a 0 c = q a 0 c
    rw [grL_ne h n _ _ (by omega), u3_ne (by omega), u3_ne (by omega)]
theorem grL_hi {j a c : Nat} : ∀ (n : Nat) (d : Int32) (q : Sg), 8 * j + n ≤ c → grL j n d q a 0 c = q a 0 c
  | 0, _, _, _ => rfl
  | n + 1, d, q, h => by
    show grL j n (d / 10) (u3 (u3 q 3 0 (8 * j + n) (d - d / 10 * 10)) 4 0 (8 * j + n) (nI j)) a 0 c = q a 0 c
    rw [grL_hi n _ _ (by omega), u3_ne (by omega), u3_ne (by omega)]
theorem wrL_hi {a c : Nat} {ow : Int32} : ∀ (n : Nat) (d : Int32) (σ : Sg), n ≤ c → wrL i ow n d σ a i c = σ a i c
  | 0, _, _, _ => rfl
  | n + 1, d, σ, h => by
    show wrL i ow n (d / 10) (u3 (u3 σ 4 i n (d - d / 10 * 10)) 5 i n ow) a i c = σ a i c
    rw [wrL_hi n _ _ (by omega), u3_ne (by omega), u3_ne (by omega)]
theorem wrL_i {a x c : Nat} {ow : Int32} (hx : x ≠ i) : ∀ (n : Nat) (d : Int32) (σ : Sg), wrL i ow n d σ a x c = σ a x c
  | 0, _, _ => rfl
  | n + 1, d, σ => by
    show wrL i ow n (d / 10) (u3 (u3 σ 4 i n (d - d / 10 * 10)) 5 i n ow) a x c = σ a x c
    rw [wrL_i hx n, u3_ne (by omega), u3_ne (by omega)]
theorem wr_both {j p : Nat} : ∀ (n d : Nat) (σ q : Sg), d < 2 ^ 31 → p < n → ∃ h, h ≤ 9 ∧ wrL j (nI j) n (nI d) σ 4 j p = nI h ∧ grL j n (nI d) q 3 0 (8 * j + p) = nI h ∧ wrL j (nI j) n (nI d) σ 5 j p = nI j ∧ grL j n (nI d) q 4 0 (8 * j + p) = nI j
  | 0, _, _, _, _, z => absurd z (Nat.not_lt_zero p)
  | n + 1, d, σ, q, hd, z => by
    have e1 : nI d / 10 = nI (d / 10) := pk_div hd (by decide) (by decide)
    have e2 : nI d - nI d / 10 * 10 = nI (d % 10) := pk_rem hd (by decide) (by decide)
    have w : ∀ a c, wrL j (nI j) (n + 1) (nI d) σ a j c = wrL j (nI j) n (nI (d / 10)) (u3 (u3 σ 4 j n (nI (d % 10))) 5 j n (nI j)) a j c := fun a c => by
      show wrL j (nI j) n (nI d / 10) (u3 (u3 σ 4 j n (nI d - nI d / 10 * 10)) 5 j n (nI j)) a j c = _
      rw [e2, e1]
    have v : ∀ a c, grL j (n + 1) (nI d) q a 0 c = grL j n (nI (d / 10)) (u3 (u3 q 3 0 (8 * j + n) (nI (d % 10))) 4 0 (8 * j + n) (nI j)) a 0 c := fun a c => by
      show grL j n (nI d / 10) (u3 (u3 q 3 0 (8 * j + n) (nI d - nI d / 10 * 10)) 4 0 (8 * j + n) (nI j)) a 0 c = _
      rw [e2, e1]
    rw [w, w, v, v]
    by_cases y : p = n
    · subst y
      refine ⟨d % 10, by omega, ?_, ?_, ?_, ?_⟩
      · rw [wrL_hi _ _ _ (Nat.le_refl _), u3_ne (by omega), u3_at]
      · rw [grL_hi _ _ _ (Nat.le_refl _), u3_ne (by omega), u3_at]
      · rw [wrL_hi _ _ _ (Nat.le_refl _), u3_at]
      · rw [grL_hi _ _ _ (Nat.le_refl _), u3_at]
    · exact wr_both n (d / 10) _ _ (by omega) (by omega)
theorem Inv_pat (I : Inv σ q τ jc tc b ln) {j n d : Nat} (hj : j < jc) (h1 : 1 ≤ n) (h8 : n ≤ 8) (hd : d < 2 ^ 31) : Inv (fWrite σ j (nI j) n (nI d)) (gPat q j n (nI d)) τ jc tc b (lnSet ln j n) := by
  obtain ⟨⟨⟨⟨s4, s12, sJ, sT, sL⟩, S1, S2, SP, SK⟩, d1, d2, dH, dT, dJ, dZ⟩, ⟨f1, f2⟩, fz, cf⟩ := I
  have er : ∀ a x c, a ≠ 3 → a ≠ 4 → a ≠ 5 → fWrite σ j (nI j) n (nI d) a x c = σ a x c := fun a x c h3 h4 h5 => fWrite_k h3 h4 h5
  have ei : ∀ a x c, x ≠ j → fWrite σ j (nI j) n (nI d) a x c = σ a x c := fun a x c hx => by
    unfold fWrite
    rw [wrL_i hx, u3_ne (by omega)]
  have e3 : fWrite σ j (nI j) n (nI d) 3 j 2 = nI n := by
    unfold fWrite
    rw [wrL_k (by decide) (by decide), u3_at]
  have g1 : ∀ a c, ¬ ((a = 3 ∨ a = 4) ∧ 8 * j ≤ c ∧ c < 8 * j + 8) → gPat q j n (nI d) a 0 c = u3 q 2 0 j (nI n) a 0 c := fun a c h => by
    unfold gPat
    exact grL_ne h n _ _ h8
  refine ⟨⟨⟨⟨s4, s12, (er _ _ _ (by decide) (by decide) (by decide)).trans sJ, (er _ _ _ (by decide) (by decide) (by decide)).trans sT, fun i hi => ?_⟩, ?_, ?_, fun i hi => ?_, fun k hk => ?_⟩, (er _ _ _ (by decide) (by decide) (by decide)).trans d1, d2, fun i h hi hh => ?_, fun k hk => ?_, fun i hi => ?_, dZ⟩, ⟨fun i hi h4 => ?_, fun k hk h12 => ?_⟩, fun i hi h4 => ?_, cf⟩
  · unfold lnSet
    by_cases z : i = j
    · subst z; rw [if_pos rfl]; exact ⟨h1, h8, e3⟩
    · rw [if_neg z, ei _ _ _ z]; exact sL i hi
  · rw [g1 _ _ (by omega), u3_ne (by omega)]; exact S1
  · rw [g1 _ _ (by omega), u3_ne (by omega)]; exact S2
  · rw [g1 1 i (by omega), u3_ne (by omega), er 2 i 2 (by decide) (by decide) (by decide), g1 2 i (by omega)]
    obtain ⟨a1, a2, a3⟩ := SP i hi
    refine ⟨a1, ?_, fun p hp => ?_⟩
    · unfold lnSet
      by_cases z : i = j
      · subst z; rw [if_pos rfl, u3_at]
      · rw [if_neg z, u3_ne (by omega)]; exact a2
    · unfold lnSet at hp
      by_cases z : i = j
      · subst z
        rw [if_pos rfl] at hp
        obtain ⟨h, h9, b1, b2, b3, b4⟩ := wr_both n d (u3 σ 3 i 2 (nI n)) (u3 q 2 0 i (nI n)) hd hp
        exact ⟨h, i, h9, hi, b1, b2, b3, b4⟩
      · rw [if_neg z] at hp
        have h8' := (sL i hi).2.1
        rw [ei _ _ _ z, ei _ _ _ z, g1 _ _ (by omega), g1 _ _ (by omega), u3_ne (by omega), u3_ne (by omega)]
        exact a3 p hp
  · rw [g1 _ _ (by omega), u3_ne (by omega), er 8 k 0 (by decide) (by decide) (by decide)]
    exact SK k hk
  · rw [er 6 i h (by decide) (by decide) (by decide)]
    refine ⟨(dH i h hi hh).1, ?_⟩
    rcases (dH i h hi hh).2 with y | ⟨k, y1, y2, y3, y4, y5⟩
    · exact Or.inl y
    · exact Or.inr ⟨k, y1, y2, (er _ _ _ (by decide) (by decide) (by decide)).trans y3, (er _ _ _ (by decide) (by decide) (by decide)).trans y4, (er _ _ _ (by decide) (by decide) (by decide)).trans y5⟩
  · have e8 : ∀ c, fWrite σ j (nI j) n (nI d) 8 k c = σ 8 k c := fun c => er _ _ _ (by decide) (by decide) (by decide)
    rw [e8, e8, e8]
    exact ⟨(dT k hk).1, (dT k hk).2.1, (dT k hk).2.2.1, cA_of (dT k hk).2.2.2 e8 (fun a h _ _ z => (er _ _ _ (by decide) (by decide) (by decide)).trans z) rfl rfl rfl⟩
  · rw [er 2 i 3 (by decide) (by decide) (by decide), er 2 i 4 (by decide) (by decide) (by decide)]
    exact dJ i hi
  · rw [er 2 i 3 (by decide) (by decide) (by decide), er 2 i 4 (by decide) (by decide) (by decide), er 6 i 0 (by decide) (by decide) (by decide), er 6 i 1 (by decide) (by decide) (by decide)]
    exact f1 i hi h4
  · have e8 : ∀ c, fWrite σ j (nI j) n (nI d) 8 k c = σ 8 k c := fun c => er _ _ _ (by decide) (by decide) (by decide)
    rw [e8, e8, e8, e8, e8]
    exact f2 k hk h12
  · rw [g1 _ _ (by omega), u3_ne (by omega)]
    exact fz i hi h4
-- pass
theorem Inv_pass (I : Inv σ q τ jc tc b ln) {j p t : Nat} (hj : j < jc) (hp : p < ln j) (ht : t < jc) : Inv (u3 σ 5 j p (nI t)) (u3 q 4 0 (8 * j + p) (nI t)) τ jc tc b ln := by
  obtain ⟨⟨⟨⟨s4, s12, sJ, sT, sL⟩, S1, S2, SP, SK⟩, D⟩, ⟨f1, f2⟩, fz, cf⟩ := I
  have hp8 := (sL j hj).2.1
  refine ⟨⟨⟨⟨s4, s12, by rw [u3_ne (by omega)]; exact sJ, by rw [u3_ne (by omega)]; exact sT, fun i hi => by rw [u3_ne (by omega)]; exact sL i hi⟩, by rw [u3_ne (by omega)]; exact S1, by rw [u3_ne (by omega)]; exact S2, fun i hi => ?_, fun k hk => by rw [u3_ne (by omega), u3_ne (by omega)]; exact SK k hk⟩, ?_⟩, ⟨fun i hi h4 => ?_, fun k hk h12 => ?_⟩, fun i hi h4 => by rw [u3_ne (by omega)]; exact fz i hi h4, cf⟩
  · rw [u3_ne (by omega), u3_ne (by omega), u3_ne (by omega)]
    refine ⟨(SP i hi).1, (SP i hi).2.1, fun a ha => ?_⟩
    obtain ⟨h, t2, h9, ht2, b1, b2, b3, b4⟩ := (SP i hi).2.2 a ha
    rw [u3_ne (by omega), u3_ne (by omega), u3_eq, u3_eq]
    have hi8 := (sL i hi).2.1
    by_cases z : i = j ∧ a = p
    · obtain ⟨rfl, rfl⟩ := z
      exact ⟨h, t, h9, ht, b1, b2, by simp, by simp⟩
    · exact ⟨h, t2, h9, ht2, b1, b2, by rw [if_neg (by omega)]; exact b3, by rw [if_neg (by omega)]; exact b4⟩
  · obtain ⟨d1, d2, dH, dT, dJ, dZ⟩ := D
    refine ⟨by rw [u3_ne (by omega)]; exact d1, d2, fun i h hi hh => ?_, fun k hk => ?_, fun i hi => ?_, dZ⟩
    · simpa [u3_eq] using dH i h hi hh
    · simpa [u3_eq, cA] using dT k hk
    · simpa [u3_eq] using dJ i hi
  · simpa [u3_eq] using f1 i hi h4
  · simpa [u3_eq] using f2 k hk h12
-- make
theorem Inv_make (I : Inv σ q τ jc tc b ln) (hk : tc < 12) (x : Int32) : Inv (fAddT σ tc x) (gMake q tc x) τ jc (tc + 1) b ln := by
  obtain ⟨⟨⟨⟨s4, s12, sJ, sT, sL⟩, S1, S2, SP, SK⟩, d1, d2, dH, dT, dJ, dZ⟩, ⟨f1, f2⟩, fz, cf⟩ := I
  have e : ∀ a y c, fAddT σ tc x a y c = if a = 0 ∧ y = 0 ∧ c = 3 then nI tc + 1 else if a = 8 ∧ y = tc ∧ c = 0 then x else σ a y c := fun a y c => by
    unfold fAddT
    rw [u3_eq, u3_eq]
  have g : ∀ a c, gMake q tc x a 0 c = if a = 0 ∧ c = 2 then nI (tc + 1) else if a = 5 ∧ c = tc then x else q a 0 c := fun a c => by
    unfold gMake
    rw [u3_eq, u3_eq]
    simp
  have e8 : ∀ y c, c ≠ 0 → fAddT σ tc x 8 y c = σ 8 y c := fun y c hc => by rw [e]; simp [hc]
  have e6 : ∀ y c, fAddT σ tc x 6 y c = σ 6 y c := fun y c => by rw [e]; simp
  refine ⟨⟨⟨⟨s4, by omega, by rw [e]; simpa using sJ, by rw [e]; simp [nI_1], fun i hi => by rw [e]; simpa using sL i hi⟩, by rw [g]; simpa using S1, by rw [g]; simp, fun i hi => ?_, fun k hk2 => ?_⟩, by rw [e]; simpa using d1, d2, fun i h hi hh => ?_, fun k hk2 => ?_, fun i hi => ?_, dZ.1, dZ.2.1, fun k h1 h2 => dZ.2.2 k (by omega) h2⟩, ⟨fun i hi h4 => ?_, fun k hk2 h12 => ?_⟩, fun i hi h4 => ?_, cf⟩
  · rw [g, g, e]
    refine ⟨by simpa using (SP i hi).1, by simpa using (SP i hi).2.1, fun p hp => ?_⟩
    rw [g, g, e, e]
    simpa using (SP i hi).2.2 p hp
  · rw [g, e]
    by_cases z : k = tc
    · subst z; simp
    · simpa [z] using SK k (by omega)
  · rw [e6]
    refine ⟨(dH i h hi hh).1, ?_⟩
    rcases (dH i h hi hh).2 with y | ⟨k, y1, y2, y3, y4, y5⟩
    · exact Or.inl y
    · exact Or.inr ⟨k, by omega, y2, by rw [e8 _ _ (by decide)]; exact y3, by rw [e8 _ _ (by decide)]; exact y4, by rw [e8 _ _ (by decide)]; exact y5⟩
  · rw [e8 k 1 (by decide), e8 k 6 (by decide), e8 k 7 (by decide)]
    by_cases z : k = tc
    · subst z
      obtain ⟨g1, g2, g3, g4, g5⟩ := f2 k (Nat.le_refl k) hk
      obtain ⟨z1, z2, z3⟩ := dZ.2.2 k (Nat.le_refl k) hk
      refine ⟨by rw [z1, g1], by rw [z2, g4], by rw [z3, g5], Or.inl ⟨Or.inl ?_, ?_, ?_⟩⟩
      · rw [e8 k 1 (by decide)]; exact g1
      · rw [e8 k 2 (by decide)]; exact g2
      · rw [e8 k 3 (by decide)]; exact g3
    · obtain ⟨t1, t2, t3, t4⟩ := dT k (by omega)
      refine ⟨t1, t2, t3, ?_⟩
      unfold cA
      rw [e8 k 1 (by decide), e8 k 2 (by decide), e8 k 3 (by decide), e8 k 4 (by decide), e8 k 5 (by decide)]
      rcases t4 with y | ⟨y, i, h, hi, hh, y2, y3, y4⟩ | y
      · exact Or.inl y
      · exact Or.inr (Or.inl ⟨y, i, h, hi, hh, y2, y3, by rw [e6]; exact y4⟩)
      · exact Or.inr (Or.inr y)
  · rw [e, e]
    simpa using dJ i hi
  · rw [e, e, e, e]
    simpa using f1 i hi h4
  · rw [e8 k 1 (by decide), e8 k 2 (by decide), e8 k 3 (by decide), e8 k 6 (by decide), e8 k 7 (by decide)]
    exact f2 k (by omega) h12
  · rw [g]
    simpa using fz i hi h4
-- give
theorem Inv_give (I : Inv σ q τ jc tc b ln) {j : Nat} (hk : k < tc) (hj : j < jc) (hh : hd < 2) (h0 : σ 8 k 1 = 0) (h6 : σ 6 j hd = -1) : Inv (fPut σ k (nI j) j hd) q (gGive τ k j hd) jc tc b ln := by
  obtain ⟨⟨S, d1, d2, dH, dT, dJ, dZ⟩, ⟨f1, f2⟩, fz, F, cF1, cF2⟩ := I
  have s4 := S.1.1
  have s12 := S.1.2.1
  have e : ∀ a y c, a ≠ 6 → a ≠ 8 → fPut σ k (nI j) j hd a y c = σ a y c := fun a y c n6 n8 => fPut_k n6 n8
  have e6 : ∀ a c, fPut σ k (nI j) j hd 6 a c = if a = j ∧ c = hd then nI k else σ 6 a c := fun a c => by
    unfold fPut
    rw [u3_ne (by omega), u3_ne (by omega), u3_ne (by omega), u3_eq]
    simp
  have e8 : ∀ a c, fPut σ k (nI j) j hd 8 a c = if a = k ∧ c = 3 then nI hd else if a = k ∧ c = 2 then nI j else if a = k ∧ c = 1 then 1 else σ 8 a c := fun a c => by
    unfold fPut
    rw [u3_eq, u3_eq, u3_eq, u3_eq]
    simp
  have g : ∀ a c, gGive τ k j hd a 0 c = if a = 3 ∧ c = 2 * j + hd then nI k + 1 else if a = 4 ∧ c = k then 1 else τ a 0 c := fun a c => by
    unfold gGive
    rw [u3_eq, u3_eq]
    simp
  refine ⟨⟨St_of S (fun a y c z => ?_), (e _ _ _ (by decide) (by decide)).trans d1, by rw [g]; simpa using d2, fun i h hi hh2 => ?_, fun k2 hk2 => ?_, fun i hi => ?_, fun i h5 hi6 => ?_, fun h h5 hh6 => ?_, fun k2 h5 hk6 => ?_⟩, ⟨fun i hi h4 => ?_, fun k2 hk2 h12 => ?_⟩, fz, F, cF1, ?_⟩
  · by_cases z8 : a = 8
    · subst z8
      rw [e8, if_neg (by omega), if_neg (by omega), if_neg (by omega)]
    · exact e _ _ _ (by omega) z8
  · rw [g, e6]
    by_cases z : i = j ∧ h = hd
    · obtain ⟨rfl, rfl⟩ := z
      exact ⟨by simp, Or.inr ⟨k, hk, by simp, by rw [e8]; simp, by rw [e8]; simp, by rw [e8]; simp⟩⟩
    · have z2 : ¬ 2 * i + h = 2 * j + hd := by omega
      rw [if_neg z]
      refine ⟨by simpa [z2] using (dH i h hi hh2).1, ?_⟩
      rcases (dH i h hi hh2).2 with y | ⟨k2, y1, y2, y3, y4, y5⟩
      · exact Or.inl y
      · have hne : k2 ≠ k := fun w => by rw [w, h0] at y3; exact absurd y3 (by decide)
        exact Or.inr ⟨k2, y1, y2, by rw [e8]; simpa [hne] using y3, by rw [e8]; simpa [hne] using y4, by rw [e8]; simpa [hne] using y5⟩
  · by_cases z : k2 = k
    · subst z
      refine ⟨by rw [g, e8]; simp, by rw [g, e8]; simpa using (dT k2 hk2).2.1, by rw [g, e8]; simpa using (dT k2 hk2).2.2.1, Or.inr (Or.inl ⟨by rw [e8]; simp, j, hd, hj, hh, by rw [e8]; simp, by rw [e8]; simp, by rw [e6]; simp⟩)⟩
    · have e9 : ∀ c, fPut σ k (nI j) j hd 8 k2 c = σ 8 k2 c := fun c => by rw [e8]; simp [z]
      rw [e9, e9, e9]
      refine ⟨by rw [g]; simpa [z] using (dT k2 hk2).1, by rw [g]; simpa using (dT k2 hk2).2.1, by rw [g]; simpa using (dT k2 hk2).2.2.1, cA_of (dT k2 hk2).2.2.2 e9 (fun a h ha hh2 y => ?_) (by rw [g]; simp) (by rw [g]; simp) (by rw [g]; simp)⟩
      rw [e6]
      by_cases z2 : a = j ∧ h = hd
      · obtain ⟨rfl, rfl⟩ := z2
        rw [h6] at y
        exact absurd y.symm (nI_m1 (by omega))
      · rw [if_neg z2]; exact y
  · rw [g, g, e _ _ _ (by decide) (by decide), e _ _ _ (by decide) (by decide)]
    simpa using dJ i hi
  · rw [g, g]
    simpa using dZ.1 i h5 hi6
  · rw [g]
    have : h ≠ 2 * j + hd := by omega
    simpa [this] using dZ.2.1 h h5 hh6
  · rw [g, g, g]
    have : k2 ≠ k := by omega
    simpa [this] using dZ.2.2 k2 h5 hk6
  · rw [e _ _ _ (by decide) (by decide), e _ _ _ (by decide) (by decide), e6, e6, if_neg (by omega), if_neg (by omega)]
    exact f1 i hi h4
  · have : k2 ≠ k := by omega
    rw [e8, e8, e8, e8, e8]
    simpa [this] using f2 k2 hk2 h12
  · rw [← cF2]
    exact sI_eq (fun a ha => by rw [g]; simp)
end STP
