/-! ===== every call keeps it ===== -/
section STC
variable {σ σ' ρ : Sg} {jc tc b k i hd n j : Nat} {ln : Nat → Nat}
def lnSet (ln : Nat → Nat) (j n : Nat) : Nat → Nat := fun i => if i = j then n else ln i
theorem lnSet_at : lnSet ln j n j = n := if_pos rfl
theorem lnSet_ne (h : i ≠ j) : lnSet ln j n i = ln i := if_neg h
theorem fAddJ_e {j : Nat} {sk : Int32} (a x c : Nat) : fAddJ σ j sk a x c = if a = 0 ∧ x = 0 ∧ c = 2 then nI j + 1 else if a = 5 ∧ x = j ∧ c = 0 then nI j else if a = 4 ∧ x = j ∧ c = 0 then 0 else if a = 3 ∧ x = j ∧ c = 2 then nI 1 else if a = 2 ∧ x = j ∧ c = 2 then sk else σ a x c := by
  unfold fAddJ fWrite wrL wrL
  rw [u3_eq, u3_eq, u3_eq, u3_eq, u3_eq]
  rfl
theorem sI_last {f : Nat → Int32} {n : Nat} (h : f n = 0) : sI f (n + 1) = sI f n := by
  show sI f n + f n = sI f n
  rw [h, Int32.add_zero]
theorem RI_come (I : RI σ jc tc b ln) (hj : jc < 4) (x : Int32) : RI (fAddJ σ jc x) (jc + 1) tc b (lnSet ln jc 1) := by
  obtain ⟨⟨s4, s12, sJ, sT, sL⟩, i2, i3, i4, i5, ⟨f1, f2⟩, m1, m2, m3⟩ := I
  have e8 : ∀ a c, fAddJ σ jc x 8 a c = σ 8 a c := fun a c => by rw [fAddJ_e]; simp
  have e8f : ∀ a, fAddJ σ jc x 8 a = σ 8 a := fun a => funext (fun c => e8 a c)
  have e6 : ∀ a c, fAddJ σ jc x 6 a c = σ 6 a c := fun a c => by rw [fAddJ_e]; simp
  have e2 : ∀ a c, c ≠ 2 → fAddJ σ jc x 2 a c = σ 2 a c := fun a c hc => by rw [fAddJ_e]; simp [hc]
  obtain ⟨z1, z2, z3, z4⟩ := f1 jc (Nat.le_refl jc) hj
  refine ⟨⟨by omega, s12, ?_, ?_, fun i hi => ?_⟩, ?_, fun i hi p hp => ?_, fun i h hi hh => ?_, fun k hk => ?_, ⟨fun i hi h4 => ?_, fun k hk h12 => ?_⟩, ?_, ?_, ?_⟩
  · rw [fAddJ_e]; simp [nI_1]
  · rw [fAddJ_e]; simpa using sT
  · unfold lnSet
    rw [fAddJ_e]
    by_cases z : i = jc
    · subst z; simp
    · have := sL i (by omega)
      simpa [z] using this
  · rw [fAddJ_e]; simpa using i2
  · unfold lnSet at hp
    by_cases z : i = jc
    · subst z
      have hp0 : p = 0 := by simpa using hp
      subst hp0
      exact ⟨0, i, by omega, by omega, by rw [fAddJ_e]; simp; rfl, by rw [fAddJ_e]; simp⟩
    · have hp2 : p < ln i := by simpa [z] using hp
      obtain ⟨h, t, h9, ht, b1, b2⟩ := i3 i (by omega) p hp2
      exact ⟨h, t, h9, by omega, by rw [fAddJ_e]; simpa [z] using b1, by rw [fAddJ_e]; simpa [z] using b2⟩
  · rw [e6]
    by_cases z : i = jc
    · subst z
      rcases (show h = 0 ∨ h = 1 by omega) with rfl | rfl
      · exact Or.inl z1
      · exact Or.inl z2
    · rcases i4 i h (by omega) hh with y | ⟨k, y1, y2, y3, y4, y5⟩
      · exact Or.inl y
      · exact Or.inr ⟨k, y1, y2, by rw [e8]; exact y3, by rw [e8]; exact y4, by rw [e8]; exact y5⟩
  · refine ⟨?_, tEg_of (i5 k hk).2 (fun c => e8 k c)⟩
    unfold tAt
    rw [e8, e8, e8, e8]
    rcases (i5 k hk).1 with z | ⟨z, i, h, hi, hh, z2, z3, z4⟩ | ⟨z, z9, i, d, hi, z2⟩ | z
    · exact Or.inl z
    · exact Or.inr (Or.inl ⟨z, i, h, by omega, hh, z2, z3, by rw [e6]; exact z4⟩)
    · exact Or.inr (Or.inr (Or.inl ⟨z, z9, i, d, by omega, z2⟩))
    · exact Or.inr (Or.inr (Or.inr z))
  · rw [e6, e6, e2 i 3 (by decide), e2 i 4 (by decide)]
    exact f1 i (by omega) h4
  · rw [e8, e8, e8, e8, e8]
    exact f2 k hk h12
  · have a3 : sCau (fAddJ σ jc x) (jc + 1) = sCau σ jc := (sI_last (by show fAddJ σ jc x 2 jc 4 = 0; rw [e2 jc 4 (by decide)]; exact z4)).trans (sI_eq (fun i _ => e2 i 4 (by decide)))
    have a1 : sThr (fAddJ σ jc x) tc = sThr σ tc := sI_eq (fun i _ => e8 i 6)
    have a2 : sFel (fAddJ σ jc x) tc = sFel σ tc := sI_eq (fun i _ => e8 i 7)
    have a6 : sAt (fAddJ σ jc x) tc 2 = sAt σ tc 2 := sI_eq (fun i _ => by show atF _ _ _ = atF _ _ _; unfold atF; rw [e8])
    rw [a1, a2, a3, a6]; exact m1
  · have a4 : sBru (fAddJ σ jc x) (jc + 1) = sBru σ jc := (sI_last (by show fAddJ σ jc x 2 jc 3 = 0; rw [e2 jc 3 (by decide)]; exact z3)).trans (sI_eq (fun i _ => e2 i 3 (by decide)))
    have a5 : sHam (fAddJ σ jc x) tc = sHam σ tc := sI_eq (fun i _ => by show hamF _ _ = hamF _ _; unfold hamF; rw [e8, e8])
    rw [a4, a5]; exact m2
  · have a8 : sHan (fAddJ σ jc x) (jc + 1) = sHan σ jc := (sI_last (by unfold hanF; rw [e6, e6, z1, z2]; decide)).trans (sI_eq (fun i _ => by show hanF _ _ = hanF _ _; unfold hanF; rw [e6, e6]))
    have a7 : sAt (fAddJ σ jc x) tc 1 = sAt σ tc 1 := sI_eq (fun i _ => by show atF _ _ _ = atF _ _ _; unfold atF; rw [e8])
    rw [a8, a7]; exact m3
/-- where only patterns change -/
theorem RI_pat0 {ln' : Nat → Nat} (I : RI σ jc tc b ln) (S : Shp σ' jc tc ln') (P : Pat σ' jc ln') (e : ∀ a x c, a ≠ 3 → a ≠ 4 → a ≠ 5 → σ' a x c = σ a x c) : RI σ' jc tc b ln' := by
  obtain ⟨i1, i2, i3, i4, i5, ⟨f1, f2⟩, m1, m2, m3⟩ := I
  have e8 : ∀ a c, σ' 8 a c = σ 8 a c := fun a c => e 8 a c (by decide) (by decide) (by decide)
  have e6 : ∀ a c, σ' 6 a c = σ 6 a c := fun a c => e 6 a c (by decide) (by decide) (by decide)
  have e2 : ∀ a c, σ' 2 a c = σ 2 a c := fun a c => e 2 a c (by decide) (by decide) (by decide)
  refine ⟨S, (e 0 0 4 (by decide) (by decide) (by decide)).trans i2, P, fun i h hi hh => ?_, fun k hk => ⟨tAt_of (i5 k hk).1 (fun c => e8 k c) (fun a h _ _ y => (e6 a h).trans y), tEg_of (i5 k hk).2 (fun c => e8 k c)⟩, ⟨fun i hi h4 => ?_, fun k hk h12 => ?_⟩, ?_, ?_, ?_⟩
  · rw [e6]
    rcases i4 i h hi hh with y | ⟨k, y1, y2, y3, y4, y5⟩
    · exact Or.inl y
    · exact Or.inr ⟨k, y1, y2, by rw [e8]; exact y3, by rw [e8]; exact y4, by rw [e8]; exact y5⟩
  · rw [e6, e6, e2, e2]
    exact f1 i hi h4
  · rw [e8, e8, e8, e8, e8]
    exact f2 k hk h12
  · have a3 : sCau σ' jc = sCau σ jc := sI_eq (fun i _ => e2 i 4)
    have a1 : sThr σ' tc = sThr σ tc := sI_eq (fun i _ => e8 i 6)
    have a2 : sFel σ' tc = sFel σ tc := sI_eq (fun i _ => e8 i 7)
    have a6 : sAt σ' tc 2 = sAt σ tc 2 := sI_eq (fun i _ => by show atF _ _ _ = atF _ _ _; unfold atF; rw [e8])
    rw [a1, a2, a3, a6]; exact m1
  · have a4 : sBru σ' jc = sBru σ jc := sI_eq (fun i _ => e2 i 3)
    have a5 : sHam σ' tc = sHam σ tc := sI_eq (fun i _ => by show hamF _ _ = hamF _ _; unfold hamF; rw [e8, e8])
    rw [a4, a5]; exact m2
  · have a8 : sHan σ' jc = sHan σ jc := sI_eq (fun i _ => by show hanF _ _ = hanF _ _; unfold hanF; rw [e6, e6])
    have a7 : sAt σ' tc 1 = sAt σ tc 1 := sI_eq (fun i _ => by show atF _ _ _ = atF _ _ _; unfold atF; rw [e8])
    rw [a8, a7]; exact m3
theorem wrL_hi {a c : Nat} {ow : Int32} : ∀ (n : Nat) (d : Int32) (σ : Sg), n ≤ c → wrL i ow n d σ a i c = σ a i c
  | 0, _, _, _ => rfl
  | n + 1, d, σ, h => by
    show wrL i ow n (d / 10) (u3 (u3 σ 4 i n (d - d / 10 * 10)) 5 i n ow) a i c = σ a i c
    rw [wrL_hi n _ _ (by omega), u3_ne (by omega), u3_ne (by omega)]
theorem wrL_i {a x c : Nat} {ow : Int32} (hx : x ≠ i) : ∀ (n : Nat) (d : Int32) (σ : Sg), wrL i ow n d σ a x c = σ a x c
  | 0, _, _ => rfl
  | n + 1, d, σ => by
    show wrL i ow n (d / 10) (u3 (u3 σ 4 i n (d - d / 10 * 10)) 5 i n ow) a x c = σ a x c
    rw [wrL_i hx n, u3_ne (by omega), u3_ne (by omega)]
theorem wr_one {p : Nat} : ∀ (n d : Nat) (σ : Sg), d < 2 ^ 31 → p < n → ∃ h, h ≤ 9 ∧ wrL j (nI j) n (nI d) σ 4 j p = nI h ∧ wrL j (nI j) n (nI d) σ 5 j p = nI j
  | 0, _, _, _, z => absurd z (Nat.not_lt_zero p)
  | n + 1, d, σ, hd, z => by
    have e1 : nI d / 10 = nI (d / 10) := pk_div hd (by decide) (by decide)
    have e2 : nI d - nI d / 10 * 10 = nI (d % 10) := pk_rem hd (by decide) (by decide)
    have w : ∀ a c, wrL j (nI j) (n + 1) (nI d) σ a j c = wrL j (nI j) n (nI (d / 10)) (u3 (u3 σ 4 j n (nI (d % 10))) 5 j n (nI j)) a j c := fun a c => by
      show wrL j (nI j) n (nI d / 10) (u3 (u3 σ 4 j n (nI d - nI d / 10 * 10)) 5 j n (nI j)) a j c = _
      rw [e2, e1]
    rw [w, w]
    by_cases y : p = n
    · subst y
      refine ⟨d % 10, by omega, ?_, ?_⟩
      · rw [wrL_hi _ _ _ (Nat.le_refl _), u3_ne (by omega), u3_at]
      · rw [wrL_hi _ _ _ (Nat.le_refl _), u3_at]
    · exact wr_one n (d / 10) _ (by omega) (by omega)
theorem RI_pat (I : RI σ jc tc b ln) {d : Nat} (hj : j < jc) (h1 : 1 ≤ n) (h8 : n ≤ 8) (hd : d < 2 ^ 31) : RI (fWrite σ j (nI j) n (nI d)) jc tc b (lnSet ln j n) := by
  have er : ∀ a x c, a ≠ 3 → a ≠ 4 → a ≠ 5 → fWrite σ j (nI j) n (nI d) a x c = σ a x c := fun a x c h3 h4 h5 => fWrite_k h3 h4 h5
  have ei : ∀ a x c, x ≠ j → fWrite σ j (nI j) n (nI d) a x c = σ a x c := fun a x c hx => by
    unfold fWrite
    rw [wrL_i hx, u3_ne (by omega)]
  have e3 : fWrite σ j (nI j) n (nI d) 3 j 2 = nI n := by
    unfold fWrite
    rw [wrL_k (by decide) (by decide), u3_at]
  obtain ⟨s4, s12, sJ, sT, sL⟩ := I.1
  refine RI_pat0 I ⟨s4, s12, (er _ _ _ (by decide) (by decide) (by decide)).trans sJ, (er _ _ _ (by decide) (by decide) (by decide)).trans sT, fun i hi => ?_⟩ (fun i hi p hp => ?_) er
  · by_cases z : i = j
    · subst z; rw [lnSet_at]; exact ⟨h1, h8, e3⟩
    · rw [lnSet_ne z, ei _ _ _ z]; exact sL i hi
  · by_cases z : i = j
    · subst z
      rw [lnSet_at] at hp
      obtain ⟨h, h9, b1, b2⟩ := wr_one (j := i) n d (u3 σ 3 i 2 (nI n)) hd hp
      exact ⟨h, i, h9, hi, b1, b2⟩
    · rw [lnSet_ne z] at hp
      rw [ei _ _ _ z, ei _ _ _ z]
      exact I.2.2.1 i hi p hp
/-- the last throw of a pattern that is written goes to oneself -/
theorem pat_own (h1 : 1 ≤ n) {d : Nat} (hd : d < 2 ^ 31) : fWrite σ j (nI j) n (nI d) 5 j (n - 1) = nI j := by
  obtain ⟨h, h9, b1, b2⟩ := wr_one (j := j) (p := n - 1) n d (u3 σ 3 j 2 (nI n)) hd (by omega)
  exact b2
theorem RI_pass (I : RI σ jc tc b ln) {p t : Nat} (ht : t < jc) : RI (u3 σ 5 j p (nI t)) jc tc b ln := by
  refine RI_pat0 I (Shp_u3 I.1 (by decide) (by decide)) (fun i hi a ha => ?_) (fun a x c h3 h4 h5 => u3_ne (by omega))
  obtain ⟨h, t2, h9, ht2, b1, b2⟩ := I.2.2.1 i hi a ha
  rw [u3_ne (by omega), u3_eq]
  split
  · exact ⟨h, t, h9, ht, b1, rfl⟩
  · exact ⟨h, t2, h9, ht2, b1, b2⟩
theorem RI_make (I : RI σ jc tc b ln) (hk : tc < 12) {x : Nat} (hx : x < 3) : RI (fAddT σ tc (nI x)) jc (tc + 1) b ln := by
  obtain ⟨⟨s4, s12, sJ, sT, sL⟩, i2, i3, i4, i5, ⟨f1, f2⟩, m1, m2, m3⟩ := I
  have e : ∀ a y c, fAddT σ tc (nI x) a y c = if a = 0 ∧ y = 0 ∧ c = 3 then nI tc + 1 else if a = 8 ∧ y = tc ∧ c = 0 then nI x else σ a y c := fun a y c => by
    unfold fAddT
    rw [u3_eq, u3_eq]
  have e8 : ∀ y c, c ≠ 0 → fAddT σ tc (nI x) 8 y c = σ 8 y c := fun y c hc => by rw [e]; simp [hc]
  have e8' : ∀ y c, y ≠ tc → fAddT σ tc (nI x) 8 y c = σ 8 y c := fun y c hc => by rw [e]; simp [hc]
  have e6 : ∀ y c, fAddT σ tc (nI x) 6 y c = σ 6 y c := fun y c => by rw [e]; simp
  have e2 : ∀ y c, fAddT σ tc (nI x) 2 y c = σ 2 y c := fun y c => by rw [e]; simp
  have e45 : ∀ a y c, a = 4 ∨ a = 5 → fAddT σ tc (nI x) a y c = σ a y c := fun a y c h => by rw [e, if_neg (by omega), if_neg (by omega)]
  obtain ⟨g1, g2, g3, g4, g5⟩ := f2 tc (Nat.le_refl tc) hk
  have hkd : nI x = 0 ∨ nI x = 1 ∨ nI x = 2 := by
    rcases (show x = 0 ∨ x = 1 ∨ x = 2 by omega) with rfl | rfl | rfl
    · exact Or.inl rfl
    · exact Or.inr (Or.inl rfl)
    · exact Or.inr (Or.inr rfl)
  refine ⟨⟨s4, by omega, by rw [e]; simpa using sJ, by rw [e]; simp [nI_1], fun i hi => by rw [e]; simpa using sL i hi⟩, by rw [e]; simpa using i2, fun i hi p hp => ?_, fun i h hi hh => ?_, fun k hk2 => ?_, ⟨fun i hi h4 => ?_, fun k h1 h12 => ?_⟩, ?_, ?_, ?_⟩
  · rw [e45 4 i p (Or.inl rfl), e45 5 i p (Or.inr rfl)]
    exact i3 i hi p hp
  · rw [e6]
    rcases i4 i h hi hh with y | ⟨k, y1, y2, y3, y4, y5⟩
    · exact Or.inl y
    · exact Or.inr ⟨k, by omega, y2, by rw [e8 _ _ (by decide)]; exact y3, by rw [e8 _ _ (by decide)]; exact y4, by rw [e8 _ _ (by decide)]; exact y5⟩
  · by_cases z : k = tc
    · subst z
      refine ⟨Or.inl ⟨(e8 _ _ (by decide)).trans g1, (e8 _ _ (by decide)).trans g2, (e8 _ _ (by decide)).trans g3⟩, ?_, fun w => ?_, fun _ _ => (e8 _ _ (by decide)).trans g5⟩
      · rw [e]; simpa using hkd
      · rw [e8 _ _ (by decide), g1] at w
        exact absurd w (by decide)
    · exact ⟨tAt_of (i5 k (by omega)).1 (fun c => e8' k c z) (fun a h _ _ y => (e6 a h).trans y), tEg_of (i5 k (by omega)).2 (fun c => e8' k c z)⟩
  · rw [e6, e6, e2, e2]
    exact f1 i hi h4
  · rw [e8 _ _ (by decide), e8 _ _ (by decide), e8 _ _ (by decide), e8 _ _ (by decide), e8 _ _ (by decide)]
    exact f2 k (by omega) h12
  · have a3 : sCau (fAddT σ tc (nI x)) jc = sCau σ jc := sI_eq (fun i _ => e2 i 4)
    have a1 : sThr (fAddT σ tc (nI x)) (tc + 1) = sThr σ tc := (sI_last (by show fAddT σ tc (nI x) 8 tc 6 = 0; exact (e8 _ _ (by decide)).trans g4)).trans (sI_eq (fun i _ => e8 i 6 (by decide)))
    have a2 : sFel (fAddT σ tc (nI x)) (tc + 1) = sFel σ tc := (sI_last (by show fAddT σ tc (nI x) 8 tc 7 = 0; exact (e8 _ _ (by decide)).trans g5)).trans (sI_eq (fun i _ => e8 i 7 (by decide)))
    have a6 : sAt (fAddT σ tc (nI x)) (tc + 1) 2 = sAt σ tc 2 := (sI_last (by unfold atF; rw [e8 _ _ (by decide), g1]; decide)).trans (sI_eq (fun i _ => by show atF _ _ _ = atF _ _ _; unfold atF; rw [e8 _ _ (by decide)]))
    rw [a1, a2, a3, a6]; exact m1
  · have a4 : sBru (fAddT σ tc (nI x)) jc = sBru σ jc := sI_eq (fun i _ => e2 i 3)
    have a5 : sHam (fAddT σ tc (nI x)) (tc + 1) = sHam σ tc := (sI_last (by unfold hamF; rw [e8 _ 7 (by decide), g5]; split <;> rfl)).trans (sI_eq (fun i hi => by show hamF _ _ = hamF _ _; unfold hamF; rw [e8' _ _ (by omega), e8' _ _ (by omega)]))
    rw [a4, a5]; exact m2
  · have a8 : sHan (fAddT σ tc (nI x)) jc = sHan σ jc := sI_eq (fun i _ => by show hanF _ _ = hanF _ _; unfold hanF; rw [e6, e6])
    have a7 : sAt (fAddT σ tc (nI x)) (tc + 1) 1 = sAt σ tc 1 := (sI_last (by unfold atF; rw [e8 _ _ (by decide), g1]; decide)).trans (sI_eq (fun i _ => by show atF _ _ _ = atF _ _ _; unfold atF; rw [e8 _ _ (by decide)]))
    rw [a8, a7]; exact m3
theorem RI_put (I : RI σ jc tc b ln) (hk : k < tc) (hj : j < jc) (hh : hd < 2) (h0 : σ 8 k 1 = 0) (h6 : σ 6 j hd = -1) : RI (fPut σ k (nI j) j hd) jc tc b ln :=
  Iv_put I hk hj hh h0 h6 (by intro a c; simp [fPut, u3_eq]) (by intro a c ha; simp [fPut, u3_eq, ha]) (by simp [fPut, u3_eq]) (by simp [fPut, u3_eq]) (by simp [fPut, u3_eq]) (by simp [fPut, u3_eq]) (by simp [fPut, u3_eq]) (by simp [fPut, u3_eq]) (by intro a x c ha; rcases ha with rfl | rfl | rfl | rfl | rfl <;> simp [fPut, u3_eq])
/-- who was given a thing holds one -/
theorem held_put (hk : k < 2 ^ 31) (hh : hd < 2) {to : Int32} : ¬ fHeld (fPut σ k to j hd) j = 0 := by
  have e6 : ∀ c, fPut σ k to j hd 6 j c = if c = hd then nI k else σ 6 j c := fun c => by
    unfold fPut
    rw [u3_ne (by omega), u3_ne (by omega), u3_ne (by omega), u3_eq]
    simp
  have hm : ¬ nI k = -1 := nI_m1 hk
  unfold fHeld cI cI cI
  rw [e6, e6]
  rcases (show hd = 0 ∨ hd = 1 by omega) with rfl | rfl
  · simp only [if_true, reduceCtorEq, if_false]
    by_cases z : σ 6 j 1 = -1 <;> simp [hm, z]
  · by_cases z : σ 6 j 0 = -1 <;> simp [hm, z]
end STC
