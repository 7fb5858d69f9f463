/-! ===== what a ring keeps to, and a step of it ===== -/
def hv (x : Int32) : Int32 := if x < 0 then 0 else 1
theorem hv_m : hv (-1) = 0 := by decide
theorem hv_n {k : Nat} (h : k < 2 ^ 31) : hv (nI k) = 1 := if_neg (nI_pos h)
def sThr (σ : Sg) (tc : Nat) : Int32 := sI (fun k => σ 8 k 6) tc
def sFel (σ : Sg) (tc : Nat) : Int32 := sI (fun k => σ 8 k 7) tc
def sCau (σ : Sg) (jc : Nat) : Int32 := sI (fun i => σ 2 i 4) jc
def sBru (σ : Sg) (jc : Nat) : Int32 := sI (fun i => σ 2 i 3) jc
def hamF (σ : Sg) (k : Nat) : Int32 := if σ 8 k 0 = 1 then σ 8 k 7 else 0
def sHam (σ : Sg) (tc : Nat) : Int32 := sI (hamF σ) tc
def atF (σ : Sg) (x : Int32) (k : Nat) : Int32 := if σ 8 k 1 = x then 1 else 0
def sAt (σ : Sg) (tc : Nat) (x : Int32) : Int32 := sI (atF σ x) tc
def hanF (σ : Sg) (i : Nat) : Int32 := hv (σ 6 i 0) + hv (σ 6 i 1)
def sHan (σ : Sg) (jc : Nat) : Int32 := sI (hanF σ) jc
def Sm (σ : Sg) (jc tc : Nat) : Prop := sThr σ tc = sCau σ jc + sFel σ tc + sAt σ tc 2 ∧ sBru σ jc = sHam σ tc ∧ sHan σ jc = sAt σ tc 1
def Pat (σ : Sg) (jc : Nat) (ln : Nat → Nat) : Prop := ∀ i, i < jc → ∀ p, p < ln i → ∃ h t, h ≤ 9 ∧ t < jc ∧ σ 4 i p = nI h ∧ σ 5 i p = nI t
def Hnd (σ : Sg) (jc tc : Nat) : Prop := ∀ i h, i < jc → h < 2 → σ 6 i h = -1 ∨ ∃ k, k < tc ∧ σ 6 i h = nI k ∧ σ 8 k 1 = 1 ∧ σ 8 k 2 = nI i ∧ σ 8 k 3 = nI h
def tAt (σ : Sg) (jc lo hi k : Nat) : Prop := (σ 8 k 1 = 0 ∧ σ 8 k 2 = -1 ∧ σ 8 k 3 = -1) ∨ (σ 8 k 1 = 1 ∧ ∃ i h, i < jc ∧ h < 2 ∧ σ 8 k 2 = nI i ∧ σ 8 k 3 = nI h ∧ σ 6 i h = nI k) ∨ (σ 8 k 1 = 2 ∧ σ 8 k 3 = -1 ∧ ∃ i d, i < jc ∧ σ 8 k 2 = nI i ∧ lo ≤ d ∧ d ≤ hi ∧ σ 8 k 4 = nI d) ∨ (σ 8 k 1 = 3 ∧ σ 8 k 2 = -1 ∧ σ 8 k 3 = -1)
def tEg (σ : Sg) (k : Nat) : Prop := (σ 8 k 0 = 0 ∨ σ 8 k 0 = 1 ∨ σ 8 k 0 = 2) ∧ (σ 8 k 1 = 3 → σ 8 k 0 = 2 ∧ σ 8 k 7 = 1) ∧ (¬ σ 8 k 1 = 3 → σ 8 k 0 = 2 → σ 8 k 7 = 0)
def Tng (σ : Sg) (jc tc : Nat) (lo : Nat → Nat) (hi : Nat) : Prop := ∀ k, k < tc → tAt σ jc (lo k) hi k ∧ tEg σ k
def Fre (σ : Sg) (jc tc : Nat) : Prop := (∀ i, jc ≤ i → i < 4 → σ 6 i 0 = -1 ∧ σ 6 i 1 = -1 ∧ σ 2 i 3 = 0 ∧ σ 2 i 4 = 0) ∧ ∀ k, tc ≤ k → k < 12 → σ 8 k 1 = 0 ∧ σ 8 k 2 = -1 ∧ σ 8 k 3 = -1 ∧ σ 8 k 6 = 0 ∧ σ 8 k 7 = 0
def Iv (σ : Sg) (jc tc b : Nat) (ln lo : Nat → Nat) (hi : Nat) : Prop := Shp σ jc tc ln ∧ σ 0 0 4 = nI b ∧ Pat σ jc ln ∧ Hnd σ jc tc ∧ Tng σ jc tc lo hi ∧ Fre σ jc tc ∧ Sm σ jc tc
section IVS
variable {σ σ' : Sg} {jc tc b k i hd hi : Nat} {ln lo : Nat → Nat}
theorem Iv_lo {lo' : Nat → Nat} {hi' : Nat} (I : Iv σ jc tc b ln lo hi) (h1 : ∀ k, k < tc → lo' k ≤ lo k) (h2 : hi ≤ hi') : Iv σ jc tc b ln lo' hi' := by
  obtain ⟨i1, i2, i3, i4, i5, i6, i7⟩ := I
  refine ⟨i1, i2, i3, i4, fun k hk => ⟨?_, (i5 k hk).2⟩, i6, i7⟩
  rcases (i5 k hk).1 with z | z | ⟨z1, z2, i, d, z3, z4, z5, z6, z7⟩ | z
  · exact Or.inl z
  · exact Or.inr (Or.inl z)
  · exact Or.inr (Or.inr (Or.inl ⟨z1, z2, i, d, z3, z4, Nat.le_trans (h1 k hk) z5, Nat.le_trans z6 h2, z7⟩))
  · exact Or.inr (Or.inr (Or.inr z))
theorem st01 {x : Int32} (h : x = 2) : ¬ x = 0 ∧ ¬ x = 1 ∧ ¬ x = 3 := by rw [h]; decide
theorem st12 {x : Int32} (h : x = 1) : ¬ x = 0 ∧ ¬ x = 2 ∧ ¬ x = 3 := by rw [h]; decide
theorem st02 {x : Int32} (h : x = 0) : ¬ x = 1 ∧ ¬ x = 2 ∧ ¬ x = 3 := by rw [h]; decide
/-- a thing that is not changed, in a ring whose hands change elsewhere -/
theorem tAt_of {lo0 : Nat} (h : tAt σ jc lo0 hi k) (h8 : ∀ c, σ' 8 k c = σ 8 k c) (h6 : ∀ i h, i < jc → h < 2 → σ 6 i h = nI k → σ' 6 i h = nI k) : tAt σ' jc lo0 hi k := by
  unfold tAt
  rw [h8, h8, h8, h8]
  rcases h with h | ⟨h, i, a, h1, h2, h3, h4, h9⟩ | h | h
  · exact Or.inl h
  · exact Or.inr (Or.inl ⟨h, i, a, h1, h2, h3, h4, h6 i a h1 h2 h9⟩)
  · exact Or.inr (Or.inr (Or.inl h))
  · exact Or.inr (Or.inr (Or.inr h))
theorem tEg_of (h : tEg σ k) (h8 : ∀ c, σ' 8 k c = σ 8 k c) : tEg σ' k := by
  unfold tEg
  rw [h8, h8, h8]
  exact h
-- caught
theorem Iv_catch (I : Iv σ jc tc b ln lo hi) (hk : k < tc) (hi0 : i < jc) (hh : hd < 2) (h2 : σ 8 k 1 = 2) (h6 : σ 6 i hd = -1) (e6 : ∀ a c, σ' 6 a c = if a = i ∧ c = hd then nI k else σ 6 a c) (e8 : ∀ a c, a ≠ k → σ' 8 a c = σ 8 a c) (e80 : σ' 8 k 0 = σ 8 k 0) (e81 : σ' 8 k 1 = 1) (e82 : σ' 8 k 2 = nI i) (e83 : σ' 8 k 3 = nI hd) (e86 : σ' 8 k 6 = σ 8 k 6) (e87 : σ' 8 k 7 = σ 8 k 7) (e2 : ∀ a c, c ≠ 4 → σ' 2 a c = σ 2 a c) (e24 : ∀ a, σ' 2 a 4 = if a = i then σ 2 i 4 + 1 else σ 2 a 4) (e0 : ∀ a x c, a = 0 ∨ a = 3 ∨ a = 4 ∨ a = 5 → σ' a x c = σ a x c) : Iv σ' jc tc b ln lo hi ∧ sFel σ' tc = sFel σ tc := by
  obtain ⟨i1, i2, i3, i4, i5, ⟨i6, i6'⟩, s1, s2, s3⟩ := I
  have hj4 := i1.1
  have ht12 := i1.2.1
  have a1 : sThr σ' tc = sThr σ tc := sI_eq (fun j _ => by
    show σ' 8 j 6 = σ 8 j 6
    by_cases z : j = k
    · rw [z, e86]
    · exact e8 j 6 z)
  have a2 : sFel σ' tc = sFel σ tc := sI_eq (fun j _ => by
    show σ' 8 j 7 = σ 8 j 7
    by_cases z : j = k
    · rw [z, e87]
    · exact e8 j 7 z)
  have a3 : sCau σ' jc = sCau σ jc + 1 := sI_inc (k := i) (by show σ' 2 i 4 = σ 2 i 4 + 1; rw [e24, if_pos rfl]) (fun j hj => by show σ' 2 j 4 = σ 2 j 4; rw [e24, if_neg hj]) hi0
  have a4 : sBru σ' jc = sBru σ jc := sI_eq (fun j _ => e2 j 3 (by decide))
  have a5 : sHam σ' tc = sHam σ tc := sI_eq (fun j _ => by
    show hamF σ' j = hamF σ j
    unfold hamF
    by_cases z : j = k
    · rw [z, e80, e87]
    · rw [e8 j 0 z, e8 j 7 z])
  have a6 : sAt σ tc 2 = sAt σ' tc 2 + 1 := sI_inc (k := k) (by unfold atF; rw [h2, e81]; decide) (fun j hj => by unfold atF; rw [e8 j 1 hj]) hk
  have a7 : sAt σ' tc 1 = sAt σ tc 1 + 1 := sI_inc (k := k) (by unfold atF; rw [h2, e81]; decide) (fun j hj => by unfold atF; rw [e8 j 1 hj]) hk
  have a8 : sHan σ' jc = sHan σ jc + 1 := by
    refine sI_inc (k := i) ?_ (fun j hj => by unfold hanF; rw [e6, e6, if_neg (fun z => hj z.1), if_neg (fun z => hj z.1)]) hi0
    unfold hanF
    rw [e6, e6]
    rcases (show hd = 0 ∨ hd = 1 by omega) with rfl | rfl
    · rw [if_pos ⟨rfl, rfl⟩, if_neg (fun z => absurd z.2 (by decide)), h6, hv_m, hv_n (by omega), Int32.zero_add, Int32.add_comm]
    · rw [if_neg (fun z => absurd z.2 (by decide)), if_pos ⟨rfl, rfl⟩, h6, hv_m, hv_n (by omega), Int32.add_zero]
  refine ⟨⟨Shp_of i1 (fun a x c z => e0 a x c (by omega)), (e0 0 0 4 (Or.inl rfl)).trans i2, fun a ha p hp => ?_, fun a h ha hh2 => ?_, fun k2 hk2 => ?_, ⟨fun a ha ha4 => ?_, fun k2 h1 h2 => ?_⟩, ?_, ?_, ?_⟩, a2⟩
  · rw [e0 4 a p (by omega), e0 5 a p (by omega)]
    exact i3 a ha p hp
  · rw [e6]
    by_cases z : a = i ∧ h = hd
    · obtain ⟨rfl, rfl⟩ := z
      exact Or.inr ⟨k, hk, by rw [if_pos ⟨rfl, rfl⟩], e81, e82, e83⟩
    · rw [if_neg z]
      rcases i4 a h ha hh2 with y | ⟨k2, y1, y2, y3, y4, y5⟩
      · exact Or.inl y
      · have hne : k2 ≠ k := fun z => by rw [z, h2] at y3; exact absurd y3 (by decide)
        exact Or.inr ⟨k2, y1, y2, by rw [e8 _ _ hne]; exact y3, by rw [e8 _ _ hne]; exact y4, by rw [e8 _ _ hne]; exact y5⟩
  · by_cases z : k2 = k
    · subst z
      refine ⟨Or.inr (Or.inl ⟨e81, i, hd, hi0, hh, e82, e83, by rw [e6, if_pos ⟨rfl, rfl⟩]⟩), ?_⟩
      obtain ⟨g1, g2, g3⟩ := (i5 k2 hk2).2
      refine ⟨by rw [e80]; exact g1, fun y => absurd (e81.symm.trans y) (by decide), fun _ y => ?_⟩
      rw [e87]
      rw [e80] at y
      exact g3 (st01 h2).2.2 y
    · refine ⟨tAt_of (i5 k2 hk2).1 (fun c => e8 _ _ z) (fun a h ha hh2 y => ?_), tEg_of (i5 k2 hk2).2 (fun c => e8 _ _ z)⟩
      rw [e6]
      by_cases z2 : a = i ∧ h = hd
      · obtain ⟨rfl, rfl⟩ := z2
        rw [h6] at y
        exact absurd y.symm (nI_m1 (by omega))
      · rw [if_neg z2]; exact y
  · have hne : a ≠ i := by omega
    rw [e6, e6, e2 a 3 (by decide), e24, if_neg (fun z => hne z.1), if_neg (fun z => hne z.1), if_neg hne]
    exact i6 a ha ha4
  · have hne : k2 ≠ k := by omega
    rw [e8 _ _ hne, e8 _ _ hne, e8 _ _ hne, e8 _ _ hne, e8 _ _ hne]
    exact i6' k2 h1 h2
  · rw [a1, a2, a3, s1, a6]; ac_rfl
  · rw [a4, a5, s2]
  · rw [a8, a7, s3]
-- missed
theorem Iv_miss (I : Iv σ jc tc b ln lo hi) (hk : k < tc) (hi0 : i < jc) (h2 : σ 8 k 1 = 2) (e6 : ∀ a c, σ' 6 a c = σ 6 a c) (e8 : ∀ a c, a ≠ k → σ' 8 a c = σ 8 a c) (e80 : σ' 8 k 0 = σ 8 k 0) (e81 : σ' 8 k 1 = if σ 8 k 0 = 2 then 3 else 0) (e82 : σ' 8 k 2 = -1) (e83 : σ' 8 k 3 = σ 8 k 3) (e86 : σ' 8 k 6 = σ 8 k 6) (e87 : σ' 8 k 7 = σ 8 k 7 + 1) (e2 : ∀ a c, c ≠ 3 → σ' 2 a c = σ 2 a c) (e23 : ∀ a, σ' 2 a 3 = if a = i ∧ σ 8 k 0 = 1 then σ 2 i 3 + 1 else σ 2 a 3) (e0 : ∀ a x c, a = 0 ∨ a = 3 ∨ a = 4 ∨ a = 5 → σ' a x c = σ a x c) : Iv σ' jc tc b ln lo hi ∧ sFel σ' tc = sFel σ tc + 1 := by
  obtain ⟨i1, i2, i3, i4, i5, ⟨i6, i6'⟩, s1, s2, s3⟩ := I
  have hj4 := i1.1
  have ht12 := i1.2.1
  have s0 := st01 h2
  have h3 : σ 8 k 3 = -1 := by
    rcases (i5 k hk).1 with z | z | z | z
    · exact absurd z.1 s0.1
    · exact absurd z.1 s0.2.1
    · exact z.2.1
    · exact absurd z.1 s0.2.2
  have n2 : ¬ σ' 8 k 1 = 2 := by rw [e81]; split <;> decide
  have n1 : ¬ σ' 8 k 1 = 1 := by rw [e81]; split <;> decide
  have a1 : sThr σ' tc = sThr σ tc := sI_eq (fun j _ => by
    show σ' 8 j 6 = σ 8 j 6
    by_cases z : j = k
    · rw [z, e86]
    · exact e8 j 6 z)
  have a2 : sFel σ' tc = sFel σ tc + 1 := sI_inc (k := k) e87 (fun j hj => e8 j 7 hj) hk
  have a3 : sCau σ' jc = sCau σ jc := sI_eq (fun j _ => e2 j 4 (by decide))
  have a45 : sBru σ' jc = sHam σ' tc := by
    by_cases y : σ 8 k 0 = 1
    · have a4 : sBru σ' jc = sBru σ jc + 1 := sI_inc (k := i) (by show σ' 2 i 3 = σ 2 i 3 + 1; rw [e23, if_pos ⟨rfl, y⟩]) (fun j hj => by show σ' 2 j 3 = σ 2 j 3; rw [e23, if_neg (fun z => hj z.1)]) hi0
      have a5 : sHam σ' tc = sHam σ tc + 1 := sI_inc (k := k) (by unfold hamF; rw [e80, e87, if_pos y, if_pos y]) (fun j hj => by unfold hamF; rw [e8 j 0 hj, e8 j 7 hj]) hk
      rw [a4, a5, s2]
    · have a4 : sBru σ' jc = sBru σ jc := sI_eq (fun j _ => by show σ' 2 j 3 = σ 2 j 3; rw [e23, if_neg (fun z => y z.2)])
      have a5 : sHam σ' tc = sHam σ tc := sI_eq (fun j _ => by
        show hamF σ' j = hamF σ j
        unfold hamF
        by_cases z : j = k
        · rw [z, e80, if_neg y, if_neg y]
        · rw [e8 j 0 z, e8 j 7 z])
      rw [a4, a5, s2]
  have a6 : sAt σ tc 2 = sAt σ' tc 2 + 1 := sI_inc (k := k) (by unfold atF; rw [if_pos h2, if_neg n2]; decide) (fun j hj => by unfold atF; rw [e8 j 1 hj]) hk
  have a7 : sAt σ' tc 1 = sAt σ tc 1 := sI_eq (fun j _ => by
    show atF σ' 1 j = atF σ 1 j
    unfold atF
    by_cases z : j = k
    · rw [z, if_neg n1, if_neg s0.2.1]
    · rw [e8 j 1 z])
  have a8 : sHan σ' jc = sHan σ jc := sI_eq (fun j _ => by show hanF σ' j = hanF σ j; unfold hanF; rw [e6, e6])
  refine ⟨⟨Shp_of i1 (fun a x c z => e0 a x c (by omega)), (e0 0 0 4 (Or.inl rfl)).trans i2, fun a ha p hp => ?_, fun a h ha hh2 => ?_, fun k2 hk2 => ?_, ⟨fun a ha ha4 => ?_, fun k2 h1 h2 => ?_⟩, ?_, a45, ?_⟩, a2⟩
  · rw [e0 4 a p (by omega), e0 5 a p (by omega)]
    exact i3 a ha p hp
  · rw [e6]
    rcases i4 a h ha hh2 with y | ⟨k2, y1, y2, y3, y4, y5⟩
    · exact Or.inl y
    · have hne : k2 ≠ k := fun z => by rw [z, h2] at y3; exact absurd y3 (by decide)
      exact Or.inr ⟨k2, y1, y2, by rw [e8 _ _ hne]; exact y3, by rw [e8 _ _ hne]; exact y4, by rw [e8 _ _ hne]; exact y5⟩
  · by_cases z : k2 = k
    · subst z
      obtain ⟨g1, g2, g3⟩ := (i5 k2 hk2).2
      by_cases y : σ 8 k2 0 = 2
      · rw [if_pos y] at e81
        exact ⟨Or.inr (Or.inr (Or.inr ⟨e81, e82, e83.trans h3⟩)), by rw [e80]; exact g1, fun _ => ⟨e80.trans y, by rw [e87, g3 s0.2.2 y]; rfl⟩, fun w => absurd e81 w⟩
      · rw [if_neg y] at e81
        exact ⟨Or.inl ⟨e81, e82, e83.trans h3⟩, by rw [e80]; exact g1, fun w => absurd (e81.symm.trans w) (by decide), fun _ w => absurd (e80.symm.trans w) y⟩
    · exact ⟨tAt_of (i5 k2 hk2).1 (fun c => e8 _ _ z) (fun a h ha hh2 y => (e6 a h).trans y), tEg_of (i5 k2 hk2).2 (fun c => e8 _ _ z)⟩
  · have hne : a ≠ i := by omega
    rw [e6, e6, e2 a 4 (by decide), e23, if_neg (fun z => hne z.1)]
    exact i6 a ha ha4
  · have hne : k2 ≠ k := by omega
    rw [e8 _ _ hne, e8 _ _ hne, e8 _ _ hne, e8 _ _ hne, e8 _ _ hne]
    exact i6' k2 h1 h2
  · rw [a1, a2, a3, s1, a6]; ac_rfl
  · rw [a8, a7, s3]
-- thrown
theorem Iv_fly {t d : Nat} (I : Iv σ jc tc b ln lo hi) (hk : k < tc) (hi0 : i < jc) (hh : hd < 2) (h1 : σ 8 k 1 = 1) (hw : σ 8 k 2 = nI i) (hw3 : σ 8 k 3 = nI hd) (h6 : σ 6 i hd = nI k) (ht : t < jc) (hlo : lo k ≤ d) (hhi : d ≤ hi) (e6 : ∀ a c, σ' 6 a c = if a = i ∧ c = hd then -1 else σ 6 a c) (e8 : ∀ a c, a ≠ k → σ' 8 a c = σ 8 a c) (e80 : σ' 8 k 0 = σ 8 k 0) (e81 : σ' 8 k 1 = 2) (e82 : σ' 8 k 2 = nI t) (e83 : σ' 8 k 3 = -1) (e84 : σ' 8 k 4 = nI d) (e86 : σ' 8 k 6 = σ 8 k 6 + 1) (e87 : σ' 8 k 7 = σ 8 k 7) (e0 : ∀ a x c, a = 0 ∨ a = 2 ∨ a = 3 ∨ a = 4 ∨ a = 5 → σ' a x c = σ a x c) : Iv σ' jc tc b ln lo hi ∧ sFel σ' tc = sFel σ tc := by
  obtain ⟨i1, i2, i3, i4, i5, ⟨i6, i6'⟩, s1, s2, s3⟩ := I
  have hj4 := i1.1
  have ht12 := i1.2.1
  have s0 := st12 h1
  have a1 : sThr σ' tc = sThr σ tc + 1 := sI_inc (k := k) e86 (fun j hj => e8 j 6 hj) hk
  have a2 : sFel σ' tc = sFel σ tc := sI_eq (fun j _ => by
    show σ' 8 j 7 = σ 8 j 7
    by_cases z : j = k
    · rw [z, e87]
    · exact e8 j 7 z)
  have a3 : sCau σ' jc = sCau σ jc := sI_eq (fun j _ => e0 2 j 4 (by omega))
  have a4 : sBru σ' jc = sBru σ jc := sI_eq (fun j _ => e0 2 j 3 (by omega))
  have a5 : sHam σ' tc = sHam σ tc := sI_eq (fun j _ => by
    show hamF σ' j = hamF σ j
    unfold hamF
    by_cases z : j = k
    · rw [z, e80, e87]
    · rw [e8 j 0 z, e8 j 7 z])
  have a6 : sAt σ' tc 2 = sAt σ tc 2 + 1 := sI_inc (k := k) (by unfold atF; rw [h1, e81]; decide) (fun j hj => by unfold atF; rw [e8 j 1 hj]) hk
  have a7 : sAt σ tc 1 = sAt σ' tc 1 + 1 := sI_inc (k := k) (by unfold atF; rw [h1, e81]; decide) (fun j hj => by unfold atF; rw [e8 j 1 hj]) hk
  have a8 : sHan σ jc = sHan σ' jc + 1 := by
    refine sI_inc (k := i) ?_ (fun j hj => by unfold hanF; rw [e6, e6, if_neg (fun z => hj z.1), if_neg (fun z => hj z.1)]) hi0
    unfold hanF
    rw [e6, e6]
    rcases (show hd = 0 ∨ hd = 1 by omega) with rfl | rfl
    · rw [if_pos ⟨rfl, rfl⟩, if_neg (fun z => absurd z.2 (by decide)), h6, hv_m, hv_n (by omega), Int32.zero_add, Int32.add_comm]
    · rw [if_neg (fun z => absurd z.2 (by decide)), if_pos ⟨rfl, rfl⟩, h6, hv_m, hv_n (by omega), Int32.add_zero]
  refine ⟨⟨Shp_of i1 (fun a x c z => e0 a x c (by omega)), (e0 0 0 4 (Or.inl rfl)).trans i2, fun a ha p hp => ?_, fun a h ha hh2 => ?_, fun k2 hk2 => ?_, ⟨fun a ha ha4 => ?_, fun k2 h1 h2 => ?_⟩, ?_, ?_, ?_⟩, a2⟩
  · rw [e0 4 a p (by omega), e0 5 a p (by omega)]
    exact i3 a ha p hp
  · rw [e6]
    by_cases z : a = i ∧ h = hd
    · rw [if_pos z]; exact Or.inl rfl
    · rw [if_neg z]
      rcases i4 a h ha hh2 with y | ⟨k2, y1, y2, y3, y4, y5⟩
      · exact Or.inl y
      · have hne : k2 ≠ k := fun w => by
          rw [w] at y4 y5
          rw [hw] at y4
          rw [hw3] at y5
          exact z ⟨(nI_inj (by omega) (by omega) y4).symm, (nI_inj (by omega) (by omega) y5).symm⟩
        exact Or.inr ⟨k2, y1, y2, by rw [e8 _ _ hne]; exact y3, by rw [e8 _ _ hne]; exact y4, by rw [e8 _ _ hne]; exact y5⟩
  · by_cases z : k2 = k
    · subst z
      obtain ⟨g1, g2, g3⟩ := (i5 k2 hk2).2
      refine ⟨Or.inr (Or.inr (Or.inl ⟨e81, e83, t, d, ht, e82, hlo, hhi, e84⟩)), by rw [e80]; exact g1, fun w => absurd (e81.symm.trans w) (by decide), fun _ w => ?_⟩
      rw [e87]
      rw [e80] at w
      exact g3 s0.2.2 w
    · refine ⟨tAt_of (i5 k2 hk2).1 (fun c => e8 _ _ z) (fun a h ha hh2 y => ?_), tEg_of (i5 k2 hk2).2 (fun c => e8 _ _ z)⟩
      rw [e6, if_neg (fun w => ?_)]
      · exact y
      · obtain ⟨rfl, rfl⟩ := w
        rw [h6] at y
        exact z (nI_inj (by omega) (by omega) y).symm
  · have hne : a ≠ i := by omega
    rw [e6, e6, e0 2 a 3 (by omega), e0 2 a 4 (by omega), if_neg (fun z => hne z.1), if_neg (fun z => hne z.1)]
    exact i6 a ha ha4
  · have hne : k2 ≠ k := by omega
    rw [e8 _ _ hne, e8 _ _ hne, e8 _ _ hne, e8 _ _ hne, e8 _ _ hne]
    exact i6' k2 h1 h2
  · rw [a1, a2, a3, s1, a6]; ac_rfl
  · rw [a4, a5, s2]
  · have := a8.symm.trans (s3.trans a7)
    exact (Int32.add_left_inj 1).mp this
-- given
theorem Iv_put (I : Iv σ jc tc b ln lo hi) (hk : k < tc) (hi0 : i < jc) (hh : hd < 2) (h0 : σ 8 k 1 = 0) (h6 : σ 6 i hd = -1) (e6 : ∀ a c, σ' 6 a c = if a = i ∧ c = hd then nI k else σ 6 a c) (e8 : ∀ a c, a ≠ k → σ' 8 a c = σ 8 a c) (e80 : σ' 8 k 0 = σ 8 k 0) (e81 : σ' 8 k 1 = 1) (e82 : σ' 8 k 2 = nI i) (e83 : σ' 8 k 3 = nI hd) (e86 : σ' 8 k 6 = σ 8 k 6) (e87 : σ' 8 k 7 = σ 8 k 7) (e0 : ∀ a x c, a = 0 ∨ a = 2 ∨ a = 3 ∨ a = 4 ∨ a = 5 → σ' a x c = σ a x c) : Iv σ' jc tc b ln lo hi := by
  obtain ⟨i1, i2, i3, i4, i5, ⟨i6, i6'⟩, s1, s2, s3⟩ := I
  have hj4 := i1.1
  have ht12 := i1.2.1
  have s0 := st02 h0
  have a1 : sThr σ' tc = sThr σ tc := sI_eq (fun j _ => by
    show σ' 8 j 6 = σ 8 j 6
    by_cases z : j = k
    · rw [z, e86]
    · exact e8 j 6 z)
  have a2 : sFel σ' tc = sFel σ tc := sI_eq (fun j _ => by
    show σ' 8 j 7 = σ 8 j 7
    by_cases z : j = k
    · rw [z, e87]
    · exact e8 j 7 z)
  have a3 : sCau σ' jc = sCau σ jc := sI_eq (fun j _ => e0 2 j 4 (by omega))
  have a4 : sBru σ' jc = sBru σ jc := sI_eq (fun j _ => e0 2 j 3 (by omega))
  have a5 : sHam σ' tc = sHam σ tc := sI_eq (fun j _ => by
    show hamF σ' j = hamF σ j
    unfold hamF
    by_cases z : j = k
    · rw [z, e80, e87]
    · rw [e8 j 0 z, e8 j 7 z])
  have a6 : sAt σ' tc 2 = sAt σ tc 2 := sI_eq (fun j _ => by
    show atF σ' 2 j = atF σ 2 j
    unfold atF
    by_cases z : j = k
    · rw [z, e81, h0]; decide
    · rw [e8 j 1 z])
  have a7 : sAt σ' tc 1 = sAt σ tc 1 + 1 := sI_inc (k := k) (by unfold atF; rw [h0, e81]; decide) (fun j hj => by unfold atF; rw [e8 j 1 hj]) hk
  have a8 : sHan σ' jc = sHan σ jc + 1 := by
    refine sI_inc (k := i) ?_ (fun j hj => by unfold hanF; rw [e6, e6, if_neg (fun z => hj z.1), if_neg (fun z => hj z.1)]) hi0
    unfold hanF
    rw [e6, e6]
    rcases (show hd = 0 ∨ hd = 1 by omega) with rfl | rfl
    · rw [if_pos ⟨rfl, rfl⟩, if_neg (fun z => absurd z.2 (by decide)), h6, hv_m, hv_n (by omega), Int32.zero_add, Int32.add_comm]
    · rw [if_neg (fun z => absurd z.2 (by decide)), if_pos ⟨rfl, rfl⟩, h6, hv_m, hv_n (by omega), Int32.add_zero]
  refine ⟨Shp_of i1 (fun a x c z => e0 a x c (by omega)), (e0 0 0 4 (Or.inl rfl)).trans i2, fun a ha p hp => ?_, fun a h ha hh2 => ?_, fun k2 hk2 => ?_, ⟨fun a ha ha4 => ?_, fun k2 h1 h2 => ?_⟩, ?_, ?_, ?_⟩
  · rw [e0 4 a p (by omega), e0 5 a p (by omega)]
    exact i3 a ha p hp
  · rw [e6]
    by_cases z : a = i ∧ h = hd
    · obtain ⟨rfl, rfl⟩ := z
      exact Or.inr ⟨k, hk, by rw [if_pos ⟨rfl, rfl⟩], e81, e82, e83⟩
    · rw [if_neg z]
      rcases i4 a h ha hh2 with y | ⟨k2, y1, y2, y3, y4, y5⟩
      · exact Or.inl y
      · have hne : k2 ≠ k := fun z => by rw [z, h0] at y3; exact absurd y3 (by decide)
        exact Or.inr ⟨k2, y1, y2, by rw [e8 _ _ hne]; exact y3, by rw [e8 _ _ hne]; exact y4, by rw [e8 _ _ hne]; exact y5⟩
  · by_cases z : k2 = k
    · subst z
      refine ⟨Or.inr (Or.inl ⟨e81, i, hd, hi0, hh, e82, e83, by rw [e6, if_pos ⟨rfl, rfl⟩]⟩), ?_⟩
      obtain ⟨g1, g2, g3⟩ := (i5 k2 hk2).2
      refine ⟨by rw [e80]; exact g1, fun y => absurd (e81.symm.trans y) (by decide), fun _ y => ?_⟩
      rw [e87]
      rw [e80] at y
      exact g3 s0.2.2 y
    · refine ⟨tAt_of (i5 k2 hk2).1 (fun c => e8 _ _ z) (fun a h ha hh2 y => ?_), tEg_of (i5 k2 hk2).2 (fun c => e8 _ _ z)⟩
      rw [e6]
      by_cases z2 : a = i ∧ h = hd
      · obtain ⟨rfl, rfl⟩ := z2
        rw [h6] at y
        exact absurd y.symm (nI_m1 (by omega))
      · rw [if_neg z2]; exact y
  · have hne : a ≠ i := by omega
    rw [e6, e6, e0 2 a 3 (by omega), e0 2 a 4 (by omega), if_neg (fun z => hne z.1), if_neg (fun z => hne z.1)]
    exact i6 a ha ha4
  · have hne : k2 ≠ k := by omega
    rw [e8 _ _ hne, e8 _ _ hne, e8 _ _ hne, e8 _ _ hne, e8 _ _ hne]
    exact i6' k2 h1 h2
  · rw [a1, a2, a3, s1, a6]
  · rw [a4, a5, s2]
  · rw [a8, a7, s3]
end IVS
