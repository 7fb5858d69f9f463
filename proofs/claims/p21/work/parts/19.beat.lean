/-! ===== a beat keeps it ===== -/
section IVB
variable {σ σ' : Sg} {jc tc b k i hd hi : Nat} {ln lo : Nat → Nat}
theorem fIn_s {x : Int32} : ∀ n, fIn σ n x = sAt σ n x
  | 0 => rfl
  | n + 1 => by
    show (if decide (σ 8 n 1 = x) = true then fIn σ n x + 1 else fIn σ n x) = sAt σ n x + atF σ x n
    rw [fIn_s n]
    unfold atF
    by_cases h : σ 8 n 1 = x
    · rw [if_pos (by rw [decide_eq_true h]), if_pos h]
    · rw [if_neg (by rw [decide_eq_false h]; decide), if_neg h, Int32.add_zero]
/-- a thing in the air is told when it comes down -/
theorem tAt_air {lo0 : Nat} (h : tAt σ jc lo0 hi k) (h2 : σ 8 k 1 = 2) : σ 8 k 3 = -1 ∧ ∃ i d, i < jc ∧ σ 8 k 2 = nI i ∧ lo0 ≤ d ∧ d ≤ hi ∧ σ 8 k 4 = nI d := by
  have s0 := st01 h2
  rcases h with z | z | z | z
  · exact absurd z.1 s0.1
  · exact absurd z.1 s0.2.1
  · exact z.2
  · exact absurd z.1 s0.2.2
theorem tAt_hand {lo0 : Nat} (h : tAt σ jc lo0 hi k) (h1 : σ 8 k 1 = 1) : ∃ i h, i < jc ∧ h < 2 ∧ σ 8 k 2 = nI i ∧ σ 8 k 3 = nI h ∧ σ 6 i h = nI k := by
  have s0 := st12 h1
  rcases h with z | z | z | z
  · exact absurd z.1 s0.1
  · exact z.2
  · exact absurd z.1 s0.2.1
  · exact absurd z.1 s0.2.2
/-- one thing that may come down -/
theorem Iv_dn1 (hb : b + 10 < 2 ^ 31) (I : Iv σ jc tc b ln (fun j => if j < k then b + 1 else b) (b + 9)) (hk : k < tc) : Iv (fDown1 σ k (b % 2)) jc tc b ln (fun j => if j < k + 1 then b + 1 else b) (b + 9) ∧ sFel (fDown1 σ k (b % 2)) tc = sFel σ tc + fDown1r σ k (b % 2) ∧ ∀ i h, i < jc → h < 2 → ¬ σ 6 i h = -1 → fDown1 σ k (b % 2) 6 i h = σ 6 i h := by
  have h4 := I.1.1
  have h12 := I.1.2.1
  have hh : b % 2 < 2 := Nat.mod_lt b (by decide)
  have hT : tAt σ jc (if k < k then b + 1 else b) (b + 9) k := (I.2.2.2.2.1 k hk).1
  rw [if_neg (Nat.lt_irrefl k)] at hT
  -- the others
  have key : ∀ τ : Sg, Iv τ jc tc b ln (fun j => if j < k then b + 1 else b) (b + 9) → (¬ τ 8 k 1 = 2 ∨ ∃ d, b < d ∧ d ≤ b + 9 ∧ τ 8 k 4 = nI d) → Iv τ jc tc b ln (fun j => if j < k + 1 then b + 1 else b) (b + 9) := by
    intro τ J hd
    obtain ⟨i1, i2, i3, i4, i5, i6, i7⟩ := J
    refine ⟨i1, i2, i3, i4, fun j hj => ⟨?_, (i5 j hj).2⟩, i6, i7⟩
    have q : tAt τ jc (if j < k then b + 1 else b) (b + 9) j := (i5 j hj).1
    show tAt τ jc (if j < k + 1 then b + 1 else b) (b + 9) j
    by_cases z : j = k
    · subst z
      rw [if_neg (Nat.lt_irrefl j)] at q
      rw [if_pos (Nat.lt_succ_self j)]
      rcases q with y | y | ⟨y1, y2, i, d, y3, y4, y5, y6, y7⟩ | y
      · exact Or.inl y
      · exact Or.inr (Or.inl y)
      · rcases hd with w | ⟨d2, w1, w2, w3⟩
        · exact absurd y1 w
        · exact Or.inr (Or.inr (Or.inl ⟨y1, y2, i, d2, y3, y4, w1, w2, w3⟩))
      · exact Or.inr (Or.inr (Or.inr y))
    · have e : (if j < k + 1 then b + 1 else b) = if j < k then b + 1 else b := by
        by_cases w : j < k
        · rw [if_pos w, if_pos (by omega)]
        · rw [if_neg w, if_neg (by omega)]
      rw [e]
      exact q
  by_cases y : σ 8 k 1 = 2 ∧ σ 8 k 4 = nI b
  · obtain ⟨w3, i, d, hi, w2, d1, d2, d3⟩ := tAt_air hT y.1
    have hc : (nI i).toNatClampNeg = i := nI_clamp (by omega)
    have f0 : ¬ fDown σ k (σ 0 0 4) = 0 := by
      unfold fDown
      rw [I.2.1, if_pos y]; decide
    have f1 : ¬ fHasJ σ (nI i) = 0 := by rw [hasJ_1 I.1.2.2.1 hi h4]; decide
    unfold fDown1 fDown1r
    rw [if_neg f0, if_neg f0, w2, if_neg f1, if_neg f1, hc]
    by_cases z : σ 6 i (b % 2) = -1 ∧ ¬ σ 2 i 2 + 2 < σ 8 k 5
    · have f2 : ¬ fCan σ i (σ 8 k 5) (b % 2) = 0 := by
        unfold fCan
        rw [if_pos z]; decide
      rw [if_neg f2, if_neg f2]
      have C := Iv_catch (σ' := u3 (fPut σ k (nI i) i (b % 2)) 2 i 4 (fPut σ k (nI i) i (b % 2) 2 i 4 + 1)) I hk hi hh y.1 z.1 (by intro a c; simp [fPut, u3_eq]) (by intro a c ha; simp [fPut, u3_eq, ha]) (by simp [fPut, u3_eq]) (by simp [fPut, u3_eq]) (by simp [fPut, u3_eq]) (by simp [fPut, u3_eq]) (by simp [fPut, u3_eq]) (by simp [fPut, u3_eq]) (by intro a c hc; simp [fPut, u3_eq, hc]) (by intro a; simp [fPut, u3_eq]) (by intro a x c ha; rcases ha with rfl | rfl | rfl | rfl <;> simp [fPut, u3_eq])
      refine ⟨key _ C.1 (Or.inl (by simp [fPut, u3_eq])), by rw [C.2, Int32.add_zero], fun a h ha hh2 hne => ?_⟩
      have : ¬ (a = i ∧ h = b % 2) := fun q => hne (by rw [q.1, q.2]; exact z.1)
      simp only [fPut, u3_eq]
      simp [this]
    · have f2 : fCan σ i (σ 8 k 5) (b % 2) = 0 := by
        unfold fCan
        rw [if_neg z]
      rw [if_pos f2, if_pos f2]
      have C := Iv_miss (σ' := fMiss σ i k) I hk hi y.1 (by intro a c; unfold fMiss fFall; split <;> simp [u3_eq]) (by intro a c ha; unfold fMiss fFall; split <;> simp [u3_eq, ha]) (by unfold fMiss fFall; split <;> simp [u3_eq]) (by unfold fMiss fFall; split <;> simp [u3_eq]) (by unfold fMiss fFall; split <;> simp [u3_eq]) (by unfold fMiss fFall; split <;> simp [u3_eq]) (by unfold fMiss fFall; split <;> simp [u3_eq]) (by unfold fMiss fFall; split <;> simp [u3_eq]) (by intro a c hc; unfold fMiss fFall; split <;> simp [u3_eq, hc]) (by intro a; unfold fMiss fFall; split <;> rename_i u <;> simp [u3_eq, u]) (by intro a x c ha; unfold fMiss fFall; rcases ha with rfl | rfl | rfl | rfl <;> split <;> simp [u3_eq])
      refine ⟨key _ C.1 (Or.inl ?_), C.2, fun a h ha hh2 hne => ?_⟩
      · unfold fMiss fFall
        split <;> simp only [u3_eq] <;> simp <;> split <;> decide
      · unfold fMiss fFall
        split <;> simp [u3_eq]
  · have f0 : fDown σ k (σ 0 0 4) = 0 := by
      unfold fDown
      rw [I.2.1, if_neg y]
    unfold fDown1 fDown1r
    rw [if_pos f0, if_pos f0]
    refine ⟨key _ I ?_, (Int32.add_zero _).symm, fun _ _ _ _ _ => rfl⟩
    by_cases z : σ 8 k 1 = 2
    · obtain ⟨w3, i, d, hi, w2, d1, d2, d3⟩ := tAt_air hT z
      refine Or.inr ⟨d, ?_, d2, d3⟩
      rcases Nat.lt_or_ge b d with w | w
      · exact w
      · have : d = b := by omega
        rw [this] at d3
        exact absurd ⟨z, d3⟩ y
    · exact Or.inl z
theorem Iv_dn (hb : b + 10 < 2 ^ 31) (I : Iv σ jc tc b ln (fun _ => b) (b + 9)) : ∀ n, n ≤ tc → Iv (dnL (b % 2) σ n) jc tc b ln (fun j => if j < n then b + 1 else b) (b + 9) ∧ sFel (dnL (b % 2) σ n) tc = sFel σ tc + dnR (b % 2) σ n ∧ ∀ i h, i < jc → h < 2 → ¬ σ 6 i h = -1 → dnL (b % 2) σ n 6 i h = σ 6 i h
  | 0, _ => ⟨Iv_lo I (fun k _ => by rw [if_neg (Nat.not_lt_zero k)]; exact Nat.le_refl b) (Nat.le_refl _), (Int32.add_zero _).symm, fun _ _ _ _ _ => rfl⟩
  | n + 1, h => by
    obtain ⟨h1, h2, h3⟩ := Iv_dn hb I n (by omega)
    obtain ⟨g1, g2, g3⟩ := Iv_dn1 hb h1 (show n < tc by omega)
    refine ⟨g1, ?_, fun a c ha hc hne => (g3 a c ha hc (by rw [h3 a c ha hc hne]; exact hne)).trans (h3 a c ha hc hne)⟩
    show sFel (fDown1 (dnL (b % 2) σ n) n (b % 2)) tc = sFel σ tc + (dnR (b % 2) σ n + fDown1r (dnL (b % 2) σ n) n (b % 2))
    rw [g2, h2, Int32.add_assoc]
/-- how long a thing is in the air -/
theorem fAir_n {kd : Int32} {h : Nat} (h1 : 1 ≤ h) (h9 : h ≤ 9) : ∃ d, 1 ≤ d ∧ d ≤ 10 ∧ fAir kd (nI h) = nI d := by
  unfold fAir
  split
  · rename_i z
    have h3 : 3 ≤ h := by
      rcases Nat.lt_or_ge h 3 with w | w
      · exact absurd (show nI h < 3 from nI_lt w (by decide)) z.2
      · exact w
    obtain ⟨c, rfl⟩ : ∃ c, h = c + 1 := ⟨h - 1, by omega⟩
    exact ⟨c, by omega, by omega, nI_pred c⟩
  · split
    · exact ⟨h + 1, by omega, by omega, nI_1 h⟩
    · exact ⟨h, h1, by omega, rfl⟩
theorem Iv_throw (hb : b + 10 < 2 ^ 31) (I : Iv σ jc tc b ln (fun _ => b + 1) (b + 10)) (hj : i < jc) : Iv (fThrow σ i (b % ln i) (b % 2)) jc tc b ln (fun _ => b + 1) (b + 10) ∧ sFel (fThrow σ i (b % ln i) (b % 2)) tc = sFel σ tc ∧ ∀ a h, a < jc → h < 2 → ¬ (a = i ∧ h = b % 2 ∧ ¬ σ 4 i (b % ln i) ≤ 0) → fThrow σ i (b % ln i) (b % 2) 6 a h = σ 6 a h := by
  have h4 := I.1.1
  have h12 := I.1.2.1
  have hh : b % 2 < 2 := Nat.mod_lt b (by decide)
  obtain ⟨l1, l8, l3⟩ := I.1.2.2.2.2 i hj
  obtain ⟨h, t, g1, g2, g3, g4⟩ := I.2.2.1 i hj (b % ln i) (Nat.mod_lt b l1)
  unfold fThrow
  rcases I.2.2.2.1 i (b % 2) hj hh with y | ⟨k, y1, y2, y3, y4, y5⟩
  · have f0 : fHasT σ (σ 6 i (b % 2)) = 0 := by
      unfold fHasT
      rw [y]
      exact if_neg (fun z => z.1 (by decide))
    rw [if_pos f0]
    exact ⟨I, rfl, fun _ _ _ _ _ => rfl⟩
  · have f0 : ¬ fHasT σ (σ 6 i (b % 2)) = 0 := by rw [y2, hasT_1 I.1.2.2.2.1 y1 h12]; decide
    rw [if_neg f0]
    by_cases z : σ 4 i (b % ln i) ≤ 0
    · rw [if_pos z]
      exact ⟨I, rfl, fun _ _ _ _ _ => rfl⟩
    · rw [if_neg z]
      have h1 : 1 ≤ h := by
        rcases Nat.lt_or_ge 0 h with w | w
        · exact w
        · have : h = 0 := by omega
          rw [g3, this] at z
          exact absurd (show nI 0 ≤ 0 by decide) z
      obtain ⟨d, d1, d2, d3⟩ := fAir_n (kd := σ 8 k 0) h1 g1
      rw [y2, nI_clamp (show k < 2 ^ 31 by omega)]
      have C := Iv_fly (σ' := u3 (fFly σ k (σ 5 i (b % ln i)) (σ 4 i (b % ln i)) (σ 0 0 4)) 6 i (b % 2) (-1)) (t := t) (d := b + d) I y1 hj hh y3 y4 y5 y2 g2 (by omega) (by omega) (by intro a c; simp [fFly, u3_eq]) (by intro a c ha; simp [fFly, u3_eq, ha]) (by simp [fFly, u3_eq]) (by simp [fFly, u3_eq]) (by simp [fFly, u3_eq]; exact g4) (by simp [fFly, u3_eq]) (by simp [fFly, u3_eq]; rw [g3, I.2.1, d3, nI_add]) (by simp [fFly, u3_eq]) (by simp [fFly, u3_eq]) (by intro a x c ha; rcases ha with rfl | rfl | rfl | rfl | rfl <;> simp [fFly, u3_eq])
      refine ⟨C.1, C.2, fun a h ha hh2 hne => ?_⟩
      have : ¬ (a = i ∧ h = b % 2) := fun q => hne ⟨q.1, q.2, z⟩
      simp only [fFly, u3_eq]
      simp [this]
theorem Iv_th (hb : b + 10 < 2 ^ 31) (I : Iv σ jc tc b ln (fun _ => b + 1) (b + 10)) : ∀ n, n ≤ jc → Iv (thL b ln σ n) jc tc b ln (fun _ => b + 1) (b + 10) ∧ sFel (thL b ln σ n) tc = sFel σ tc ∧ ∀ a h, a < jc → h < 2 → ¬ (h = b % 2 ∧ ¬ σ 4 a (b % ln a) ≤ 0) → thL b ln σ n 6 a h = σ 6 a h
  | 0, _ => ⟨I, rfl, fun _ _ _ _ _ => rfl⟩
  | n + 1, h => by
    obtain ⟨h1, h2, h3⟩ := Iv_th hb I n (by omega)
    obtain ⟨g1, g2, g3⟩ := Iv_throw hb h1 (show n < jc by omega)
    refine ⟨g1, g2.trans h2, fun a c ha hc hne => (g3 a c ha hc (fun w => hne ?_)).trans (h3 a c ha hc hne)⟩
    obtain ⟨rfl, w2, w3⟩ := w
    rw [thL_k (by decide) (by decide)] at w3
    exact ⟨w2, w3⟩
theorem sFel_u {v : Int32} : sFel (u3 σ 0 0 4 v) tc = sFel σ tc := sI_eq (fun j _ => u3_ne (by omega))
theorem Iv_b {b' : Nat} (I : Iv σ jc tc b ln lo hi) : Iv (u3 σ 0 0 4 (nI b')) jc tc b' ln lo hi := by
  obtain ⟨i1, i2, i3, i4, i5, i6, i7⟩ := I
  have e : ∀ a x c, a ≠ 0 → u3 σ 0 0 4 (nI b') a x c = σ a x c := fun a x c h => u3_ne (fun z => h z.1)
  refine ⟨Shp_of i1 (fun a x c z => u3_ne (by omega)), u3_at _ _ _ _ _, ?_, ?_, ?_, ?_, ?_⟩
  · intro a ha p hp
    rw [e _ _ _ (by decide), e _ _ _ (by decide)]
    exact i3 a ha p hp
  · intro a h ha hh
    rw [e _ _ _ (by decide)]
    rcases i4 a h ha hh with y | ⟨k, y1, y2, y3, y4, y5⟩
    · exact Or.inl y
    · exact Or.inr ⟨k, y1, y2, (e _ _ _ (by decide)).trans y3, (e _ _ _ (by decide)).trans y4, (e _ _ _ (by decide)).trans y5⟩
  · intro k hk
    exact ⟨tAt_of (i5 k hk).1 (fun c => e _ _ _ (by decide)) (fun a h _ _ y => (e _ _ _ (by decide)).trans y), tEg_of (i5 k hk).2 (fun c => e _ _ _ (by decide))⟩
  · refine ⟨fun a h1 h2 => ?_, fun k h1 h2 => ?_⟩
    · rw [e _ _ _ (by decide), e _ _ _ (by decide), e _ _ _ (by decide), e _ _ _ (by decide)]
      exact i6.1 a h1 h2
    · rw [e _ _ _ (by decide), e _ _ _ (by decide), e _ _ _ (by decide), e _ _ _ (by decide), e _ _ _ (by decide)]
      exact i6.2 k h1 h2
  · have q : ∀ x y, x ≠ 0 → (u3 σ 0 0 4 (nI b')) x y = σ x y := fun x y hx => funext (fun c => e x y c hx)
    unfold Sm sThr sCau sFel sAt sBru sHam sHan hamF hanF
    have q2 : (fun k => atF (u3 σ 0 0 4 (nI b')) 2 k) = fun k => atF σ 2 k := funext (fun k => by unfold atF; rw [q 8 k (by decide)])
    have q1 : (fun k => atF (u3 σ 0 0 4 (nI b')) 1 k) = fun k => atF σ 1 k := funext (fun k => by unfold atF; rw [q 8 k (by decide)])
    simp only [q 8 _ (by decide), q 2 _ (by decide), q 6 _ (by decide)]
    refine ⟨?_, i7.2.1, ?_⟩
    · exact i7.1.trans (congrArg (fun f => sCau σ jc + sFel σ tc + sI f tc) q2.symm)
    · exact i7.2.2.trans (congrArg (fun f => sI f tc) q1.symm)
/-- a ring at the beat b -/
abbrev RI (σ : Sg) (jc tc b : Nat) (ln : Nat → Nat) : Prop := Iv σ jc tc b ln (fun _ => b) (b + 9)
theorem RI_beat (hb : b + 10 < 2 ^ 31) (I : RI σ jc tc b ln) : RI (fBeat σ b jc tc ln) jc tc (b + 1) ln ∧ sFel (fBeat σ b jc tc ln) tc = sFel σ tc + fBeatR σ b tc ∧ ∀ a h, a < jc → h < 2 → ¬ σ 6 a h = -1 → ¬ (h = b % 2 ∧ ¬ σ 4 a (b % ln a) ≤ 0) → fBeat σ b jc tc ln 6 a h = σ 6 a h := by
  obtain ⟨h1, h2, h3⟩ := Iv_dn hb I tc (Nat.le_refl tc)
  have h1' := Iv_lo (lo' := fun _ => b + 1) (hi' := b + 10) h1 (fun k hk => by rw [if_pos hk]; exact Nat.le_refl _) (by omega)
  obtain ⟨g1, g2, g3⟩ := Iv_th hb h1' jc (Nat.le_refl jc)
  refine ⟨?_, ?_, fun a h ha hh hne hno => ?_⟩
  · have := Iv_b (b' := b + 1) g1
    exact Iv_lo this (fun _ _ => Nat.le_refl _) (by omega)
  · show sFel (u3 _ 0 0 4 _) tc = _
    rw [sFel_u, g2, h2]
    rfl
  · show u3 _ 0 0 4 _ 6 a h = _
    rw [u3_ne (by omega), g3 a h ha hh (fun w => hno ⟨w.1, fun u => w.2 ?_⟩), h3 a h ha hh hne]
    rw [dnL_k (by decide) (by decide) (by decide)]
    exact u
theorem RI_play : ∀ n, b + n + 10 < 2 ^ 31 → RI σ jc tc b ln → RI (plL b jc tc ln σ n) jc tc (b + n) ln ∧ sFel (plL b jc tc ln σ n) tc = sFel σ tc + plR b jc tc ln σ n ∧ ∀ a h, a < jc → h < 2 → ¬ σ 6 a h = -1 → (∀ x, x < n → ¬ (h = (b + x) % 2 ∧ ¬ σ 4 a ((b + x) % ln a) ≤ 0)) → plL b jc tc ln σ n 6 a h = σ 6 a h
  | 0, _, I => ⟨I, (Int32.add_zero _).symm, fun _ _ _ _ _ _ => rfl⟩
  | n + 1, hb, I => by
    obtain ⟨h1, h2, h3⟩ := RI_play n (by omega) I
    obtain ⟨g1, g2, g3⟩ := RI_beat (show b + n + 10 < 2 ^ 31 by omega) h1
    refine ⟨g1, ?_, fun a h ha hh hne hno => ?_⟩
    · show sFel (fBeat (plL b jc tc ln σ n) (b + n) jc tc ln) tc = sFel σ tc + (plR b jc tc ln σ n + fBeatR (plL b jc tc ln σ n) (b + n) tc)
      rw [g2, h2, Int32.add_assoc]
    · have e := h3 a h ha hh hne (fun x hx => hno x (by omega))
      refine (g3 a h ha hh (by rw [e]; exact hne) (fun w => hno n (by omega) ⟨w.1, fun u => w.2 ?_⟩)).trans e
      rw [plL_k (by decide) (by decide) (by decide) (by omega)]
      exact u
end IVB
