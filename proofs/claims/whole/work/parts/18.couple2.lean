/-! ===== a thing comes down, a juggler throws: both sides alike ===== -/
theorem sI_eq {f g : Nat → Int32} : ∀ {n : Nat}, (∀ j, j < n → f j = g j) → sI f n = sI g n
  | 0, _ => rfl
  | n + 1, h => by
    show sI f n + f n = sI g n + g n
    rw [sI_eq (fun j hj => h j (by omega)), h n (by omega)]
theorem sI_inc {f g : Nat → Int32} {k : Nat} (hk : f k = g k + 1) (h : ∀ j, j ≠ k → f j = g j) : ∀ {n : Nat}, k < n → sI f n = sI g n + 1
  | 0, z => absurd z (Nat.not_lt_zero k)
  | n + 1, z => by
    show sI f n + f n = sI g n + g n + 1
    by_cases y : n = k
    · subst y
      rw [sI_eq (fun j hj => h j (by omega)), hk, Int32.add_assoc]
    · rw [sI_inc hk h (show k < n by omega), h n y, Int32.add_assoc, Int32.add_assoc, Int32.add_comm 1]
section CPM
variable {σ σ' τ τ' q : Sg} {jc tc b k i hd : Nat} {ln : Nat → Nat}
theorem fCan_e (D : Dy σ τ jc tc b) (hi : i < jc) (hh : hd < 2) (S : St σ q jc tc ln) {h : Int32} : (τ 3 0 (2 * i + hd) = 0 ∧ ¬ q 1 0 i + 2 < h) ↔ (σ 6 i hd = -1 ∧ ¬ σ 2 i 2 + 2 < h) := by
  have e := (D.2.2.1 i hd hi hh)
  rw [(S.2.2.2.1 i hi).1, e.1]
  constructor
  · rintro ⟨y, z⟩
    refine ⟨?_, z⟩
    rcases e.2 with w | ⟨k, k1, k2, -⟩
    · exact w
    · rw [k2, ← nI_succ] at y
      have := S.1.2.1
      exact absurd y (nI_ne0 (by omega) (by omega))
  · rintro ⟨y, z⟩
    exact ⟨by rw [y]; decide, z⟩
theorem Dy_dn1 (S : St σ q jc tc ln) (D : Dy σ τ jc tc b) (hk : k < tc) : Dy (fDown1 σ k (b % 2)) (gDn1 τ q k b) jc tc b ∧ sI (gDn1 τ q k b 9 0) 12 = sI (τ 9 0) 12 + fDown1r σ k (b % 2) := by
  have h4 := S.1.1
  have h12 := S.1.2.1
  have hh : b % 2 < 2 := Nat.mod_lt b (by decide)
  have hT := D.2.2.2.1 k hk
  by_cases y : σ 8 k 1 = 2 ∧ σ 8 k 4 = nI b
  · rcases hT.2.2.2 with z | z | ⟨-, i, hi, w2, w3, w5, w6, w7⟩
    · rcases z.1 with u | u <;> rw [u] at y <;> exact absurd y.1 (by decide)
    · rw [z.1] at y; exact absurd y.1 (by decide)
    · have hc : (nI i).toNatClampNeg = i := nI_clamp (by omega)
      have f0 : ¬ fDown σ k (σ 0 0 4) = 0 := by
        unfold fDown
        rw [D.1, if_pos y]; decide
      have f1 : ¬ fHasJ σ (nI i) = 0 := by rw [hasJ_1 S.1.2.2.1 hi h4]; decide
      have g1 : gDn1 τ q k b = gDown τ q k i (b % 2) := by
        unfold gDn1
        rw [if_pos ⟨hT.1.trans y.1, w6.trans y.2⟩, w5, hc]
      rw [g1]
      unfold fDown1 fDown1r gDown
      rw [if_neg f0, if_neg f0, w2, if_neg f1, if_neg f1, hc]
      have hfc := fCan_e D hi hh S (h := σ 8 k 5)
      rw [w7]
      by_cases z : σ 6 i (b % 2) = -1 ∧ ¬ σ 2 i 2 + 2 < σ 8 k 5
      · have f2 : ¬ fCan σ i (σ 8 k 5) (b % 2) = 0 := by
          unfold fCan
          rw [if_pos z]; decide
        rw [if_neg f2, if_neg f2, if_pos (hfc.mpr z)]
        refine ⟨Dy_catch D h4 h12 hk hi hh y.1 w2 z.1 ?_ ?_ ?_ ?_ ?_ ?_ ?_ ?_ ?_ ?_, ?_⟩
        · intro a c; simp [fPut, u3_eq]
        · intro a c ha; simp [fPut, u3_eq, ha]
        · simp [fPut, u3_eq]
        · simp [fPut, u3_eq]
        · simp [fPut, u3_eq]
        · simp [fPut, u3_eq]
        · simp [fPut, u3_eq]
        · intro a; simp [fPut, u3_eq]
        · intro a; simp [fPut, u3_eq]
        · simp [fPut, u3_eq]
        · rw [Int32.add_zero]
          refine sI_eq (fun j hj => ?_)
          simp [gCatch, u3_eq]
      · have f2 : fCan σ i (σ 8 k 5) (b % 2) = 0 := by
          unfold fCan
          rw [if_neg z]
        rw [if_pos f2, if_pos f2, if_neg (fun u => z (hfc.mp u))]
        refine ⟨Dy_miss S D hk hi y.1 w2 w3 ?_ ?_ ?_ ?_ ?_ ?_ ?_ ?_ ?_ ?_, ?_⟩
        · intro a c; unfold fMiss fFall; split <;> simp [u3_eq]
        · intro a c ha; unfold fMiss fFall; split <;> simp [u3_eq, ha]
        · unfold fMiss fFall; split <;> simp [u3_eq]
        · unfold fMiss fFall; split <;> simp [u3_eq]
        · unfold fMiss fFall; split <;> simp [u3_eq]
        · unfold fMiss fFall; split <;> simp [u3_eq]
        · unfold fMiss fFall; split <;> simp [u3_eq]
        · intro a; unfold fMiss fFall; split <;> rename_i u <;> simp [u3_eq, u]
        · intro a; unfold fMiss fFall; split <;> simp [u3_eq]
        · unfold fMiss fFall; split <;> simp [u3_eq]
        · refine sI_inc (k := k) ?_ (fun j hj => ?_) (by omega)
          · unfold gMiss; split <;> simp [u3_eq]
          · unfold gMiss; split <;> simp [u3_eq, hj]
  · have f0 : fDown σ k (σ 0 0 4) = 0 := by
      unfold fDown
      rw [D.1, if_neg y]
    have g0 : ¬ (τ 4 0 k = 2 ∧ τ 6 0 k = nI b) := by
      rw [hT.1]
      rintro ⟨u, v⟩
      rcases hT.2.2.2 with z | z | ⟨-, i, hi, w2, w3, w5, w6, w7⟩
      · rcases z.1 with w | w <;> rw [w] at u <;> exact absurd u (by decide)
      · rw [z.1] at u; exact absurd u (by decide)
      · exact y ⟨u, w6 ▸ v⟩
    unfold fDown1 fDown1r gDn1
    rw [if_pos f0, if_pos f0, if_neg g0]
    exact ⟨D, (Int32.add_zero _).symm⟩
theorem St_dn {n : Nat} (S : St σ q jc tc ln) : St (dnL hd σ n) q jc tc ln := St_of S (fun a b c z => by
  by_cases y : a = 2 ∨ a = 8
  · induction n with
    | zero => rfl
    | succ n ih =>
      refine Eq.trans ?_ ih
      show fDown1 (dnL hd σ n) n hd a b c = dnL hd σ n a b c
      unfold fDown1
      split
      · rfl
      · split
        · rfl
        · split
          · unfold fMiss fFall
            rw [u3_ne (by omega), u3_ne (by omega), u3_ne (by omega)]
            split
            · rw [u3_ne (by omega)]
            · rfl
          · unfold fPut
            rw [u3_ne (by omega), u3_ne (by omega), u3_ne (by omega), u3_ne (by omega), u3_ne (by omega)]
  · exact dnL_k (by omega) (by omega) (by omega) n)
theorem Dy_dn (S : St σ q jc tc ln) (D : Dy σ τ jc tc b) : ∀ n, n ≤ tc → Dy (dnL (b % 2) σ n) (gdL q b τ n) jc tc b ∧ sI (gdL q b τ n 9 0) 12 = sI (τ 9 0) 12 + dnR (b % 2) σ n
  | 0, _ => ⟨D, (Int32.add_zero _).symm⟩
  | n + 1, h => by
    obtain ⟨h1, h2⟩ := Dy_dn S D n (by omega)
    obtain ⟨h3, h4⟩ := Dy_dn1 (St_dn S) h1 (show n < tc by omega)
    refine ⟨h3, h4.trans ?_⟩
    rw [h2, Int32.add_assoc]
    rfl
-- thrown
theorem Dy_fly (S : St σ q jc tc ln) (D : Dy σ τ jc tc b) {j p : Nat} (hj : j < jc) (hp : p < ln j) (hh : hd < 2) (hk : k < tc) (h6 : σ 6 j hd = nI k) : Dy (u3 (fFly σ k (σ 5 j p) (σ 4 j p) (σ 0 0 4)) 6 j hd (-1)) (gFly τ q k (2 * j + hd) (8 * j + p) b) jc tc b := by
  have h4 := S.1.1
  have h12 := S.1.2.1
  obtain ⟨d1, d2, dH, dT, dJ, dZ⟩ := D
  obtain ⟨v, t, v9, tj, s4, q3, s5, q4⟩ := (S.2.2.2.1 j hj).2.2 p hp
  have hq : q 5 0 k = σ 8 k 0 := S.2.2.2.2 k hk
  have hown : σ 8 k 1 = 1 ∧ σ 8 k 2 = nI j ∧ σ 8 k 3 = nI hd := by
    rcases (dH j hd hj hh).2 with w | ⟨k2, y1, y2, y3, y4, y5⟩
    · rw [h6] at w; exact absurd w (nI_m1 (by omega))
    · have : k2 = k := nI_inj (by omega) (by omega) (y2.symm.trans h6)
      subst this
      exact ⟨y3, y4, y5⟩
  have g0 : ∀ a c, gFly τ q k (2 * j + hd) (8 * j + p) b a 0 c = if a = 8 ∧ c = k then τ 8 0 k + 1 else if a = 6 ∧ c = k then nI b + fAir (σ 8 k 0) (nI v) else if a = 7 ∧ c = k then nI v else if a = 5 ∧ c = k then nI t else if a = 4 ∧ c = k then 2 else if a = 3 ∧ c = 2 * j + hd then 0 else τ a 0 c := by
    intro a c
    unfold gFly
    rw [u3_eq, u3_eq, u3_eq, u3_eq, u3_eq, u3_eq, hq, q3, q4]
    simp
  have e6 : ∀ a c, u3 (fFly σ k (nI t) (nI v) (σ 0 0 4)) 6 j hd (-1) 6 a c = if a = j ∧ c = hd then -1 else σ 6 a c := by
    intro a c; simp [fFly, u3_eq]
  have e8 : ∀ a c, a ≠ k → u3 (fFly σ k (nI t) (nI v) (σ 0 0 4)) 6 j hd (-1) 8 a c = σ 8 a c := by
    intro a c ha; simp [fFly, u3_eq, ha]
  have ek : ∀ c, u3 (fFly σ k (nI t) (nI v) (σ 0 0 4)) 6 j hd (-1) 8 k c = if c = 6 then σ 8 k 6 + 1 else if c = 4 then nI b + fAir (σ 8 k 0) (nI v) else if c = 5 then nI v else if c = 3 then -1 else if c = 2 then nI t else if c = 1 then 2 else σ 8 k c := by
    intro c; simp [fFly, u3_eq, d1]
  have er : ∀ a x c, a ≠ 6 → a ≠ 8 → u3 (fFly σ k (nI t) (nI v) (σ 0 0 4)) 6 j hd (-1) a x c = σ a x c := by
    intro a x c n6 n8; simp [fFly, u3_eq, n6, n8]
  rw [s4, s5]
  refine ⟨(er _ _ _ (by decide) (by decide)).trans d1, ?_, ?_, ?_, ?_, ?_, ?_, ?_⟩
  · rw [g0]; simpa using d2
  · intro a h ha hh2
    rw [g0, e6]
    by_cases z : a = j ∧ h = hd
    · obtain ⟨rfl, rfl⟩ := z
      exact ⟨by simp, Or.inl (by simp)⟩
    · have z2 : ¬ 2 * a + h = 2 * j + hd := by omega
      rw [if_neg z]
      refine ⟨by simpa [z2] using (dH a h ha hh2).1, ?_⟩
      rcases (dH a h ha hh2).2 with y | ⟨k2, y1, y2, y3, y4, y5⟩
      · exact Or.inl y
      · have hne : k2 ≠ k := fun w => by
          subst w
          rw [hown.2.1] at y4
          rw [hown.2.2] at y5
          exact z ⟨(nI_inj (by omega) (by omega) y4).symm, (nI_inj (by omega) (by omega) y5).symm⟩
        exact Or.inr ⟨k2, y1, y2, by rw [e8 _ _ hne]; exact y3, by rw [e8 _ _ hne]; exact y4, by rw [e8 _ _ hne]; exact y5⟩
  · intro k2 hk2
    by_cases z : k2 = k
    · subst z
      refine ⟨by rw [g0, ek]; simp, by rw [g0, ek]; simpa using (dT k2 hk2).2.1, by rw [g0, ek]; simpa using (dT k2 hk2).2.2.1, Or.inr (Or.inr ⟨by rw [ek]; simp, t, tj, by rw [ek]; simp, by rw [ek]; simp, by rw [g0]; simp, by rw [g0, ek]; simp, by rw [g0, ek]; simp⟩)⟩
    · rw [e8 _ _ z, e8 _ _ z, e8 _ _ z]
      refine ⟨by rw [g0]; simpa [z] using (dT k2 hk2).1, by rw [g0]; simpa [z] using (dT k2 hk2).2.1, by rw [g0]; simpa using (dT k2 hk2).2.2.1, cA_of (dT k2 hk2).2.2.2 (fun c => e8 _ _ z) (fun a h ha hh2 y => ?_) (by rw [g0]; simp [z]) (by rw [g0]; simp [z]) (by rw [g0]; simp [z])⟩
      rw [e6]
      by_cases z2 : a = j ∧ h = hd
      · obtain ⟨rfl, rfl⟩ := z2
        rw [h6] at y
        exact absurd (nI_inj (by omega) (by omega) y.symm) z
      · rw [if_neg z2]; exact y
  · intro a ha
    rw [g0, g0, er _ _ _ (by decide) (by decide), er _ _ _ (by decide) (by decide)]
    simpa using dJ a ha
  · intro a ha ha4
    rw [g0, g0]
    simpa using dZ.1 a ha ha4
  · intro h hh1 hh8
    rw [g0]
    have : h ≠ 2 * j + hd := by omega
    simpa [this] using dZ.2.1 h hh1 hh8
  · intro k2 hk1 hk2
    rw [g0, g0, g0]
    have : k2 ≠ k := by omega
    simpa [this] using dZ.2.2 k2 hk1 hk2
theorem Dy_throw (S : St σ q jc tc ln) (D : Dy σ τ jc tc b) {j : Nat} (hj : j < jc) : Dy (fThrow σ j (b % ln j) (b % 2)) (gThrow τ q j b (ln j)) jc tc b ∧ sI (gThrow τ q j b (ln j) 9 0) 12 = sI (τ 9 0) 12 := by
  have h4 := S.1.1
  have h12 := S.1.2.1
  have hh : b % 2 < 2 := Nat.mod_lt b (by decide)
  have hp : b % ln j < ln j := Nat.mod_lt b (S.1.2.2.2.2 j hj).1
  obtain ⟨v, t, v9, tj, s4, q3, s5, q4⟩ := (S.2.2.2.1 j hj).2.2 _ hp
  obtain ⟨e1, e2⟩ := D.2.2.1 j (b % 2) hj hh
  unfold fThrow gThrow
  rcases e2 with w | ⟨k, y1, y2, y3, y4, y5⟩
  · rw [e1, w, if_pos (Or.inl (by decide))]
    have : fHasT σ (-1) = 0 := by
      unfold fHasT
      exact if_neg (fun z => z.1 (by decide))
    rw [if_pos this]
    exact ⟨D, rfl⟩
  · have f0 : ¬ fHasT σ (nI k) = 0 := by rw [hasT_1 S.1.2.2.2.1 y1 h12]; decide
    have g0 : ¬ nI k + 1 = 0 := by rw [← nI_succ]; exact nI_ne0 (by omega) (by omega)
    rw [e1, y2, if_neg f0, q3, s4]
    by_cases z : v = 0
    · subst z
      rw [if_pos (by decide), if_pos (Or.inr (by decide))]
      exact ⟨D, rfl⟩
    · rw [if_neg (nI_nle (by omega) (by omega)), if_neg (fun u => u.elim g0 (nI_ne0 (by omega) (by omega)))]
      have e3 : nI k + 1 - 1 = nI k := by rw [← nI_succ]; exact nI_pred k
      rw [e3, nI_clamp (show k < 2 ^ 31 by omega)]
      have := Dy_fly S D hj hp hh y1 y2
      rw [s4] at this
      refine ⟨this, sI_eq (fun a ha => ?_)⟩
      simp [gFly, u3_eq]
theorem St_th {n b0 : Nat} (S : St σ q jc tc ln) : St (thL b0 ln σ n) q jc tc ln := St_of S (fun a b c z => by
  by_cases y : a = 8
  · induction n with
    | zero => rfl
    | succ n ih =>
      refine Eq.trans ?_ ih
      show fThrow (thL b0 ln σ n) n (b0 % ln n) (b0 % 2) a b c = thL b0 ln σ n a b c
      unfold fThrow
      split
      · rfl
      · split
        · rfl
        · unfold fFly
          rw [u3_ne (by omega), u3_ne (by omega), u3_ne (by omega), u3_ne (by omega), u3_ne (by omega), u3_ne (by omega), u3_ne (by omega)]
  · exact thL_k (by omega) (by omega) n)
theorem Dy_th (S : St σ q jc tc ln) (D : Dy σ τ jc tc b) : ∀ n, n ≤ jc → Dy (thL b ln σ n) (gtL q b ln τ n) jc tc b ∧ sI (gtL q b ln τ n 9 0) 12 = sI (τ 9 0) 12
  | 0, _ => ⟨D, rfl⟩
  | n + 1, h => by
    obtain ⟨h1, h2⟩ := Dy_th S D n (by omega)
    obtain ⟨h3, h4⟩ := Dy_throw (St_th S) h1 (show n < jc by omega)
    exact ⟨h3, h4.trans h2⟩
theorem Dy_b {b' : Nat} (D : Dy σ τ jc tc b) : Dy (u3 σ 0 0 4 (nI b')) (u3 τ 0 0 0 (nI b')) jc tc b' := by
  obtain ⟨d1, d2, dH, dT, dJ, dZ⟩ := D
  refine ⟨u3_at _ _ _ _ _, u3_at _ _ _ _ _, ?_, ?_, ?_, ?_⟩
  · intro i h hi hh
    simpa [u3_eq] using dH i h hi hh
  · intro k hk
    simpa [u3_eq, cA] using dT k hk
  · intro i hi
    simpa [u3_eq] using dJ i hi
  · simpa [cZ, u3_eq] using dZ
theorem Cp_beat (C : Cp σ q τ jc tc b ln) : Cp (fBeat σ b jc tc ln) q (gBeat τ q b jc tc ln) jc tc (b + 1) ln ∧ sI (gBeat τ q b jc tc ln 9 0) 12 = sI (τ 9 0) 12 + fBeatR σ b tc := by
  obtain ⟨S, D⟩ := C
  obtain ⟨h1, h2⟩ := Dy_dn S D tc (Nat.le_refl tc)
  obtain ⟨h3, h4⟩ := Dy_th (St_dn S) h1 jc (Nat.le_refl jc)
  refine ⟨⟨?_, Dy_b h3⟩, ?_⟩
  · exact St_of (St_th (b0 := b) (n := jc) (St_dn (hd := b % 2) (n := tc) S)) (fun a x c z => u3_ne (by omega))
  · have : sI (gBeat τ q b jc tc ln 9 0) 12 = sI (gtL q b ln (gdL q b τ tc) jc 9 0) 12 := sI_eq (fun a ha => by unfold gBeat; rw [u3_ne (by omega)])
    rw [this, h4, h2]
    rfl
theorem Cp_play (C : Cp σ q τ jc tc b ln) : ∀ n, Cp (plL b jc tc ln σ n) q (ggL q b jc tc ln τ n) jc tc (b + n) ln ∧ sI (ggL q b jc tc ln τ n 9 0) 12 = sI (τ 9 0) 12 + plR b jc tc ln σ n
  | 0 => ⟨C, (Int32.add_zero _).symm⟩
  | n + 1 => by
    obtain ⟨h1, h2⟩ := Cp_play C n
    obtain ⟨h3, h4⟩ := Cp_beat h1
    refine ⟨h3, h4.trans ?_⟩
    rw [h2, Int32.add_assoc]
    rfl
-- what falls is few
theorem dnR_n : ∀ n, ∃ d, d ≤ n ∧ dnR hd σ n = nI d
  | 0 => ⟨0, Nat.le_refl 0, rfl⟩
  | n + 1 => by
    obtain ⟨d, h1, h2⟩ := dnR_n n
    have : fDown1r (dnL hd σ n) n hd = 0 ∨ fDown1r (dnL hd σ n) n hd = 1 := by
      unfold fDown1r
      split
      · exact Or.inl rfl
      · split
        · exact Or.inl rfl
        · split
          · exact Or.inr rfl
          · exact Or.inl rfl
    show ∃ d, d ≤ n + 1 ∧ dnR hd σ n + fDown1r (dnL hd σ n) n hd = nI d
    rcases this with z | z
    · exact ⟨d, by omega, by rw [z, Int32.add_zero]; exact h2⟩
    · exact ⟨d + 1, by omega, by rw [z, h2, nI_1]⟩
theorem plR_n : ∀ n, ∃ d, d ≤ n * tc ∧ plR b jc tc ln σ n = nI d
  | 0 => ⟨0, Nat.zero_le _, rfl⟩
  | n + 1 => by
    obtain ⟨d, h1, h2⟩ := plR_n n
    obtain ⟨d2, h3, h4⟩ := dnR_n (hd := (b + n) % 2) (σ := plL b jc tc ln σ n) tc
    refine ⟨d + d2, by rw [Nat.succ_mul]; omega, ?_⟩
    show plR b jc tc ln σ n + dnR ((b + n) % 2) (plL b jc tc ln σ n) tc = _
    rw [h2, h4, nI_add]
end CPM
