/-! ===== what both sides tell ===== -/
section CPN
variable {σ σ' τ τ' ρ q : Sg} {jc tc b k i : Nat} {ln : Nat → Nat}
theorem u3_u3 (σ : Sg) (k i j : Nat) (v w : Int32) : u3 (u3 σ k i j v) k i j w = u3 σ k i j w := by
  funext a x c
  rw [u3_eq, u3_eq, u3_eq]
  split <;> rfl
theorem u3_self (σ : Sg) (k i j : Nat) : u3 σ k i j (σ k i j) = σ := by
  funext a x c
  rw [u3_eq]
  split
  · rename_i z
    obtain ⟨rfl, rfl, rfl⟩ := z
    rfl
  · rfl
-- only these numbers count
def Alk (σ σ' : Sg) (jc tc : Nat) (ln : Nat → Nat) : Prop := (∀ c, 2 ≤ c → c ≤ 4 → σ' 0 0 c = σ 0 0 c) ∧ (∀ i, i < jc → (∀ c, 2 ≤ c → c ≤ 4 → σ' 2 i c = σ 2 i c) ∧ σ' 3 i 2 = σ 3 i 2 ∧ (∀ h, h < 2 → σ' 6 i h = σ 6 i h) ∧ ∀ p, p < ln i → σ' 4 i p = σ 4 i p ∧ σ' 5 i p = σ 5 i p) ∧ ∀ k, k < tc → ∀ c, c < 8 → σ' 8 k c = σ 8 k c
theorem St_alk (S : St σ q jc tc ln) (A : Alk σ σ' jc tc ln) : St σ' q jc tc ln := by
  obtain ⟨a0, aj, at'⟩ := A
  refine ⟨⟨S.1.1, S.1.2.1, (a0 2 (by omega) (by omega)).trans S.1.2.2.1, (a0 3 (by omega) (by omega)).trans S.1.2.2.2.1, fun i hi => ⟨(S.1.2.2.2.2 i hi).1, (S.1.2.2.2.2 i hi).2.1, ((aj i hi).2.1).trans (S.1.2.2.2.2 i hi).2.2⟩⟩, S.2.1, S.2.2.1, fun i hi => ?_, fun k hk => (S.2.2.2.2 k hk).trans (at' k hk 0 (by omega)).symm⟩
  refine ⟨(S.2.2.2.1 i hi).1.trans ((aj i hi).1 2 (by omega) (by omega)).symm, (S.2.2.2.1 i hi).2.1, fun p hp => ?_⟩
  rw [((aj i hi).2.2.2 p hp).1, ((aj i hi).2.2.2 p hp).2]
  exact (S.2.2.2.1 i hi).2.2 p hp
theorem Cp_alk (C : Cp σ q τ jc tc b ln) (A : Alk σ σ' jc tc ln) : Cp σ' q τ jc tc b ln := by
  refine ⟨St_alk C.1 A, ?_⟩
  obtain ⟨S, d1, d2, dH, dT, dJ, dZ⟩ := C
  obtain ⟨a0, aj, at'⟩ := A
  refine ⟨(a0 4 (by omega) (by omega)).trans d1, d2, fun i h hi hh => ?_, fun k hk => ?_, fun i hi => ?_, dZ⟩
  · rw [(aj i hi).2.2.1 h hh]
    refine ⟨(dH i h hi hh).1, ?_⟩
    rcases (dH i h hi hh).2 with y | ⟨k, y1, y2, y3, y4, y5⟩
    · exact Or.inl y
    · exact Or.inr ⟨k, y1, y2, (at' k y1 1 (by omega)).trans y3, (at' k y1 2 (by omega)).trans y4, (at' k y1 3 (by omega)).trans y5⟩
  · rw [at' k hk 1 (by omega), at' k hk 6 (by omega), at' k hk 7 (by omega)]
    refine ⟨(dT k hk).1, (dT k hk).2.1, (dT k hk).2.2.1, ?_⟩
    unfold cA
    rw [at' k hk 1 (by omega), at' k hk 2 (by omega), at' k hk 3 (by omega), at' k hk 4 (by omega), at' k hk 5 (by omega)]
    rcases (dT k hk).2.2.2 with z | ⟨z, i, h, h1, h2, h3, h4, h5⟩ | z
    · exact Or.inl z
    · exact Or.inr (Or.inl ⟨z, i, h, h1, h2, h3, h4, ((aj i h1).2.2.1 h h2).trans h5⟩)
    · exact Or.inr (Or.inr z)
  · rw [(aj i hi).1 3 (by omega) (by omega), (aj i hi).1 4 (by omega) (by omega)]
    exact dJ i hi
-- copies
theorem fCopyT_8 {m a c : Nat} (h : c < 8) : fCopyT σ ρ m 8 a c = if a = m then ρ 8 m c else σ 8 a c := by
  unfold fCopyT
  simp only [u3_eq]
  have : c = 0 ∨ c = 1 ∨ c = 2 ∨ c = 3 ∨ c = 4 ∨ c = 5 ∨ c = 6 ∨ c = 7 := by omega
  rcases this with rfl | rfl | rfl | rfl | rfl | rfl | rfl | rfl <;> simp
theorem cpTL_8 {c : Nat} (h : c < 8) : ∀ n, k < n → cpTL ρ σ n 8 k c = ρ 8 k c
  | 0, z => absurd z (Nat.not_lt_zero k)
  | n + 1, z => by
    show fCopyT (cpTL ρ σ n) ρ n 8 k c = ρ 8 k c
    rw [fCopyT_8 h]
    by_cases y : k = n
    · rw [if_pos y, y]
    · rw [if_neg y]
      exact cpTL_8 h n (by omega)
theorem cpPL_at {a : Nat} (h : a = 4 ∨ a = 5) {p : Nat} : ∀ n, p < n → cpPL i ρ σ n a i p = ρ a i p
  | 0, z => absurd z (Nat.not_lt_zero p)
  | n + 1, z => by
    show u3 (u3 (cpPL i ρ σ n) 4 i n (ρ 4 i n)) 5 i n (ρ 5 i n) a i p = ρ a i p
    by_cases y : p = n
    · subst y
      rcases h with rfl | rfl
      · rw [u3_ne (by omega), u3_at]
      · rw [u3_at]
    · rw [u3_ne (by omega), u3_ne (by omega)]
      exact cpPL_at h n (by omega)
theorem cpPL_i {a x c : Nat} (h : x ≠ i) : ∀ n, cpPL i ρ σ n a x c = σ a x c
  | 0 => rfl
  | n + 1 => by
    show u3 (u3 (cpPL i ρ σ n) 4 i n (ρ 4 i n)) 5 i n (ρ 5 i n) a x c = σ a x c
    rw [u3_ne (by omega), u3_ne (by omega)]
    exact cpPL_i h n
theorem fCopyJ_i {n a x c : Nat} (h : x ≠ i) : fCopyJ σ ρ i n a x c = σ a x c := by
  unfold fCopyJ fCopyP
  rw [u3_ne (by omega), u3_ne (by omega), u3_ne (by omega), u3_ne (by omega), u3_ne (by omega), cpPL_i h, u3_ne (by omega)]
theorem fCopyJ_at {n a c : Nat} (h : (a = 2 ∧ 2 ≤ c ∧ c ≤ 4) ∨ (a = 3 ∧ c = 2) ∨ (a = 6 ∧ c < 2) ∨ ((a = 4 ∨ a = 5) ∧ c < n)) : fCopyJ σ ρ i n a i c = ρ a i c := by
  unfold fCopyJ fCopyP
  rcases h with ⟨rfl, h1, h2⟩ | ⟨rfl, rfl⟩ | ⟨rfl, h1⟩ | ⟨h1, h2⟩
  · have : c = 2 ∨ c = 3 ∨ c = 4 := by omega
    rcases this with rfl | rfl | rfl <;> simp [u3_eq]
  · rw [u3_ne (by omega), u3_ne (by omega), u3_ne (by omega), u3_ne (by omega), u3_ne (by omega), cpPL_k (by omega) (by omega), u3_at]
  · have : c = 0 ∨ c = 1 := by omega
    rcases this with rfl | rfl <;> simp [u3_eq]
  · rw [u3_ne (by omega), u3_ne (by omega), u3_ne (by omega), u3_ne (by omega), u3_ne (by omega)]
    exact cpPL_at h1 n h2
theorem cpJL_at {a c : Nat} (h : (a = 2 ∧ 2 ≤ c ∧ c ≤ 4) ∨ (a = 3 ∧ c = 2) ∨ (a = 6 ∧ c < 2) ∨ ((a = 4 ∨ a = 5) ∧ c < ln i)) : ∀ n, i < n → cpJL ρ ln σ n a i c = ρ a i c
  | 0, z => absurd z (Nat.not_lt_zero i)
  | n + 1, z => by
    show fCopyJ (cpJL ρ ln σ n) ρ n (ln n) a i c = ρ a i c
    by_cases y : i = n
    · subst y
      exact fCopyJ_at h
    · rw [fCopyJ_i y]
      exact cpJL_at h n (by omega)
theorem Alk_copy : Alk ρ (fCopyR σ ρ jc tc ln) jc tc ln := by
  refine ⟨fun c h1 h2 => fCopyR_0 (by omega), fun i hi => ⟨fun c h1 h2 => ?_, ?_, fun h hh => ?_, fun p hp => ⟨?_, ?_⟩⟩, fun k hk c hc => cpTL_8 hc tc hk⟩
  all_goals
    unfold fCopyR
    rw [cpTL_k (by decide), cpJL_at (by omega) jc hi]
theorem Cp_copy (C : Cp σ q τ jc tc b ln) : Cp (fCopyR ρ σ jc tc ln) q τ jc tc b ln := Cp_alk C Alk_copy
-- the static part's own slot does not count
theorem Cp_q (C : Cp σ q τ jc tc b ln) (v : Int32) : Cp σ (u3 q 0 0 0 v) τ jc tc b ln := by
  refine ⟨⟨C.1.1, by rw [u3_ne (by omega)]; exact C.1.2.1, by rw [u3_ne (by omega)]; exact C.1.2.2.1, fun i hi => ?_, fun k hk => by rw [u3_ne (by omega)]; exact C.1.2.2.2.2 k hk⟩, C.2⟩
  rw [u3_ne (by omega), u3_ne (by omega)]
  refine ⟨(C.1.2.2.2.1 i hi).1, (C.1.2.2.2.1 i hi).2.1, fun p hp => ?_⟩
  rw [u3_ne (by omega), u3_ne (by omega)]
  exact (C.1.2.2.2.1 i hi).2.2 p hp
-- another state alike
theorem Dy_tau (D : Dy σ τ jc tc b) (h4 : jc ≤ 4) (h12 : tc ≤ 12) (h0 : τ' 0 0 0 = τ 0 0 0) (h1 : ∀ j, j < 4 → τ' 1 0 j = τ 1 0 j ∧ τ' 2 0 j = τ 2 0 j) (h3 : ∀ j, j < 8 → τ' 3 0 j = τ 3 0 j) (hk : ∀ a j, 4 ≤ a → a ≤ 9 → j < 12 → τ' a 0 j = τ a 0 j) : Dy σ τ' jc tc b := by
  obtain ⟨d1, d2, dH, dT, dJ, dZ⟩ := D
  refine ⟨d1, h0.trans d2, fun i h hi hh => ?_, fun k hk2 => ?_, fun i hi => ?_, fun i h5 h6 => ?_, fun h h5 h6 => ?_, fun k h5 h6 => ?_⟩
  · rw [h3 _ (by omega)]; exact dH i h hi hh
  · rw [hk 4 k (by omega) (by omega) (by omega), hk 8 k (by omega) (by omega) (by omega), hk 9 k (by omega) (by omega) (by omega)]
    exact ⟨(dT k hk2).1, (dT k hk2).2.1, (dT k hk2).2.2.1, cA_of (dT k hk2).2.2.2 (fun _ => rfl) (fun _ _ _ _ z => z) (hk 5 k (by omega) (by omega) (by omega)) (hk 6 k (by omega) (by omega) (by omega)) (hk 7 k (by omega) (by omega) (by omega))⟩
  · rw [(h1 i (by omega)).1, (h1 i (by omega)).2]; exact dJ i hi
  · rw [(h1 i h6).1, (h1 i h6).2]; exact dZ.1 i h5 h6
  · rw [h3 h h6]; exact dZ.2.1 h h5 h6
  · rw [hk 4 k (by omega) (by omega) h6, hk 8 k (by omega) (by omega) h6, hk 9 k (by omega) (by omega) h6]; exact dZ.2.2 k h5 h6
theorem cpy_in {f g : Nat → Int32} {n j : Nat} (h : j < n) : va_cpy f g 0 0 n j = f j := by
  rw [pk_cpy_in (Nat.zero_le j) (by omega)]
  rw [Nat.zero_add, Nat.sub_zero]
theorem uS_eq (σ : Sg) (k i : Nat) (f : Nat → Int32) (a x c : Nat) : uS σ k i f a x c = if a = k ∧ x = i then f c else σ a x c := by
  unfold uS
  split <;> rfl
theorem bec_0 : gBec ρ τ 0 0 0 = τ 0 0 0 := by
  unfold gBec
  simp only [uS_eq]
  simp [u3_eq]
theorem bec_j {j a : Nat} (h : (a = 1 ∨ a = 2) ∧ j < 4 ∨ a = 3 ∧ j < 8 ∨ 4 ≤ a ∧ a ≤ 9 ∧ j < 12) : gBec ρ τ a 0 j = τ a 0 j := by
  unfold gBec
  simp only [uS_eq]
  have : (a = 1 ∧ j < 4) ∨ (a = 2 ∧ j < 4) ∨ (a = 3 ∧ j < 8) ∨ (a = 4 ∧ j < 12) ∨ (a = 5 ∧ j < 12) ∨ (a = 6 ∧ j < 12) ∨ (a = 7 ∧ j < 12) ∨ (a = 8 ∧ j < 12) ∨ (a = 9 ∧ j < 12) := by omega
  rcases this with ⟨rfl, y⟩ | ⟨rfl, y⟩ | ⟨rfl, y⟩ | ⟨rfl, y⟩ | ⟨rfl, y⟩ | ⟨rfl, y⟩ | ⟨rfl, y⟩ | ⟨rfl, y⟩ | ⟨rfl, y⟩ <;> simp [cpy_in y]
theorem Cp_bec (C : Cp σ q τ jc tc b ln) : Cp σ q (gBec ρ τ) jc tc b ln := ⟨C.1, Dy_tau C.2 C.1.1.1 C.1.1.2.1 bec_0 (fun j hj => ⟨bec_j (by omega), bec_j (by omega)⟩) (fun j hj => bec_j (by omega)) (fun a j h1 h2 h3 => bec_j (by omega))⟩
theorem bec_sum : sI (gBec ρ τ 9 0) 12 = sI (τ 9 0) 12 := sI_eq (fun j hj => bec_j (by omega))
-- sums
theorem sI_zero {f : Nat → Int32} {n : Nat} : ∀ m, (∀ j, n ≤ j → j < n + m → f j = 0) → sI f (n + m) = sI f n
  | 0, _ => rfl
  | m + 1, h => by
    show sI f (n + m) + f (n + m) = sI f n
    rw [h (n + m) (by omega) (by omega), Int32.add_zero]
    exact sI_zero m (fun j h1 h2 => h j h1 (by omega))
theorem sI_cut {f g : Nat → Int32} {n m : Nat} (hn : n ≤ m) (h0 : ∀ j, n ≤ j → j < m → f j = 0) (h : ∀ j, j < n → f j = g j) : sI f m = sI g n := by
  obtain ⟨d, rfl⟩ : ∃ d, m = n + d := ⟨m - n, by omega⟩
  rw [sI_zero d h0, sI_eq h]
theorem cI_eq {f g : Nat → Bool} : ∀ {n : Nat}, (∀ j, j < n → f j = g j) → cI f n = cI g n
  | 0, _ => rfl
  | n + 1, h => by
    show (if f n = true then cI f n + 1 else cI f n) = if g n = true then cI g n + 1 else cI g n
    rw [cI_eq (fun j hj => h j (by omega)), h n (by omega)]
theorem sum_t (C : Cp σ q τ jc tc b ln) : sI (τ 8 0) 12 = sI (fun k => σ 8 k 6) tc := sI_cut C.1.1.2.1 (fun j h1 h2 => (C.2.2.2.2.2.2.2.2 j h1 h2).2.1) (fun j hj => (C.2.2.2.2.1 j hj).2.1)
theorem sum_f (C : Cp σ q τ jc tc b ln) : sI (τ 9 0) 12 = sI (fun k => σ 8 k 7) tc := sI_cut C.1.1.2.1 (fun j h1 h2 => (C.2.2.2.2.2.2.2.2 j h1 h2).2.2) (fun j hj => (C.2.2.2.2.1 j hj).2.2.1)
theorem sum_b (C : Cp σ q τ jc tc b ln) : sI (τ 1 0) 4 = sI (fun k => σ 2 k 3) jc := sI_cut C.1.1.1 (fun j h1 h2 => (C.2.2.2.2.2.2.1 j h1 h2).1) (fun j hj => (C.2.2.2.2.2.1 j hj).1)
theorem are_e (C : Cp σ q τ jc tc b ln) (x : Int32) : cI (fun k => decide (τ 4 0 k = x)) tc = fIn σ tc x := cI_eq (fun j hj => by rw [(C.2.2.2.2.1 j hj).1])
theorem flies_e (C : Cp σ q τ jc tc b ln) {j : Nat} : cI (fun k => decide (τ 4 0 k = 2) && decide (τ 5 0 k = nI j)) tc = fFlies σ tc (nI j) := cI_eq (fun k hk => by
  rw [(C.2.2.2.2.1 k hk).1]
  rcases (C.2.2.2.2.1 k hk).2.2.2 with z | z | ⟨z, i, hi, w2, w3, w5, w6, w7⟩
  · rcases z.1 with y | y <;> rw [y] <;> rfl
  · rw [z.1]; rfl
  · rw [z, w5, w2])
-- the hands of a thing
theorem hand_no (C : Cp σ q τ jc tc b ln) (hk : k < tc) (h1 : ¬ σ 8 k 1 = 1) : ∀ h, h < 8 → ¬ τ 3 0 h = nI k + 1 := by
  intro h hh z
  have h4 := C.1.1.1
  have h12 := C.1.1.2.1
  by_cases y : h < 2 * jc
  · obtain ⟨e1, e2⟩ := C.2.2.2.1 (h / 2) (h % 2) (by omega) (by omega)
    rw [show 2 * (h / 2) + h % 2 = h by omega, z] at e1
    rcases e2 with w | ⟨k2, w1, w2, w3, -⟩
    · rw [w, ← nI_succ] at e1
      exact absurd e1 (nI_ne0 (by omega) (by omega))
    · rw [w2, ← nI_succ, ← nI_succ] at e1
      have := nI_inj (show k + 1 < 2 ^ 31 by omega) (show k2 + 1 < 2 ^ 31 by omega) e1
      obtain rfl : k2 = k := by omega
      exact h1 w3
  · rw [C.2.2.2.2.2.2.2.1 h (by omega) hh, ← nI_succ] at z
    exact absurd z.symm (nI_ne0 (by omega) (by omega))
theorem hand_at (C : Cp σ q τ jc tc b ln) (hk : k < tc) (h1 : σ 8 k 1 = 1) : ∃ i h, i < jc ∧ h < 2 ∧ σ 8 k 2 = nI i ∧ σ 8 k 3 = nI h ∧ τ 3 0 (2 * i + h) = nI k + 1 ∧ ∀ a, a < 2 * i + h → ¬ τ 3 0 a = nI k + 1 := by
  have h4 := C.1.1.1
  have h12 := C.1.1.2.1
  rcases (C.2.2.2.2.1 k hk).2.2.2 with z | ⟨-, i, h, hi, hh, w2, w3, w6⟩ | z
  · rcases z.1 with y | y <;> rw [y] at h1 <;> exact absurd h1 (by decide)
  · refine ⟨i, h, hi, hh, w2, w3, by rw [(C.2.2.2.1 i h hi hh).1, w6], fun a ha z => ?_⟩
    obtain ⟨e1, e2⟩ := C.2.2.2.1 (a / 2) (a % 2) (by omega) (by omega)
    rw [show 2 * (a / 2) + a % 2 = a by omega, z] at e1
    rcases e2 with w | ⟨k2, y1, y2, y3, y4, y5⟩
    · rw [w, ← nI_succ] at e1
      exact absurd e1 (nI_ne0 (by omega) (by omega))
    · rw [y2, ← nI_succ, ← nI_succ] at e1
      have := nI_inj (show k + 1 < 2 ^ 31 by omega) (show k2 + 1 < 2 ^ 31 by omega) e1
      obtain rfl : k2 = k := by omega
      rw [w2] at y4
      rw [w3] at y5
      have q1 := nI_inj (by omega) (by omega) y4
      have q2 := nI_inj (by omega) (by omega) y5
      omega
  · rw [z.1] at h1; exact absurd h1 (by decide)
end CPN
