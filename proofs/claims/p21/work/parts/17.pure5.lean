/-! ===== lemmas of rings ===== -/
section PU
variable {σ σ' ρ : Sg} {jc tc b k i hd : Nat} {ln : Nat → Nat}
theorem nI_m1 {k : Nat} (h : k < 2 ^ 31) : ¬ nI k = -1 := fun z => nI_pos h (by rw [z]; decide)
theorem nI_inj {a b : Nat} (ha : a < 2 ^ 31) (hb : b < 2 ^ 31) (h : nI a = nI b) : a = b := (nI_eq ha hb).mp h
theorem sI_eq {f g : Nat → Int32} : ∀ {n : Nat}, (∀ j, j < n → f j = g j) → sI f n = sI g n
  | 0, _ => rfl
  | n + 1, h => by
    show sI f n + f n = sI g n + g n
    rw [sI_eq (fun j hj => h j (by omega)), h n (by omega)]
theorem sI_inc {f g : Nat → Int32} {k : Nat} (hk : f k = g k + 1) (h : ∀ j, j ≠ k → f j = g j) : ∀ {n : Nat}, k < n → sI f n = sI g n + 1
  | 0, z => absurd z (Nat.not_lt_zero k)
  | n + 1, z => by
    show sI f n + f n = sI g n + g n + 1
    by_cases y : n = k
    · subst y
      rw [sI_eq (fun j hj => h j (by omega)), hk, Int32.add_assoc]
    · rw [sI_inc hk h (show k < n by omega), h n y, Int32.add_assoc, Int32.add_assoc, Int32.add_comm 1]
theorem u3_u3 (σ : Sg) (k i j : Nat) (v w : Int32) : u3 (u3 σ k i j v) k i j w = u3 σ k i j w := by
  funext a x c
  rw [u3_eq, u3_eq, u3_eq]
  split <;> rfl
theorem u3_self (σ : Sg) (k i j : Nat) : u3 σ k i j (σ k i j) = σ := by
  funext a x c
  rw [u3_eq]
  split
  · rename_i z
    obtain ⟨rfl, rfl, rfl⟩ := z
    rfl
  · rfl
def Alk (σ σ' : Sg) (jc tc : Nat) (ln : Nat → Nat) : Prop := (∀ c, 2 ≤ c → c ≤ 4 → σ' 0 0 c = σ 0 0 c) ∧ (∀ i, i < jc → (∀ c, 2 ≤ c → c ≤ 4 → σ' 2 i c = σ 2 i c) ∧ σ' 3 i 2 = σ 3 i 2 ∧ (∀ h, h < 2 → σ' 6 i h = σ 6 i h) ∧ ∀ p, p < ln i → σ' 4 i p = σ 4 i p ∧ σ' 5 i p = σ 5 i p) ∧ ∀ k, k < tc → ∀ c, c < 8 → σ' 8 k c = σ 8 k c
theorem fCopyT_8 {m a c : Nat} (h : c < 8) : fCopyT σ ρ m 8 a c = if a = m then ρ 8 m c else σ 8 a c := by
  unfold fCopyT
  simp only [u3_eq]
  have : c = 0 ∨ c = 1 ∨ c = 2 ∨ c = 3 ∨ c = 4 ∨ c = 5 ∨ c = 6 ∨ c = 7 := by omega
  rcases this with rfl | rfl | rfl | rfl | rfl | rfl | rfl | rfl <;> simp
theorem cpTL_8 {c : Nat} (h : c < 8) : ∀ n, k < n → cpTL ρ σ n 8 k c = ρ 8 k c
  | 0, z => absurd z (Nat.not_lt_zero k)
  | n + 1, z => by
    show fCopyT (cpTL ρ σ n) ρ n 8 k c = ρ 8 k c
    rw [fCopyT_8 h]
    by_cases y : k = n
    · rw [if_pos y, y]
    · rw [if_neg y]
      exact cpTL_8 h n (by omega)
theorem cpPL_at {a : Nat} (h : a = 4 ∨ a = 5) {p : Nat} : ∀ n, p < n → cpPL i ρ σ n a i p = ρ a i p
  | 0, z => absurd z (Nat.not_lt_zero p)
  | n + 1, z => by
    show u3 (u3 (cpPL i ρ σ n) 4 i n (ρ 4 i n)) 5 i n (ρ 5 i n) a i p = ρ a i p
    by_cases y : p = n
    · subst y
      rcases h with rfl | rfl
      · rw [u3_ne (by omega), u3_at]
      · rw [u3_at]
    · rw [u3_ne (by omega), u3_ne (by omega)]
      exact cpPL_at h n (by omega)
theorem cpPL_i {a x c : Nat} (h : x ≠ i) : ∀ n, cpPL i ρ σ n a x c = σ a x c
  | 0 => rfl
  | n + 1 => by
    show u3 (u3 (cpPL i ρ σ n) 4 i n (ρ 4 i n)) 5 i n (ρ 5 i n) a x c = σ a x c
    rw [u3_ne (by omega), u3_ne (by omega)]
    exact cpPL_i h n
theorem fCopyJ_i {n a x c : Nat} (h : x ≠ i) : fCopyJ σ ρ i n a x c = σ a x c := by
  unfold fCopyJ fCopyP
  rw [u3_ne (by omega), u3_ne (by omega), u3_ne (by omega), u3_ne (by omega), u3_ne (by omega), cpPL_i h, u3_ne (by omega)]
theorem fCopyJ_at {n a c : Nat} (h : (a = 2 ∧ 2 ≤ c ∧ c ≤ 4) ∨ (a = 3 ∧ c = 2) ∨ (a = 6 ∧ c < 2) ∨ ((a = 4 ∨ a = 5) ∧ c < n)) : fCopyJ σ ρ i n a i c = ρ a i c := by
  unfold fCopyJ fCopyP
  rcases h with ⟨rfl, h1, h2⟩ | ⟨rfl, rfl⟩ | ⟨rfl, h1⟩ | ⟨h1, h2⟩
  · have : c = 2 ∨ c = 3 ∨ c = 4 := by omega
    rcases this with rfl | rfl | rfl <;> simp [u3_eq]
  · rw [u3_ne (by omega), u3_ne (by omega), u3_ne (by omega), u3_ne (by omega), u3_ne (by omega), cpPL_k (by omega) (by omega), u3_at]
  · have : c = 0 ∨ c = 1 := by omega
    rcases this with rfl | rfl <;> simp [u3_eq]
  · rw [u3_ne (by omega), u3_ne (by omega), u3_ne (by omega), u3_ne (by omega), u3_ne (by omega)]
    exact cpPL_at h1 n h2
theorem cpJL_at {a c : Nat} (h : (a = 2 ∧ 2 ≤ c ∧ c ≤ 4) ∨ (a = 3 ∧ c = 2) ∨ (a = 6 ∧ c < 2) ∨ ((a = 4 ∨ a = 5) ∧ c < ln i)) : ∀ n, i < n → cpJL ρ ln σ n a i c = ρ a i c
  | 0, z => absurd z (Nat.not_lt_zero i)
  | n + 1, z => by
    show fCopyJ (cpJL ρ ln σ n) ρ n (ln n) a i c = ρ a i c
    by_cases y : i = n
    · subst y
      exact fCopyJ_at h
    · rw [fCopyJ_i y]
      exact cpJL_at h n (by omega)
theorem Alk_copy : Alk ρ (fCopyR σ ρ jc tc ln) jc tc ln := by
  refine ⟨fun c h1 h2 => fCopyR_0 (by omega), fun i hi => ⟨fun c h1 h2 => ?_, ?_, fun h hh => ?_, fun p hp => ⟨?_, ?_⟩⟩, fun k hk c hc => cpTL_8 hc tc hk⟩
  all_goals
    unfold fCopyR
    rw [cpTL_k (by decide), cpJL_at (by omega) jc hi]
theorem cI_eq {f g : Nat → Bool} : ∀ {n : Nat}, (∀ j, j < n → f j = g j) → cI f n = cI g n
  | 0, _ => rfl
  | n + 1, h => by
    show (if f n = true then cI f n + 1 else cI f n) = if g n = true then cI g n + 1 else cI g n
    rw [cI_eq (fun j hj => h j (by omega)), h n (by omega)]
theorem dnR_n : ∀ n, ∃ d, d ≤ n ∧ dnR hd σ n = nI d
  | 0 => ⟨0, Nat.le_refl 0, rfl⟩
  | n + 1 => by
    obtain ⟨d, h1, h2⟩ := dnR_n n
    have : fDown1r (dnL hd σ n) n hd = 0 ∨ fDown1r (dnL hd σ n) n hd = 1 := by
      unfold fDown1r
      split
      · exact Or.inl rfl
      · split
        · exact Or.inl rfl
        · split
          · exact Or.inr rfl
          · exact Or.inl rfl
    show ∃ d, d ≤ n + 1 ∧ dnR hd σ n + fDown1r (dnL hd σ n) n hd = nI d
    rcases this with z | z
    · exact ⟨d, by omega, by rw [z, Int32.add_zero]; exact h2⟩
    · exact ⟨d + 1, by omega, by rw [z, h2, nI_1]⟩
theorem plR_n : ∀ n, ∃ d, d ≤ n * tc ∧ plR b jc tc ln σ n = nI d
  | 0 => ⟨0, Nat.zero_le _, rfl⟩
  | n + 1 => by
    obtain ⟨d, h1, h2⟩ := plR_n n
    obtain ⟨d2, h3, h4⟩ := dnR_n (hd := (b + n) % 2) (σ := plL b jc tc ln σ n) tc
    refine ⟨d + d2, by rw [Nat.succ_mul]; omega, ?_⟩
    show plR b jc tc ln σ n + dnR ((b + n) % 2) (plL b jc tc ln σ n) tc = _
    rw [h2, h4, nI_add]
theorem sI_zero {f : Nat → Int32} {n : Nat} : ∀ m, (∀ j, n ≤ j → j < n + m → f j = 0) → sI f (n + m) = sI f n
  | 0, _ => rfl
  | m + 1, h => by
    show sI f (n + m) + f (n + m) = sI f n
    rw [h (n + m) (by omega) (by omega), Int32.add_zero]
    exact sI_zero m (fun j h1 h2 => h j h1 (by omega))
theorem sI_cut {f g : Nat → Int32} {n m : Nat} (hn : n ≤ m) (h0 : ∀ j, n ≤ j → j < m → f j = 0) (h : ∀ j, j < n → f j = g j) : sI f m = sI g n := by
  obtain ⟨d, rfl⟩ : ∃ d, m = n + d := ⟨m - n, by omega⟩
  rw [sI_zero d h0, sI_eq h]
end PU
