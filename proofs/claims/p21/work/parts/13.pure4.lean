/-! ===== what the class's public methods do ===== -/
theorem fCopyJ_3 {σ ρ : Sg} {i n a : Nat} : fCopyJ σ ρ i n 3 a 2 = if a = i then ρ 3 i 2 else σ 3 a 2 := by
  unfold fCopyJ fCopyP
  rw [u3_ne (by omega), u3_ne (by omega), u3_ne (by omega), u3_ne (by omega), u3_ne (by omega), cpPL_k (by omega) (by omega), u3_eq]
  by_cases h : a = i
  · rw [if_pos h, if_pos ⟨rfl, h, rfl⟩]
  · rw [if_neg h, if_neg (fun z => h z.2.1)]
theorem cpJL_3 {ρ σ : Sg} {ln : Nat → Nat} {i : Nat} : ∀ n, i < n → cpJL ρ ln σ n 3 i 2 = ρ 3 i 2
  | 0, h => absurd h (Nat.not_lt_zero i)
  | n + 1, h => by
    show fCopyJ (cpJL ρ ln σ n) ρ n (ln n) 3 i 2 = ρ 3 i 2
    rw [fCopyJ_3]
    by_cases hi : i = n
    · rw [if_pos hi, hi]
    · rw [if_neg hi]
      exact cpJL_3 n (by omega)
theorem fCopyR_0 {σ ρ : Sg} {jc tc c : Nat} {ln : Nat → Nat} (h : c = 2 ∨ c = 3 ∨ c = 4) : fCopyR σ ρ jc tc ln 0 0 c = ρ 0 0 c := by
  unfold fCopyR
  rw [cpTL_k (by decide), cpJL_k (Or.inl rfl), u3_eq, u3_eq, u3_eq]
  rcases h with rfl | rfl | rfl <;> rfl
theorem Shp_copy {σ ρ : Sg} {jc tc : Nat} {ln : Nat → Nat} (h : Shp ρ jc tc ln) : Shp (fCopyR σ ρ jc tc ln) jc tc ln := ⟨h.1, h.2.1, (fCopyR_0 (Or.inl rfl)).trans h.2.2.1, (fCopyR_0 (Or.inr (Or.inl rfl))).trans h.2.2.2.1, fun i hi => ⟨(h.2.2.2.2 i hi).1, (h.2.2.2.2 i hi).2.1, by
  unfold fCopyR
  rw [cpTL_k (by decide), cpJL_3 jc hi]
  exact (h.2.2.2.2 i hi).2.2⟩⟩
theorem copy_b {σ ρ : Sg} {jc tc b : Nat} {ln : Nat → Nat} (h : ρ 0 0 4 = nI b) : fCopyR σ ρ jc tc ln 0 0 4 = nI b := (fCopyR_0 (Or.inr (Or.inr rfl))).trans h
theorem Shp_u3 {σ : Sg} {jc tc k i j : Nat} {v : Int32} {ln : Nat → Nat} (h : Shp σ jc tc ln) (hk : k ≠ 0) (hk3 : k ≠ 3) : Shp (u3 σ k i j v) jc tc ln := Shp_of h (fun a b c z => u3_ne (by omega))
theorem hasJ_1 {σ : Sg} {jc j : Nat} (hJ : σ 0 0 2 = nI jc) (h : j < jc) (h4 : jc ≤ 4) : fHasJ σ (nI j) = 1 := by
  unfold fHasJ
  rw [hJ, if_pos ⟨nI_pos (by omega), nI_ge h (by omega)⟩]
theorem hasT_1 {σ : Sg} {tc k : Nat} (hT : σ 0 0 3 = nI tc) (h : k < tc) (h4 : tc ≤ 12) : fHasT σ (nI k) = 1 := by
  unfold fHasT
  rw [hT, if_pos ⟨nI_pos (by omega), nI_ge h (by omega)⟩]
def p10L (x : Int32) : Nat → Int32
  | 0 => x
  | n + 1 => p10L x n * 10
/-- the first of 1 to 200 whose number is above 0 -/
def flF (f : Nat → Int32) : Nat → Nat → Int32
  | 0, _ => -1
  | k + 1, q => if f q ≤ 0 then flF f k (q + 1) else nI q
def flN (f : Nat → Int32) : Nat → Nat → Nat
  | 0, q => q - 1
  | k + 1, q => if f q ≤ 0 then flN f k (q + 1) else q
def fFall1 (σ : Sg) (b jc tc : Nat) (ln : Nat → Nat) (q : Nat) : Int32 := fBeatR (plL b jc tc ln σ (q - 1)) (b + (q - 1)) tc
/-- a trial with one height: what falls, and the trial's ring behind it -/
def fWith (σ ρ : Sg) (b jc tc : Nat) (ln : Nat → Nat) (n j p h : Nat) : Sg := u3 (fCopyR ρ σ jc tc ln) 4 j p (nI h)
def adI (σ : Sg) (b jc tc : Nat) (ln : Nat → Nat) (n j p : Nat) : Nat → Nat → Int32 → Int32 → Sg → Int32 × Int32 × Sg
  | 0, _, fw, ad, ρ => (fw, ad, ρ)
  | k + 1, h, fw, ad, ρ => if fw ≤ 0 then (fw, ad, ρ) else if plR b jc tc ln (fWith σ ρ b jc tc ln n j p h) n < fw then adI σ b jc tc ln n j p k (h + 1) (plR b jc tc ln (fWith σ ρ b jc tc ln n j p h) n) (10 * nI p + nI h) (plL b jc tc ln (fWith σ ρ b jc tc ln n j p h) n) else adI σ b jc tc ln n j p k (h + 1) fw ad (plL b jc tc ln (fWith σ ρ b jc tc ln n j p h) n)
def adO (σ : Sg) (b jc tc : Nat) (ln : Nat → Nat) (n j : Nat) : Nat → Nat → Int32 → Int32 → Sg → Int32 × Sg
  | 0, _, _, ad, ρ => (ad, ρ)
  | k + 1, p, fw, ad, ρ => adO σ b jc tc ln n j k (p + 1) (adI σ b jc tc ln n j p 10 0 fw ad ρ).1 (adI σ b jc tc ln n j p 10 0 fw ad ρ).2.1 (adI σ b jc tc ln n j p 10 0 fw ad ρ).2.2
def dgL (f : Nat → Int32) (d : Int64) : Nat → Int64
  | 0 => d
  | n + 1 => dgL f d n * 31 + (f n).toInt64
def dgJ (σ : Sg) (tc : Nat) (ln : Nat → Nat) (d : Int64) : Nat → Int64
  | 0 => d
  | n + 1 => adL σ n (dgL (fTellJ σ tc n) (dgJ σ tc ln d n) 7) (ln n)
def dgT (σ : Sg) (d : Int64) : Nat → Int64
  | 0 => d
  | n + 1 => dgL (fTellT σ n) (dgT σ d n) 7
def fDigest (σ : Sg) (jc tc : Nat) (ln : Nat → Nat) : Int64 := dgT σ (dgJ σ tc ln (dgL (fTellC σ tc) 953 9) jc) tc
theorem exS_a : ∀ w, w ∈ vx_atS RX4 23 "java/lang/IllegalArgumentException" exN → w ∈ exL := fun _ h => List.mem_append_left _ h
theorem exS_s : ∀ w, w ∈ vx_atS RX4 34 "java/lang/IllegalStateException" exN → w ∈ exL := fun _ h => List.mem_append_right _ (List.mem_append_left _ h)
theorem exS_i : ∀ w, w ∈ vx_atS RX4 100 "java/lang/IndexOutOfBoundsException" exN → w ∈ exL := fun _ h => List.mem_append_right _ (List.mem_append_right _ h)
