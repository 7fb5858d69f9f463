/-! ===== beats, patterns, trials: both sides alike ===== -/
section STQ
variable {σ σ' τ τ' ρ q : Sg} {jc tc b k i hd : Nat} {ln : Nat → Nat}
theorem fMiss_o {a x c : Nat} (h : x ≠ i ∨ a ≠ 2) (h2 : x ≠ k ∨ a ≠ 8) : fMiss σ i k a x c = σ a x c := by
  unfold fMiss fFall
  rw [u3_ne (by omega), u3_ne (by omega), u3_ne (by omega)]
  split
  · rw [u3_ne (by omega)]
  · rfl
theorem fDown1_o {a x c : Nat} (h4 : jc ≤ 4) (hJ : σ 0 0 2 = nI jc) (h1 : jc ≤ x ∨ a = 8) (h2 : x ≠ k ∨ a ≠ 8) : fDown1 σ k hd a x c = σ a x c := by
  unfold fDown1
  split
  · rfl
  · split
    · rfl
    · rename_i z
      have hx := fHasJ_ix hJ h4 z
      have hlt := hx.2.2
      split
      · exact fMiss_o (by omega) h2
      · unfold fPut
        rw [u3_ne (by omega), u3_ne (by omega), u3_ne (by omega), u3_ne (by omega), u3_ne (by omega)]
theorem fThrow_o {j p a x c : Nat} (h12 : tc ≤ 12) (hT : σ 0 0 3 = nI tc) (hj : j < jc) (h1 : jc ≤ x ∨ a = 8) (h2 : tc ≤ x ∨ a ≠ 8) : fThrow σ j p hd a x c = σ a x c := by
  unfold fThrow
  split
  · rfl
  · rename_i z
    have hlt := (fHasT_ix hT h12 z).2.2
    split
    · rfl
    · unfold fFly
      rw [u3_ne (by omega), u3_ne (by omega), u3_ne (by omega), u3_ne (by omega), u3_ne (by omega), u3_ne (by omega), u3_ne (by omega)]
theorem fBeat_o {a x c : Nat} (hS : Shp σ jc tc ln) (h1 : jc ≤ x ∨ a = 8) (h2 : tc ≤ x ∨ a ≠ 8) (h0 : a ≠ 0) : fBeat σ b jc tc ln a x c = σ a x c := by
  have e1 : ∀ n, n ≤ tc → dnL (b % 2) σ n a x c = σ a x c := by
    intro n
    induction n with
    | zero => intro _; rfl
    | succ n ih =>
      intro hn
      show fDown1 (dnL (b % 2) σ n) n (b % 2) a x c = σ a x c
      rw [fDown1_o hS.1 (Shp_dn hS n).2.2.1 h1 (by omega)]
      exact ih (by omega)
  have e2 : ∀ n, n ≤ jc → thL b ln (dnL (b % 2) σ tc) n a x c = dnL (b % 2) σ tc a x c := by
    intro n
    induction n with
    | zero => intro _; rfl
    | succ n ih =>
      intro hn
      show fThrow (thL b ln (dnL (b % 2) σ tc) n) n (b % ln n) (b % 2) a x c = _
      rw [fThrow_o hS.2.1 (Shp_th (Shp_dn hS tc) n).2.2.2.1 (show n < jc by omega) h1 h2]
      exact ih (by omega)
  unfold fBeat
  rw [u3_ne (fun z => h0 z.1), e2 jc (Nat.le_refl jc), e1 tc (Nat.le_refl tc)]
theorem Fr_of (f : Fr σ jc tc) (h : ∀ a x c, (a ≠ 8 ∧ a ≠ 0 ∧ jc ≤ x) ∨ (a = 8 ∧ tc ≤ x) → σ' a x c = σ a x c) : Fr σ' jc tc := by
  refine ⟨fun i hi h4 => ?_, fun k hk h12 => ?_⟩
  · rw [h 2 i 3 (by omega), h 2 i 4 (by omega), h 6 i 0 (by omega), h 6 i 1 (by omega)]
    exact f.1 i hi h4
  · rw [h 8 k 1 (by omega), h 8 k 2 (by omega), h 8 k 3 (by omega), h 8 k 6 (by omega), h 8 k 7 (by omega)]
    exact f.2 k hk h12
theorem Fr_play (hS : Shp σ jc tc ln) (f : Fr σ jc tc) : ∀ n, Fr (plL b jc tc ln σ n) jc tc
  | 0 => f
  | n + 1 => Fr_of (Fr_play hS f n) (fun a x c z => fBeat_o (Shp_pl hS n) (by omega) (by omega) (by omega))
theorem Inv_go (I : Inv σ q τ jc tc b ln) (n : Nat) : Inv (plL b jc tc ln σ n) q (ggL q b jc tc ln τ n) jc tc (b + n) ln := by
  obtain ⟨C, f, z, F, c1, c2⟩ := I
  obtain ⟨h1, h2⟩ := Cp_play C n
  obtain ⟨d, d1, d2⟩ := plR_n (b := b) (jc := jc) (tc := tc) (ln := ln) (σ := σ) n
  refine ⟨h1, Fr_play C.1.1 f n, z, F + d, ?_, ?_⟩
  · have := C.1.1.2.1
    have h3 : n * tc ≤ n * 12 := Nat.mul_le_mul_left n this
    omega
  · rw [h2, c2, d2, nI_add]
-- lasts
def lnd (σ : Sg) (i n p : Nat) : Nat := (p + (σ 4 i p).toNatClampNeg) % n
def orF (f : Nat → Nat) : Nat → Nat
  | 0 => 0
  | n + 1 => orF f n ||| 2 ^ f n
def pcn (m : Nat) : Nat := m % 2 + m / 2 % 2 + m / 4 % 2 + m / 8 % 2 + m / 16 % 2 + m / 32 % 2 + m / 64 % 2 + m / 128 % 2
theorem pcn_or : ∀ m : Fin 256, ∀ i : Fin 8, (m.1 &&& 2 ^ i.1 = 0 → pcn (m.1 ||| 2 ^ i.1) = pcn m.1 + 1) ∧ (¬ m.1 &&& 2 ^ i.1 = 0 → pcn (m.1 ||| 2 ^ i.1) = pcn m.1) := by decide +kernel
theorem pcn_full : ∀ n : Fin 9, ∀ m : Fin 256, m.1 < 2 ^ n.1 → (pcn m.1 = n.1 ↔ m.1 = 2 ^ n.1 - 1) := by decide +kernel
theorem nI_or (a b : Nat) : nI a ||| nI b = nI (a ||| b) := by
  apply Int32.toBitVec_inj.1
  show BitVec.ofNat 32 a ||| BitVec.ofNat 32 b = BitVec.ofNat 32 (a ||| b)
  apply BitVec.eq_of_getLsbD_eq
  intro i hi
  simp [hi]
theorem nI_and (a b : Nat) : nI a &&& nI b = nI (a &&& b) := by
  apply Int32.toBitVec_inj.1
  show BitVec.ofNat 32 a &&& BitVec.ofNat 32 b = BitVec.ofNat 32 (a &&& b)
  apply BitVec.eq_of_getLsbD_eq
  intro i hi
  simp [hi]
theorem shl_1 : ∀ i : Fin 9, (1 : Int32) <<< (nI i.1 &&& 31) = nI (2 ^ i.1) := by decide +kernel
theorem orF_lt {f : Nat → Nat} {n : Nat} (h : ∀ p, p < n → f p < n) : ∀ k, k ≤ n → orF f k < 2 ^ n
  | 0, _ => Nat.two_pow_pos n
  | k + 1, hk => Nat.or_lt_two_pow (orF_lt h k (by omega)) (Nat.pow_lt_pow_right (by decide) (h k (by omega)))
theorem laL_pc {n : Nat} (h1 : 1 ≤ n) (h8 : n ≤ 8) (hσ : ∀ p, p < n → ∃ h, h ≤ 9 ∧ σ 4 i p = nI h) : ∀ k p m : Nat, k + p = n → m = orF (lnd σ i n) p → pcn (orF (lnd σ i n) n) ≤ pcn m + k ∧ (laL σ i n k p (nI m) = 1 ↔ pcn (orF (lnd σ i n) n) = pcn m + k) := by
  have hl : ∀ p, p < n → lnd σ i n p < n := fun p _ => Nat.mod_lt _ h1
  intro k
  induction k with
  | zero =>
    intro p m hp hm
    obtain rfl : p = n := by omega
    rw [← hm]
    exact ⟨Nat.le_refl _, fun _ => rfl, fun _ => rfl⟩
  | succ k ih =>
    intro p m hp hm
    have hm8 : m < 256 := by
      have := orF_lt hl p (by omega)
      have h2 : 2 ^ n ≤ 2 ^ 8 := Nat.pow_le_pow_right (by decide) h8
      omega
    have hlp := hl p (by omega)
    obtain ⟨h, h9, e⟩ := hσ p (by omega)
    have ec : lnd σ i n p = (p + h) % n := by
      unfold lnd
      rw [e, nI_clamp (show h < 2 ^ 31 by omega)]
    have es : nI p + σ 4 i p - (nI p + σ 4 i p) / nI n * nI n = nI (lnd σ i n p) := by
      rw [ec, e, nI_add]
      exact pk_rem (show p + h < 2 ^ 31 by omega) h1 (show n < 2 ^ 31 by omega)
    have hsh := shl_1 ⟨lnd σ i n p, by omega⟩
    obtain ⟨i1, i2⟩ := ih (p + 1) (m ||| 2 ^ lnd σ i n p) (by omega) (by rw [hm]; rfl)
    obtain ⟨q1, q2⟩ := pcn_or ⟨m, hm8⟩ ⟨lnd σ i n p, by omega⟩
    rw [laL, es, hsh, nI_and, nI_or]
    have hb : m &&& 2 ^ lnd σ i n p < 2 ^ 31 := Nat.lt_of_le_of_lt Nat.and_le_left (by omega)
    by_cases z : m &&& 2 ^ lnd σ i n p = 0
    · rw [z, if_pos (by decide)]
      have hq := q1 z
      simp only at hq
      rw [hq] at i1 i2
      exact ⟨by omega, by rw [i2]; omega⟩
    · rw [if_neg (nI_ne0 (by omega) hb)]
      have hq := q2 z
      simp only at hq
      rw [hq] at i1
      exact ⟨by omega, fun y => absurd y (by decide), fun y => by omega⟩
theorem lasts_e {n : Nat} (h1 : 1 ≤ n) (h8 : n ≤ 8) (hσ : ∀ p, p < n → ∃ h, h ≤ 9 ∧ σ 4 i p = nI h) : fLands σ i n = if orF (lnd σ i n) n = 2 ^ n - 1 then 1 else 0 := by
  have hl : ∀ p, p < n → lnd σ i n p < n := fun p _ => Nat.mod_lt _ h1
  have hb := orF_lt hl n (Nat.le_refl n)
  have h2 : 2 ^ n ≤ 2 ^ 8 := Nat.pow_le_pow_right (by decide) h8
  obtain ⟨-, i2⟩ := laL_pc h1 h8 hσ n 0 0 rfl rfl
  have hf := pcn_full ⟨n, by omega⟩ ⟨orF (lnd σ i n) n, by omega⟩ hb
  simp only at hf
  have hz : pcn 0 = 0 := by decide
  rw [hz, Nat.zero_add, hf] at i2
  unfold fLands
  rcases laL_01 σ i n n 0 0 with y | y
  · rw [y, if_neg]
    intro w
    have := i2.mpr w
    rw [show (nI 0 : Int32) = 0 from rfl, y] at this
    exact absurd this (by decide)
  · rw [y, if_pos (i2.mp y)]
-- shortest
def wqL (σ : Sg) (i d : Nat) : Nat → Nat → Int32
  | 0, _ => 1
  | k + 1, p => if σ 4 i p = σ 4 i (p % d) ∧ σ 5 i p = σ 5 i (p % d) then wqL σ i d k (p + 1) else 0
theorem wqL_e {d : Nat} (h1 : 1 ≤ d) : ∀ k p, d ≤ p → (∀ r, d ≤ r → r < p → σ 4 i r = σ 4 i (r % d) ∧ σ 5 i r = σ 5 i (r % d)) → wqL σ i d k p = reL σ i d k p := by
  intro k
  induction k with
  | zero => intro p _ _; rfl
  | succ k ih =>
    intro p hp hr
    have e : σ 4 i (p - d) = σ 4 i (p % d) ∧ σ 5 i (p - d) = σ 5 i (p % d) := by
      rw [Nat.mod_eq_sub_mod hp]
      by_cases z : p - d < d
      · rw [Nat.mod_eq_of_lt z]; exact ⟨rfl, rfl⟩
      · exact hr (p - d) (by omega) (by omega)
    rw [wqL, reL, e.1, e.2]
    split
    · rename_i y
      refine ih (p + 1) (by omega) (fun r h2 h3 => ?_)
      by_cases z : r = p
      · subst z; exact y
      · exact hr r h2 (by omega)
    · rfl
theorem wqL_r {n d : Nat} (h1 : 1 ≤ d) : wqL σ i d (n - d) d = fRep σ i n d := wqL_e h1 _ d (Nat.le_refl d) (fun r h2 h3 => by omega)
theorem fRep_n {n : Nat} : fRep σ i n n = 1 := by
  unfold fRep
  rw [Nat.sub_self]
  rfl
-- trials
theorem fall_e (C : Cp σ q τ jc tc b ln) (n : Nat) : sI (ggL q b jc tc ln τ n 9 0) 12 - sI (τ 9 0) 12 = plR b jc tc ln σ n := by
  rw [(Cp_play C n).2, Int32.add_comm, Int32.add_sub_cancel]
theorem plR_e (C : Cp σ q τ jc tc b ln) (C' : Cp σ' q τ jc tc b ln) (n : Nat) : plR b jc tc ln σ n = plR b jc tc ln σ' n := (fall_e C n).symm.trans (fall_e C' n)
theorem i32_cancel {a x y : Int32} (h : a + x = a + y) : x = y := by
  have := congrArg (fun z => z - a) h
  rw [Int32.add_comm a x, Int32.add_comm a y, Int32.add_sub_cancel, Int32.add_sub_cancel] at this
  exact this
theorem fFall1_e (C : Cp σ q τ jc tc b ln) (C' : Cp σ' q τ jc tc b ln) : fFall1 σ b jc tc ln = fFall1 σ' b jc tc ln := by
  funext a
  unfold fFall1
  have h1 := plR_e C C' (a - 1)
  have h2 := plR_e C C' (a - 1 + 1)
  have e1 : plR b jc tc ln σ (a - 1 + 1) = plR b jc tc ln σ (a - 1) + fBeatR (plL b jc tc ln σ (a - 1)) (b + (a - 1)) tc := rfl
  have e2 : plR b jc tc ln σ' (a - 1 + 1) = plR b jc tc ln σ' (a - 1) + fBeatR (plL b jc tc ln σ' (a - 1)) (b + (a - 1)) tc := rfl
  rw [e1, e2, h1] at h2
  exact i32_cancel h2
theorem Cp_with (C : Cp σ q τ jc tc b ln) {j z h : Nat} (hj : j < jc) (hz : z < ln j) (h9 : h ≤ 9) : Cp (u3 σ 4 j z (nI h)) (u3 q 3 0 (8 * j + z) (nI h)) τ jc tc b ln := by
  obtain ⟨⟨⟨s4, s12, sJ, sT, sL⟩, S1, S2, SP, SK⟩, D⟩ := C
  have hp8 := (sL j hj).2.1
  refine ⟨⟨⟨s4, s12, by rw [u3_ne (by omega)]; exact sJ, by rw [u3_ne (by omega)]; exact sT, fun i hi => by rw [u3_ne (by omega)]; exact sL i hi⟩, by rw [u3_ne (by omega)]; exact S1, by rw [u3_ne (by omega)]; exact S2, fun i hi => ?_, fun k hk => by rw [u3_ne (by omega), u3_ne (by omega)]; exact SK k hk⟩, ?_⟩
  · rw [u3_ne (by omega), u3_ne (by omega), u3_ne (by omega)]
    refine ⟨(SP i hi).1, (SP i hi).2.1, fun a ha => ?_⟩
    obtain ⟨h', t2, h9', ht2, b1, b2, b3, b4⟩ := (SP i hi).2.2 a ha
    rw [u3_eq, u3_eq, u3_ne (by omega), u3_ne (by omega)]
    have hi8 := (sL i hi).2.1
    by_cases y : i = j ∧ a = z
    · obtain ⟨rfl, rfl⟩ := y
      exact ⟨h, t2, h9, ht2, by simp, by simp, b3, b4⟩
    · exact ⟨h', t2, h9', ht2, by rw [if_neg (by omega)]; exact b1, by rw [if_neg (by omega)]; exact b2, b3, b4⟩
  · obtain ⟨d1, d2, dH, dT, dJ, dZ⟩ := D
    refine ⟨by rw [u3_ne (by omega)]; exact d1, d2, fun i h hi hh => ?_, fun k hk => ?_, fun i hi => ?_, dZ⟩
    · simpa [u3_eq] using dH i h hi hh
    · simpa [u3_eq, cA] using dT k hk
    · simpa [u3_eq] using dJ i hi
theorem with_e (C : Cp σ q τ jc tc b ln) {j z h : Nat} (n : Nat) (hj : j < jc) (hz : z < ln j) (h9 : h ≤ 9) : plR b jc tc ln (fWith σ ρ b jc tc ln n j z h) n = plR b jc tc ln (u3 σ 4 j z (nI h)) n := plR_e (q := u3 q 3 0 (8 * j + z) (nI h)) (Cp_with (Cp_copy C) hj hz h9) (Cp_with C hj hz h9) n
-- advice
def bI (F : Nat → Nat → Int32) (z : Nat) : Nat → Nat → Int32 → Int32 → Int32 × Int32
  | 0, _, fw, ad => (fw, ad)
  | k + 1, h, fw, ad => if F z h < fw then bI F z k (h + 1) (F z h) (10 * nI z + nI h) else bI F z k (h + 1) fw ad
def bO (F : Nat → Nat → Int32) : Nat → Nat → Int32 → Int32 → Int32
  | 0, _, _, ad => ad
  | k + 1, z, fw, ad => bO F k (z + 1) (bI F z 10 0 fw ad).1 (bI F z 10 0 fw ad).2
theorem bI_le {F : Nat → Nat → Int32} {z : Nat} {ad fw : Int32} (hf : fw ≤ 0) (hF : ∀ h, h ≤ 9 → ∃ d : Nat, d < 2 ^ 31 ∧ F z h = nI d) : ∀ k h, k + h = 10 → bI F z k h fw ad = (fw, ad) := by
  intro k
  induction k with
  | zero => intro h _; rfl
  | succ k ih =>
    intro h hh
    obtain ⟨d, d1, d2⟩ := hF h (by omega)
    rw [bI, if_neg, ih (h + 1) (by omega)]
    rw [d2]
    intro y
    exact nI_pos d1 (Int32.lt_of_lt_of_le y hf)
theorem adI_e (C : Cp σ q τ jc tc b ln) {j z n : Nat} (hn : n ≤ 60) (hj : j < jc) (hz : z < ln j) : ∀ (k h : Nat) (fw ad : Int32) (ρ : Sg), k + h = 10 → (adI σ b jc tc ln n j z k h fw ad ρ).1 = (bI (fun z h => plR b jc tc ln (u3 σ 4 j z (nI h)) n) z k h fw ad).1 ∧ (adI σ b jc tc ln n j z k h fw ad ρ).2.1 = (bI (fun z h => plR b jc tc ln (u3 σ 4 j z (nI h)) n) z k h fw ad).2 := by
  have h12 := C.1.1.2.1
  intro k
  induction k with
  | zero => intro h fw ad ρ _; exact ⟨rfl, rfl⟩
  | succ k ih =>
    intro h fw ad ρ hh
    rw [adI, with_e C n hj hz (show h ≤ 9 by omega)]
    by_cases y : fw ≤ 0
    · rw [if_pos y, bI_le y (fun h _ => ?_) (k + 1) h hh]
      · exact ⟨rfl, rfl⟩
      · obtain ⟨d, d1, d2⟩ := plR_n (b := b) (jc := jc) (tc := tc) (ln := ln) (σ := u3 σ 4 j z (nI h)) n
        have h3 : n * tc ≤ 60 * 12 := Nat.mul_le_mul hn h12
        exact ⟨d, by omega, d2⟩
    · rw [if_neg y, bI]
      by_cases w : plR b jc tc ln (u3 σ 4 j z (nI h)) n < fw
      · rw [if_pos w, if_pos w]
        exact ih (h + 1) _ _ _ (by omega)
      · rw [if_neg w, if_neg w]
        exact ih (h + 1) _ _ _ (by omega)
theorem adO_e (C : Cp σ q τ jc tc b ln) {j n : Nat} (hn : n ≤ 60) (hj : j < jc) : ∀ (k z : Nat) (fw ad : Int32) (ρ : Sg), k + z = ln j → (adO σ b jc tc ln n j k z fw ad ρ).1 = bO (fun z h => plR b jc tc ln (u3 σ 4 j z (nI h)) n) k z fw ad := by
  intro k
  induction k with
  | zero => intro z fw ad ρ _; rfl
  | succ k ih =>
    intro z fw ad ρ hz
    obtain ⟨e1, e2⟩ := adI_e C hn hj (show z < ln j by omega) 10 0 fw ad ρ rfl
    rw [adO, ih (z + 1) _ _ _ (by omega), bO, e1, e2]
end STQ
