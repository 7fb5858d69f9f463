/-! ===== what the class's methods do, over a ring's numbers ===== -/
def sI (f : Nat → Int32) : Nat → Int32
  | 0 => 0
  | n + 1 => sI f n + f n
def cI (p : Nat → Bool) : Nat → Int32
  | 0 => 0
  | n + 1 => if p n = true then cI p n + 1 else cI p n
theorem cI_t {p : Nat → Bool} {n : Nat} (h : p n = true) : cI p (n + 1) = cI p n + 1 := if_pos h
theorem cI_f {p : Nat → Bool} {n : Nat} (h : ¬ p n = true) : cI p (n + 1) = cI p n := if_neg h
-- a pattern
def wrL (i : Nat) (ow : Int32) : Nat → Int32 → Sg → Sg
  | 0, _, σ => σ
  | n + 1, rest, σ => wrL i ow n (rest / 10) (u3 (u3 σ 4 i n (rest - rest / 10 * 10)) 5 i n ow)
def fWrite (σ : Sg) (i : Nat) (ow : Int32) (n : Nat) (dg : Int32) : Sg := wrL i ow n dg (u3 σ 3 i 2 (nI n))
def cpPL (i : Nat) (ρ : Sg) (σ : Sg) : Nat → Sg
  | 0 => σ
  | n + 1 => u3 (u3 (cpPL i ρ σ n) 4 i n (ρ 4 i n)) 5 i n (ρ 5 i n)
def fCopyP (σ ρ : Sg) (i n : Nat) : Sg := cpPL i ρ (u3 σ 3 i 2 (ρ 3 i 2)) n
theorem cpPL_k {i : Nat} {ρ σ : Sg} {k a b : Nat} (h4 : k ≠ 4) (h5 : k ≠ 5) : ∀ n, cpPL i ρ σ n k a b = σ k a b
  | 0 => rfl
  | n + 1 => by
    show u3 (u3 (cpPL i ρ σ n) 4 i n (ρ 4 i n)) 5 i n (ρ 5 i n) k a b = σ k a b
    rw [u3_ne (fun z => h5 z.1), u3_ne (fun z => h4 z.1)]
    exact cpPL_k h4 h5 n
def laL (σ : Sg) (i n : Nat) : Nat → Nat → Int32 → Int32
  | 0, _, _ => 1
  | k + 1, p, acc => if acc &&& (1 <<< ((nI p + σ 4 i p - (nI p + σ 4 i p) / nI n * nI n) &&& 31)) = 0 then laL σ i n k (p + 1) (acc ||| (1 <<< ((nI p + σ 4 i p - (nI p + σ 4 i p) / nI n * nI n) &&& 31))) else 0
def fLands (σ : Sg) (i n : Nat) : Int32 := laL σ i n n 0 0
def fAsks (σ : Sg) (i n : Nat) : Int32 := if sI (σ 4 i) n - sI (σ 4 i) n / nI n * nI n = 0 then sI (σ 4 i) n / nI n else -1
def reL (σ : Sg) (i d : Nat) : Nat → Nat → Int32
  | 0, _ => 1
  | k + 1, p => if σ 4 i p = σ 4 i (p - d) ∧ σ 5 i p = σ 5 i (p - d) then reL σ i d k (p + 1) else 0
def fRep (σ : Sg) (i n d : Nat) : Int32 := reL σ i d (n - d) d
def shL (σ : Sg) (i n : Nat) : Nat → Nat → Nat
  | 0, p => p
  | k + 1, p => if n % p = 0 ∧ fRep σ i n p = 1 then p else shL σ i n k (p + 1)
def fShort (σ : Sg) (i n : Nat) : Nat := shL σ i n (n - 1) 1
def adL (σ : Sg) (i : Nat) (d : Int64) : Nat → Int64
  | 0 => d
  | n + 1 => (adL σ i d n * 31 + (σ 4 i n).toInt64) * 31 + (σ 5 i n).toInt64
-- a thing
def fDown (σ : Sg) (k : Nat) (b : Int32) : Int32 := if σ 8 k 1 = 2 ∧ σ 8 k 4 = b then 1 else 0
def fAir (kd h : Int32) : Int32 := if kd = 1 ∧ ¬ h < 3 then h - 1 else if kd = 2 ∧ ¬ h < 5 then h + 1 else h
def fFly (σ : Sg) (k : Nat) (to h b : Int32) : Sg := u3 (u3 (u3 (u3 (u3 (u3 σ 8 k 1 2) 8 k 2 to) 8 k 3 (-1)) 8 k 5 h) 8 k 4 (b + fAir (σ 8 k 0) h)) 8 k 6 (σ 8 k 6 + 1)
def fFall (σ : Sg) (k : Nat) : Sg := u3 (u3 (u3 σ 8 k 1 (if σ 8 k 0 = 2 then 3 else 0)) 8 k 2 (-1)) 8 k 7 (σ 8 k 7 + 1)
def fCopyT (σ ρ : Sg) (k : Nat) : Sg := u3 (u3 (u3 (u3 (u3 (u3 (u3 (u3 σ 8 k 0 (ρ 8 k 0)) 8 k 1 (ρ 8 k 1)) 8 k 2 (ρ 8 k 2)) 8 k 3 (ρ 8 k 3)) 8 k 4 (ρ 8 k 4)) 8 k 5 (ρ 8 k 5)) 8 k 6 (ρ 8 k 6)) 8 k 7 (ρ 8 k 7)
-- a juggler
def fCopyJ (σ ρ : Sg) (i n : Nat) : Sg := u3 (u3 (u3 (u3 (u3 (fCopyP σ ρ i n) 6 i 0 (ρ 6 i 0)) 6 i 1 (ρ 6 i 1)) 2 i 2 (ρ 2 i 2)) 2 i 3 (ρ 2 i 3)) 2 i 4 (ρ 2 i 4)
def fCan (σ : Sg) (i : Nat) (h : Int32) (hd : Nat) : Int32 := if σ 6 i hd = -1 ∧ ¬ σ 2 i 2 + 2 < h then 1 else 0
def fMiss (σ : Sg) (i k : Nat) : Sg := fFall (if σ 8 k 0 = 1 then u3 σ 2 i 3 (σ 2 i 3 + 1) else σ) k
def fHeld (σ : Sg) (i : Nat) : Int32 := cI (fun h => !decide (σ 6 i h = -1)) 2
-- a ring
def cpJL (ρ : Sg) (ln : Nat → Nat) (σ : Sg) : Nat → Sg
  | 0 => σ
  | n + 1 => fCopyJ (cpJL ρ ln σ n) ρ n (ln n)
def cpTL (ρ : Sg) (σ : Sg) : Nat → Sg
  | 0 => σ
  | n + 1 => fCopyT (cpTL ρ σ n) ρ n
def fCopyR (σ ρ : Sg) (jc tc : Nat) (ln : Nat → Nat) : Sg := cpTL ρ (cpJL ρ ln (u3 (u3 (u3 σ 0 0 2 (ρ 0 0 2)) 0 0 3 (ρ 0 0 3)) 0 0 4 (ρ 0 0 4)) jc) tc
def fHasJ (σ : Sg) (x : Int32) : Int32 := if ¬ x < 0 ∧ ¬ σ 0 0 2 ≤ x then 1 else 0
def fHasT (σ : Sg) (x : Int32) : Int32 := if ¬ x < 0 ∧ ¬ σ 0 0 3 ≤ x then 1 else 0
def fAddJ (σ : Sg) (j : Nat) (sk : Int32) : Sg := u3 (fWrite (u3 σ 2 j 2 sk) j (nI j) 1 0) 0 0 2 (nI j + 1)
def fAddT (σ : Sg) (k : Nat) (kd : Int32) : Sg := u3 (u3 σ 8 k 0 kd) 0 0 3 (nI k + 1)
def fPut (σ : Sg) (k : Nat) (to : Int32) (j hd : Nat) : Sg := u3 (u3 (u3 (u3 σ 6 j hd (nI k)) 8 k 1 1) 8 k 2 to) 8 k 3 (nI hd)
/-- one thing that may come down -/
def fDown1 (σ : Sg) (k hd : Nat) : Sg := if fDown σ k (σ 0 0 4) = 0 then σ else if fHasJ σ (σ 8 k 2) = 0 then σ else if fCan σ (σ 8 k 2).toNatClampNeg (σ 8 k 5) hd = 0 then fMiss σ (σ 8 k 2).toNatClampNeg k else u3 (fPut σ k (σ 8 k 2) (σ 8 k 2).toNatClampNeg hd) 2 (σ 8 k 2).toNatClampNeg 4 (fPut σ k (σ 8 k 2) (σ 8 k 2).toNatClampNeg hd 2 (σ 8 k 2).toNatClampNeg 4 + 1)
def fDown1r (σ : Sg) (k hd : Nat) : Int32 := if fDown σ k (σ 0 0 4) = 0 then 0 else if fHasJ σ (σ 8 k 2) = 0 then 0 else if fCan σ (σ 8 k 2).toNatClampNeg (σ 8 k 5) hd = 0 then 1 else 0
def dnL (hd : Nat) (σ : Sg) : Nat → Sg
  | 0 => σ
  | n + 1 => fDown1 (dnL hd σ n) n hd
def dnR (hd : Nat) (σ : Sg) : Nat → Int32
  | 0 => 0
  | n + 1 => dnR hd σ n + fDown1r (dnL hd σ n) n hd
/-- a juggler's throw, with the pattern's place q -/
def fThrow (σ : Sg) (j q hd : Nat) : Sg := if fHasT σ (σ 6 j hd) = 0 then σ else if σ 4 j q ≤ 0 then σ else u3 (fFly σ (σ 6 j hd).toNatClampNeg (σ 5 j q) (σ 4 j q) (σ 0 0 4)) 6 j hd (-1)
def thL (b : Nat) (ln : Nat → Nat) (σ : Sg) : Nat → Sg
  | 0 => σ
  | n + 1 => fThrow (thL b ln σ n) n (b % ln n) (b % 2)
def fBeat (σ : Sg) (b jc tc : Nat) (ln : Nat → Nat) : Sg := u3 (thL b ln (dnL (b % 2) σ tc) jc) 0 0 4 (nI (b + 1))
def fBeatR (σ : Sg) (b tc : Nat) : Int32 := dnR (b % 2) σ tc
def plL (b jc tc : Nat) (ln : Nat → Nat) (σ : Sg) : Nat → Sg
  | 0 => σ
  | n + 1 => fBeat (plL b jc tc ln σ n) (b + n) jc tc ln
def plR (b jc tc : Nat) (ln : Nat → Nat) (σ : Sg) : Nat → Int32
  | 0 => 0
  | n + 1 => plR b jc tc ln σ n + fBeatR (plL b jc tc ln σ n) (b + n) tc
/-- what a ring keeps to -/
def Shp (σ : Sg) (jc tc : Nat) (ln : Nat → Nat) : Prop := jc ≤ 4 ∧ tc ≤ 12 ∧ σ 0 0 2 = nI jc ∧ σ 0 0 3 = nI tc ∧ ∀ i, i < jc → 1 ≤ ln i ∧ ln i ≤ 8 ∧ σ 3 i 2 = nI (ln i)
theorem Shp_of {σ τ : Sg} {jc tc : Nat} {ln : Nat → Nat} (h : Shp σ jc tc ln) (hk : ∀ a b c, a = 3 ∨ (a = 0 ∧ c ≠ 4) → τ a b c = σ a b c) : Shp τ jc tc ln := ⟨h.1, h.2.1, (hk _ _ _ (Or.inr ⟨rfl, by decide⟩)).trans h.2.2.1, (hk _ _ _ (Or.inr ⟨rfl, by decide⟩)).trans h.2.2.2.1, fun i hi => ⟨(h.2.2.2.2 i hi).1, (h.2.2.2.2 i hi).2.1, (hk _ _ _ (Or.inl rfl)).trans (h.2.2.2.2 i hi).2.2⟩⟩
theorem fFall_k {σ : Sg} {k a b c : Nat} (h : a ≠ 8) : fFall σ k a b c = σ a b c := by
  unfold fFall
  rw [u3_ne (fun z => h z.1), u3_ne (fun z => h z.1), u3_ne (fun z => h z.1)]
theorem fFly_k {σ : Sg} {k a b c : Nat} {to h0 bt : Int32} (h : a ≠ 8) : fFly σ k to h0 bt a b c = σ a b c := by
  unfold fFly
  rw [u3_ne (fun z => h z.1), u3_ne (fun z => h z.1), u3_ne (fun z => h z.1), u3_ne (fun z => h z.1), u3_ne (fun z => h z.1), u3_ne (fun z => h z.1)]
theorem fMiss_k {σ : Sg} {i k a b c : Nat} (h2 : a ≠ 2) (h8 : a ≠ 8) : fMiss σ i k a b c = σ a b c := by
  unfold fMiss
  rw [fFall_k h8]
  split
  · exact u3_ne (fun z => h2 z.1)
  · rfl
theorem fPut_k {σ : Sg} {k j hd a b c : Nat} {to : Int32} (h6 : a ≠ 6) (h8 : a ≠ 8) : fPut σ k to j hd a b c = σ a b c := by
  unfold fPut
  rw [u3_ne (fun z => h8 z.1), u3_ne (fun z => h8 z.1), u3_ne (fun z => h8 z.1), u3_ne (fun z => h6 z.1)]
theorem fDown1_k {σ : Sg} {k hd a b c : Nat} (h2 : a ≠ 2) (h6 : a ≠ 6) (h8 : a ≠ 8) : fDown1 σ k hd a b c = σ a b c := by
  unfold fDown1
  split
  · rfl
  · split
    · rfl
    · split
      · exact fMiss_k h2 h8
      · rw [u3_ne (fun z => h2 z.1)]; exact fPut_k h6 h8
theorem dnL_k {σ : Sg} {hd a b c : Nat} (h2 : a ≠ 2) (h6 : a ≠ 6) (h8 : a ≠ 8) : ∀ n, dnL hd σ n a b c = σ a b c
  | 0 => rfl
  | n + 1 => (fDown1_k h2 h6 h8).trans (dnL_k h2 h6 h8 n)
theorem fThrow_k {σ : Sg} {j q hd a b c : Nat} (h6 : a ≠ 6) (h8 : a ≠ 8) : fThrow σ j q hd a b c = σ a b c := by
  unfold fThrow
  split
  · rfl
  · split
    · rfl
    · rw [u3_ne (fun z => h6 z.1)]; exact fFly_k h8
theorem thL_k {σ : Sg} {bt : Nat} {ln : Nat → Nat} {a b c : Nat} (h6 : a ≠ 6) (h8 : a ≠ 8) : ∀ n, thL bt ln σ n a b c = σ a b c
  | 0 => rfl
  | n + 1 => (fThrow_k h6 h8).trans (thL_k h6 h8 n)
theorem fBeat_k {σ : Sg} {bt jc tc : Nat} {ln : Nat → Nat} {a b c : Nat} (h2 : a ≠ 2) (h6 : a ≠ 6) (h8 : a ≠ 8) (h0 : ¬ (a = 0 ∧ c = 4)) : fBeat σ bt jc tc ln a b c = σ a b c := by
  unfold fBeat
  rw [u3_ne (fun z => h0 ⟨z.1, z.2.2⟩), thL_k h6 h8, dnL_k h2 h6 h8]
theorem fBeat_b {σ : Sg} {bt jc tc : Nat} {ln : Nat → Nat} : fBeat σ bt jc tc ln 0 0 4 = nI (bt + 1) := u3_at _ _ _ _ _
theorem plL_k {σ : Sg} {bt jc tc : Nat} {ln : Nat → Nat} {a b c : Nat} (h2 : a ≠ 2) (h6 : a ≠ 6) (h8 : a ≠ 8) (h0 : ¬ (a = 0 ∧ c = 4)) : ∀ n, plL bt jc tc ln σ n a b c = σ a b c
  | 0 => rfl
  | n + 1 => (fBeat_k h2 h6 h8 h0).trans (plL_k h2 h6 h8 h0 n)
theorem plL_b {σ : Sg} {bt jc tc : Nat} {ln : Nat → Nat} (h : σ 0 0 4 = nI bt) : ∀ n, plL bt jc tc ln σ n 0 0 4 = nI (bt + n)
  | 0 => h
  | n + 1 => fBeat_b
theorem Shp_dn {σ : Sg} {jc tc hd : Nat} {ln : Nat → Nat} (h : Shp σ jc tc ln) (n : Nat) : Shp (dnL hd σ n) jc tc ln := Shp_of h (fun a b c z => dnL_k (by omega) (by omega) (by omega) n)
theorem Shp_th {σ : Sg} {jc tc b : Nat} {ln ln' : Nat → Nat} (h : Shp σ jc tc ln) (n : Nat) : Shp (thL b ln' σ n) jc tc ln := Shp_of h (fun a b c z => thL_k (by omega) (by omega) n)
theorem Shp_pl {σ : Sg} {jc tc b : Nat} {ln : Nat → Nat} (h : Shp σ jc tc ln) (n : Nat) : Shp (plL b jc tc ln σ n) jc tc ln := Shp_of h (fun a b c z => plL_k (by omega) (by omega) (by omega) (by omega) n)
def fTellT (σ : Sg) (k : Nat) : Nat → Int32
  | 0 => σ 8 k 0
  | 1 => σ 8 k 1
  | 2 => σ 8 k 2
  | 3 => σ 8 k 3
  | 4 => if σ 8 k 1 = 2 then σ 8 k 4 - σ 0 0 4 else -1
  | 5 => σ 8 k 6
  | _ => σ 8 k 7
def fFlies (σ : Sg) (tc : Nat) (j : Int32) : Int32 := cI (fun k => decide (σ 8 k 1 = 2) && decide (σ 8 k 2 = j)) tc
def fIn (σ : Sg) (tc : Nat) (x : Int32) : Int32 := cI (fun k => decide (σ 8 k 1 = x)) tc
def fTellJ (σ : Sg) (tc i : Nat) : Nat → Int32
  | 0 => σ 2 i 2
  | 1 => σ 2 i 3
  | 2 => σ 6 i 0
  | 3 => σ 6 i 1
  | 4 => σ 3 i 2
  | 5 => fFlies σ tc (nI i)
  | _ => σ 2 i 4
def fTellC (σ : Sg) (tc : Nat) : Nat → Int32
  | 0 => σ 0 0 4
  | 1 => σ 0 0 2
  | 2 => σ 0 0 3
  | 3 => fIn σ tc 1
  | 4 => fIn σ tc 2
  | 5 => fIn σ tc 0
  | 6 => fIn σ tc 3
  | 7 => sI (fun k => σ 8 k 7) tc
  | _ => sI (fun k => σ 8 k 6) tc
theorem cpTL_k {ρ σ : Sg} {a b c : Nat} (h8 : a ≠ 8) : ∀ n, cpTL ρ σ n a b c = σ a b c
  | 0 => rfl
  | n + 1 => by
    show fCopyT (cpTL ρ σ n) ρ n a b c = σ a b c
    unfold fCopyT
    rw [u3_ne (fun z => h8 z.1), u3_ne (fun z => h8 z.1), u3_ne (fun z => h8 z.1), u3_ne (fun z => h8 z.1), u3_ne (fun z => h8 z.1), u3_ne (fun z => h8 z.1), u3_ne (fun z => h8 z.1), u3_ne (fun z => h8 z.1)]
    exact cpTL_k h8 n
theorem fCopyJ_k {σ ρ : Sg} {i n a b c : Nat} (h : a = 0 ∨ a = 8) : fCopyJ σ ρ i n a b c = σ a b c := by
  unfold fCopyJ fCopyP
  rw [u3_ne (by omega), u3_ne (by omega), u3_ne (by omega), u3_ne (by omega), u3_ne (by omega), cpPL_k (by omega) (by omega), u3_ne (by omega)]
theorem cpJL_k {ρ σ : Sg} {ln : Nat → Nat} {a b c : Nat} (h : a = 0 ∨ a = 8) : ∀ n, cpJL ρ ln σ n a b c = σ a b c
  | 0 => rfl
  | n + 1 => (fCopyJ_k h).trans (cpJL_k h n)
theorem fHasJ_ix {σ : Sg} {x : Int32} {jc : Nat} (hJ : σ 0 0 2 = nI jc) (h4 : jc ≤ 4) (h : ¬ fHasJ σ x = 0) : Ix x x.toNatClampNeg jc := by
  unfold fHasJ at h
  split at h
  · rename_i z
    rw [hJ] at z
    exact Ix_of z.1 z.2 (by omega)
  · exact absurd rfl h
theorem fHasT_ix {σ : Sg} {x : Int32} {tc : Nat} (hT : σ 0 0 3 = nI tc) (h12 : tc ≤ 12) (h : ¬ fHasT σ x = 0) : Ix x x.toNatClampNeg tc := by
  unfold fHasT at h
  split at h
  · rename_i z
    rw [hT] at z
    exact Ix_of z.1 z.2 (by omega)
  · exact absurd rfl h
theorem wrL_k {i a b c : Nat} {ow : Int32} (h4 : a ≠ 4) (h5 : a ≠ 5) : ∀ (n : Nat) (dg : Int32) (σ : Sg), wrL i ow n dg σ a b c = σ a b c
  | 0, _, _ => rfl
  | n + 1, dg, σ => by
    show wrL i ow n (dg / 10) (u3 (u3 σ 4 i n (dg - dg / 10 * 10)) 5 i n ow) a b c = σ a b c
    rw [wrL_k h4 h5 n, u3_ne (fun z => h5 z.1), u3_ne (fun z => h4 z.1)]
theorem fWrite_k {σ : Sg} {i n a b c : Nat} {ow dg : Int32} (h3 : a ≠ 3) (h4 : a ≠ 4) (h5 : a ≠ 5) : fWrite σ i ow n dg a b c = σ a b c := by
  unfold fWrite
  rw [wrL_k h4 h5, u3_ne (fun z => h3 z.1)]
