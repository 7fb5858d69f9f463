/-! ===== what the class's methods do, over a ring's numbers ===== -/
def sI (f : Nat → Int32) : Nat → Int32
  | 0 => 0
  | n + 1 => sI f n + f n
def cI (p : Nat → Bool) : Nat → Int32
  | 0 => 0
  | n + 1 => if p n = true then cI p n + 1 else cI p n
theorem cI_t {p : Nat → Bool} {n : Nat} (h : p n = true) : cI p (n + 1) = cI p n + 1 := if_pos h
theorem cI_f {p : Nat → Bool} {n : Nat} (h : ¬ p n = true) : cI p (n + 1) = cI p n := if_neg h
-- a pattern
def wrL (i : Nat) (ow : Int32) : Nat → Int32 → Sg → Sg
  | 0, _, σ => σ
  | n + 1, rest, σ => wrL i ow n (rest / 10) (u3 (u3 σ 4 i n (rest - rest / 10 * 10)) 5 i n ow)
def fWrite (σ : Sg) (i : Nat) (ow : Int32) (n : Nat) (dg : Int32) : Sg := wrL i ow n dg (u3 σ 3 i 2 (nI n))
def cpPL (i : Nat) (ρ : Sg) (σ : Sg) : Nat → Sg
  | 0 => σ
  | n + 1 => u3 (u3 (cpPL i ρ σ n) 4 i n (ρ 4 i n)) 5 i n (ρ 5 i n)
def fCopyP (σ ρ : Sg) (i n : Nat) : Sg := cpPL i ρ (u3 σ 3 i 2 (ρ 3 i 2)) n
theorem cpPL_k {i : Nat} {ρ σ : Sg} {k a b : Nat} (h4 : k ≠ 4) (h5 : k ≠ 5) : ∀ n, cpPL i ρ σ n k a b = σ k a b
  | 0 => rfl
  | n + 1 => by
    show u3 (u3 (cpPL i ρ σ n) 4 i n (ρ 4 i n)) 5 i n (ρ 5 i n) k a b = σ k a b
    rw [u3_ne (fun z => h5 z.1), u3_ne (fun z => h4 z.1)]
    exact cpPL_k h4 h5 n
def laL (σ : Sg) (i n : Nat) : Nat → Nat → Int32 → Int32
  | 0, _, _ => 1
  | k + 1, p, acc => if acc &&& (1 <<< ((nI p + σ 4 i p - (nI p + σ 4 i p) / nI n * nI n) &&& 31)) = 0 then laL σ i n k (p + 1) (acc ||| (1 <<< ((nI p + σ 4 i p - (nI p + σ 4 i p) / nI n * nI n) &&& 31))) else 0
def fLands (σ : Sg) (i n : Nat) : Int32 := laL σ i n n 0 0
def fAsks (σ : Sg) (i n : Nat) : Int32 := if sI (σ 4 i) n - sI (σ 4 i) n / nI n * nI n = 0 then sI (σ 4 i) n / nI n else -1
def reL (σ : Sg) (i d : Nat) : Nat → Nat → Int32
  | 0, _ => 1
  | k + 1, p => if σ 4 i p = σ 4 i (p - d) ∧ σ 5 i p = σ 5 i (p - d) then reL σ i d k (p + 1) else 0
def fRep (σ : Sg) (i n d : Nat) : Int32 := reL σ i d (n - d) d
def shL (σ : Sg) (i n : Nat) : Nat → Nat → Nat
  | 0, p => p
  | k + 1, p => if n % p = 0 ∧ fRep σ i n p = 1 then p else shL σ i n k (p + 1)
def fShort (σ : Sg) (i n : Nat) : Nat := shL σ i n (n - 1) 1
def adL (σ : Sg) (i : Nat) (d : Int64) : Nat → Int64
  | 0 => d
  | n + 1 => (adL σ i d n * 31 + (σ 4 i n).toInt64) * 31 + (σ 5 i n).toInt64
-- a thing
def fDown (σ : Sg) (k : Nat) (b : Int32) : Int32 := if σ 8 k 1 = 2 ∧ σ 8 k 4 = b then 1 else 0
def fAir (kd h : Int32) : Int32 := if kd = 1 ∧ ¬ h < 3 then h - 1 else if kd = 2 ∧ ¬ h < 5 then h + 1 else h
def fFly (σ : Sg) (k : Nat) (to h b : Int32) : Sg := u3 (u3 (u3 (u3 (u3 (u3 σ 8 k 1 2) 8 k 2 to) 8 k 3 (-1)) 8 k 5 h) 8 k 4 (b + fAir (σ 8 k 0) h)) 8 k 6 (σ 8 k 6 + 1)
def fFall (σ : Sg) (k : Nat) : Sg := u3 (u3 (u3 σ 8 k 1 (if σ 8 k 0 = 2 then 3 else 0)) 8 k 2 (-1)) 8 k 7 (σ 8 k 7 + 1)
def fCopyT (σ ρ : Sg) (k : Nat) : Sg := u3 (u3 (u3 (u3 (u3 (u3 (u3 (u3 σ 8 k 0 (ρ 8 k 0)) 8 k 1 (ρ 8 k 1)) 8 k 2 (ρ 8 k 2)) 8 k 3 (ρ 8 k 3)) 8 k 4 (ρ 8 k 4)) 8 k 5 (ρ 8 k 5)) 8 k 6 (ρ 8 k 6)) 8 k 7 (ρ 8 k 7)
-- a juggler
def fCopyJ (σ ρ : Sg) (i n : Nat) : Sg := u3 (u3 (u3 (u3 (u3 (fCopyP σ ρ i n) 6 i 0 (ρ 6 i 0)) 6 i 1 (ρ 6 i 1)) 2 i 2 (ρ 2 i 2)) 2 i 3 (ρ 2 i 3)) 2 i 4 (ρ 2 i 4)
def fCan (σ : Sg) (i : Nat) (h : Int32) (hd : Nat) : Int32 := if σ 6 i hd = -1 ∧ ¬ σ 2 i 2 + 2 < h then 1 else 0
def fMiss (σ : Sg) (i k : Nat) : Sg := fFall (if σ 8 k 0 = 1 then u3 σ 2 i 3 (σ 2 i 3 + 1) else σ) k
def fHeld (σ : Sg) (i : Nat) : Int32 := cI (fun h => !decide (σ 6 i h = -1)) 2
-- a ring
def cpJL (ρ : Sg) (ln : Nat → Nat) (σ : Sg) : Nat → Sg
  | 0 => σ
  | n + 1 => fCopyJ (cpJL ρ ln σ n) ρ n (ln n)
def cpTL (ρ : Sg) (σ : Sg) : Nat → Sg
  | 0 => σ
  | n + 1 => fCopyT (cpTL ρ σ n) ρ n
def fCopyR (σ ρ : Sg) (jc tc : Nat) (ln : Nat → Nat) : Sg := cpTL ρ (cpJL ρ ln (u3 (u3 (u3 σ 0 0 2 (ρ 0 0 2)) 0 0 3 (ρ 0 0 3)) 0 0 4 (ρ 0 0 4)) jc) tc
def fHasJ (σ : Sg) (x : Int32) : Int32 := if ¬ x < 0 ∧ ¬ σ 0 0 2 ≤ x then 1 else 0
def fHasT (σ : Sg) (x : Int32) : Int32 := if ¬ x < 0 ∧ ¬ σ 0 0 3 ≤ x then 1 else 0
def fAddJ (σ : Sg) (j : Nat) (sk : Int32) : Sg := u3 (fWrite (u3 σ 2 j 2 sk) j (nI j) 1 0) 0 0 2 (nI j + 1)
def fAddT (σ : Sg) (k : Nat) (kd : Int32) : Sg := u3 (u3 σ 8 k 0 kd) 0 0 3 (nI k + 1)
def fPut (σ : Sg) (k : Nat) (to : Int32) (j hd : Nat) : Sg := u3 (u3 (u3 (u3 σ 6 j hd (nI k)) 8 k 1 1) 8 k 2 to) 8 k 3 (nI hd)
/-- one thing that may come down -/
def fDown1 (σ : Sg) (k hd : Nat) : Sg := if fDown σ k (σ 0 0 4) = 1 ∧ fHasJ σ (σ 8 k 2) = 1 then (if fCan σ (σ 8 k 2).toNatClampNeg (σ 8 k 5) hd = 1 then u3 (fPut σ k (σ 8 k 2) (σ 8 k 2).toNatClampNeg hd) 2 (σ 8 k 2).toNatClampNeg 4 (σ 2 (σ 8 k 2).toNatClampNeg 4 + 1) else fMiss σ (σ 8 k 2).toNatClampNeg k) else σ
def fDown1r (σ : Sg) (k hd : Nat) : Int32 := if fDown σ k (σ 0 0 4) = 1 ∧ fHasJ σ (σ 8 k 2) = 1 ∧ ¬ fCan σ (σ 8 k 2).toNatClampNeg (σ 8 k 5) hd = 1 then 1 else 0
def dnL (hd : Nat) (σ : Sg) : Nat → Sg
  | 0 => σ
  | n + 1 => fDown1 (dnL hd σ n) n hd
def dnR (hd : Nat) (σ : Sg) : Nat → Int32
  | 0 => 0
  | n + 1 => dnR hd σ n + fDown1r (dnL hd σ n) n hd
/-- a juggler's throw in the beat b, with the pattern's place q -/
def fThrow (σ : Sg) (j q hd : Nat) : Sg := if fHasT σ (σ 6 j hd) = 1 ∧ 0 < σ 4 j q then u3 (fFly σ (σ 6 j hd).toNatClampNeg (σ 5 j q) (σ 4 j q) (σ 0 0 4)) 6 j hd (-1) else σ
def thL (b : Nat) (ln : Nat → Nat) (σ : Sg) : Nat → Sg
  | 0 => σ
  | n + 1 => fThrow (thL b ln σ n) n (b % ln n) (b % 2)
def fBeat (σ : Sg) (b jc tc : Nat) (ln : Nat → Nat) : Sg := u3 (thL b ln (dnL (b % 2) σ tc) jc) 0 0 4 (nI b + 1)
def fBeatR (σ : Sg) (b tc : Nat) : Int32 := dnR (b % 2) σ tc
def plL (b jc tc : Nat) (ln : Nat → Nat) (σ : Sg) : Nat → Sg
  | 0 => σ
  | n + 1 => fBeat (plL b jc tc ln σ n) (b + n) jc tc ln
def plR (b jc tc : Nat) (ln : Nat → Nat) (σ : Sg) : Nat → Int32
  | 0 => 0
  | n + 1 => plR b jc tc ln σ n + fBeatR (plL b jc tc ln σ n) (b + n) tc
