/-! ===== the world of this claim: rows of ints at fixed places ===== -/
/-- a memory: part, kind, number, place -/
abbrev Mem : Type := Nat → Nat → Nat → Nat → Int32
abbrev Sg : Type := Nat → Nat → Nat → Int32
abbrev Lf : Type := Nat → Int64
/-- how fields lie, where each cell is, the arrays' types, the base -/
abbrev Cx : Type := va_G × (Nat → Nat → Nat → Nat) × (Nat → ClassId) × Nat
def celR (a : Nat → Nat → Nat) (cc : Nat → ClassId) (k i : Nat) (f : Nat → Int32) : va_E := match k with
  | 0 => .inr (2, [.ref (a 1 0), .ref (a 7 0), .int (f 2), .int (f 3), .int (f 4)])
  | 1 => .inl (cc 1, 4, .inr (.inr (.inr (.inr (fun j => some (a 2 j))))))
  | 2 => .inr (0, [.ref (a 3 i), .ref (a 6 i), .int (f 2), .int (f 3), .int (f 4)])
  | 3 => .inr (1, [.ref (a 4 i), .ref (a 5 i), .int (f 2)])
  | 4 => .inl (cc 0, 8, .inl f)
  | 5 => .inl (cc 0, 8, .inl f)
  | 6 => .inl (cc 0, 2, .inl f)
  | 7 => .inl (cc 2, 12, .inr (.inr (.inr (.inr (fun j => some (a 8 j))))))
  | _ => .inr (3, [.int (f 0), .int (f 1), .int (f 2), .int (f 3), .int (f 4), .int (f 5), .int (f 6), .int (f 7)])
def celD (X : Cx) (lf : Lf) (r k i : Nat) (f : Nat → Int32) : va_E := match r with
  | 0 => celR (X.2.1 0) X.2.2.1 k i f
  | 1 => celR (X.2.1 1) X.2.2.1 k i f
  | _ => .inr (4, [.ref (X.2.1 0 0 0), .ref (X.2.1 1 0 0)])
theorem celD_R {X : Cx} {lf : Lf} {r k i : Nat} {f : Nat → Int32} (h : r < 2) : celD X lf r k i f = celR (X.2.1 r) X.2.2.1 k i f := by
  rcases (show r = 0 ∨ r = 1 by omega) with rfl | rfl <;> rfl
abbrev Id3 : Type := Nat × Nat × Nat
def idR (r : Nat) : List Id3 := [(r, 0, 0), (r, 1, 0), (r, 7, 0), (r, 2, 0), (r, 3, 0), (r, 4, 0), (r, 5, 0), (r, 6, 0), (r, 2, 1), (r, 3, 1), (r, 4, 1), (r, 5, 1), (r, 6, 1), (r, 2, 2), (r, 3, 2), (r, 4, 2), (r, 5, 2), (r, 6, 2), (r, 2, 3), (r, 3, 3), (r, 4, 3), (r, 5, 3), (r, 6, 3), (r, 8, 0), (r, 8, 1), (r, 8, 2), (r, 8, 3), (r, 8, 4), (r, 8, 5), (r, 8, 6), (r, 8, 7), (r, 8, 8), (r, 8, 9), (r, 8, 10), (r, 8, 11)]
def ids : List Id3 := idR 0 ++ (idR 1 ++ [(5, 0, 0)])
/-- how many cells of a kind a ring has -/
def nk (k : Nat) : Nat := match k with
  | 0 => 1
  | 1 => 1
  | 7 => 1
  | 8 => 12
  | _ => 4
theorem ids_nd : ids.Nodup := by decide +kernel
theorem id_R0 : ((List.range 2).all fun r => (List.range 9).all fun k => (List.range (nk k)).all fun i => decide ((r, k, i) ∈ ids)) = true := by decide +kernel
theorem id_R {r : Nat} (hr : r < 2) {k : Nat} (hk : k < 9) {i : Nat} (hi : i < nk k) : (r, k, i) ∈ ids := of_decide_eq_true (List.all_eq_true.mp (List.all_eq_true.mp (List.all_eq_true.mp id_R0 r (List.mem_range.mpr hr)) k (List.mem_range.mpr hk)) i (List.mem_range.mpr hi))
theorem id_5 : (5, 0, 0) ∈ ids := by decide +kernel
/-- an address of a place -/
def xad (X : Cx) (q : Id3) : Nat := X.2.1 q.1 q.2.1 q.2.2
def wl (X : Cx) (M : Mem) (lf : Lf) : va_W := ids.map (fun q => (xad X q, celD X lf q.1 q.2.1 q.2.2 (M q.1 q.2.1 q.2.2)))
/-- what a context keeps to -/
def Cxok (X : Cx) : Prop := (∀ p, p ∈ ids → ∀ q, q ∈ ids → xad X p = xad X q → p = q) ∧ ∀ p, p ∈ ids → X.2.2.2 ≤ xad X p
/-- which cells a method may change: the world's, and new ones -/
def xA (X : Cx) (sz : Nat) : Nat → Prop := fun q => (∃ p, p ∈ ids ∧ q = xad X p) ∨ sz ≤ q
def xB (X : Cx) : Nat → Prop := fun q => X.2.2.2 ≤ q
theorem xA_mono {X : Cx} {a b : Nat} (h : a ≤ b) (q : Nat) (hq : xA X b q) : xA X a q := by
  rcases hq with hq | hq
  · exact Or.inl hq
  · exact Or.inr (Nat.le_trans h hq)
theorem xA_in {X : Cx} {sz r k i : Nat} (h : (r, k, i) ∈ ids) : xA X sz (X.2.1 r k i) := Or.inl ⟨_, h, rfl⟩
theorem xA_sz {X : Cx} {sz q : Nat} (h : sz ≤ q) : xA X sz q := Or.inr h
theorem xA_B {X : Cx} (hX : Cxok X) {sz : Nat} (hb : X.2.2.2 ≤ sz) (q : Nat) (h : xA X sz q) : xB X q := by
  rcases h with ⟨p, hp, rfl⟩ | h
  · exact hX.2 p hp
  · exact Nat.le_trans hb h
-- memories
def uS (σ : Sg) (k i : Nat) (f : Nat → Int32) : Sg := fun a b => if a = k ∧ b = i then f else σ a b
def uC (M : Mem) (r : Nat) (σ : Sg) : Mem := fun a => if a = r then σ else M a
def u3 (σ : Sg) (k i j : Nat) (v : Int32) : Sg := uS σ k i (upd (σ k i) j v)
theorem uC_self (M : Mem) (r : Nat) : uC M r (M r) = M := by
  funext a
  unfold uC
  by_cases h : a = r
  · rw [if_pos h, h]
  · rw [if_neg h]
theorem uC_at (M : Mem) (r : Nat) (σ : Sg) : uC M r σ r = σ := if_pos rfl
theorem uC_ne {M : Mem} {r a : Nat} {σ : Sg} (h : a ≠ r) : uC M r σ a = M a := if_neg h
theorem uC_uC (M : Mem) (r : Nat) (σ τ : Sg) : uC (uC M r σ) r τ = uC M r τ := by
  funext a
  unfold uC
  by_cases h : a = r
  · rw [if_pos h, if_pos h]
  · rw [if_neg h, if_neg h, if_neg h]
theorem uC_comm (M : Mem) {r t : Nat} (h : r ≠ t) (σ τ : Sg) : uC (uC M r σ) t τ = uC (uC M t τ) r σ := by
  funext a
  unfold uC
  by_cases h1 : a = t
  · subst h1
    rw [if_pos rfl, if_neg (Ne.symm h), if_pos rfl]
  · rw [if_neg h1, if_neg h1]
theorem uS_at (σ : Sg) (k i : Nat) (f : Nat → Int32) : uS σ k i f k i = f := if_pos ⟨rfl, rfl⟩
theorem uS_ne {σ : Sg} {k i a b : Nat} {f : Nat → Int32} (h : ¬ (a = k ∧ b = i)) : uS σ k i f a b = σ a b := if_neg h
theorem u3_eq (σ : Sg) (k i j : Nat) (v : Int32) (a b c : Nat) : u3 σ k i j v a b c = if a = k ∧ b = i ∧ c = j then v else σ a b c := by
  unfold u3 uS upd
  by_cases h : a = k ∧ b = i
  · rw [if_pos h]
    obtain ⟨h1, h2⟩ := h
    subst h1; subst h2
    by_cases h3 : c = j
    · rw [if_pos h3, if_pos ⟨rfl, rfl, h3⟩]
    · rw [if_neg h3, if_neg (fun z => h3 z.2.2)]
  · rw [if_neg h, if_neg (fun z => h ⟨z.1, z.2.1⟩)]
theorem u3_at (σ : Sg) (k i j : Nat) (v : Int32) : u3 σ k i j v k i j = v := by rw [u3_eq, if_pos ⟨rfl, rfl, rfl⟩]
theorem u3_ne {σ : Sg} {k i j a b c : Nat} {v : Int32} (h : ¬ (a = k ∧ b = i ∧ c = j)) : u3 σ k i j v a b c = σ a b c := by rw [u3_eq, if_neg h]
theorem u3_uC (M : Mem) (r : Nat) (σ : Sg) (k i : Nat) (f : Nat → Int32) : uC (uC M r σ) r (uS ((uC M r σ) r) k i f) = uC M r (uS σ k i f) := by rw [uC_uC, uC_at]
theorem wl_get {X : Cx} {M : Mem} {lf : Lf} {ex : va_W} {r k i : Nat} (h : (r, k, i) ∈ ids) : ∃ q0 : Nat, ids[q0]? = some (r, k, i) ∧ (wl X M lf ++ ex)[q0]? = some (X.2.1 r k i, celD X lf r k i (M r k i)) := by
  obtain ⟨q0, h0⟩ := List.getElem?_of_mem h
  refine ⟨q0, h0, ?_⟩
  have hl : q0 < (wl X M lf).length := by
    unfold wl
    rw [List.length_map]
    exact (List.getElem?_eq_some_iff.mp h0).1
  rw [List.getElem?_append_left hl]
  unfold wl
  rw [List.getElem?_map, h0]
  rfl
theorem wl_set {X : Cx} {M : Mem} {lf : Lf} {ex : va_W} {r k i q0 : Nat} (h0 : ids[q0]? = some (r, k, i)) (f : Nat → Int32) :
    (wl X M lf ++ ex).set q0 (X.2.1 r k i, celD X lf r k i f) = wl X (uC M r (uS (M r) k i f)) lf ++ ex := by
  have hl0 : q0 < ids.length := (List.getElem?_eq_some_iff.mp h0).1
  have hl : q0 < (wl X M lf).length := by
    unfold wl
    rw [List.length_map]
    exact hl0
  rw [List.set_append_left _ _ hl]
  congr 1
  apply List.ext_getElem?
  intro j
  unfold wl
  by_cases hj : j = q0
  · subst hj
    rw [List.getElem?_set_self (by rw [List.length_map]; exact hl0), List.getElem?_map, h0]
    show some _ = some (xad X (r, k, i), celD X lf r k i (uC M r (uS (M r) k i f) r k i))
    rw [uC_at, uS_at]
    rfl
  · rw [List.getElem?_set_ne (Ne.symm hj), List.getElem?_map, List.getElem?_map]
    cases hq : ids[j]? with
    | none => rfl
    | some q =>
      obtain ⟨a, b, c⟩ := q
      have hne : ¬ (a = r ∧ b = k ∧ c = i) := by
        rintro ⟨rfl, rfl, rfl⟩
        exact hj ((List.getElem?_inj (List.getElem?_eq_some_iff.mp hq).1 ids_nd).mp (hq.trans h0.symm))
      show some (xad X (a, b, c), celD X lf a b c (M a b c)) = some (xad X (a, b, c), celD X lf a b c (uC M r (uS (M r) k i f) a b c))
      have e : uC M r (uS (M r) k i f) a b c = M a b c := by
        by_cases ha : a = r
        · subst ha
          rw [uC_at]
          exact uS_ne (fun z => hne ⟨rfl, z.1, z.2⟩)
        · rw [uC_ne ha]
      rw [e]
theorem wl_addr {X : Cx} {M : Mem} {lf : Lf} {j : Nat} {q : Nat × va_E} (h : (wl X M lf)[j]? = some q) : ∃ p, ids[j]? = some p ∧ q.1 = xad X p := by
  unfold wl at h
  rw [List.getElem?_map] at h
  cases hp : ids[j]? with
  | none => rw [hp] at h; cases h
  | some p => rw [hp] at h; cases h; exact ⟨p, rfl, rfl⟩
/-- the world's addresses are apart -/
theorem wl_D {X : Cx} (hX : Cxok X) (M : Mem) (lf : Lf) (sz : Nat) : va_D (xA X sz) (wl X M lf) := by
  refine ⟨fun i j p q hi hj hpq => ?_, fun k q hk => ?_⟩
  · obtain ⟨a, ha, e1⟩ := wl_addr hi
    obtain ⟨b, hb, e2⟩ := wl_addr hj
    have hab : a = b := hX.1 a (List.mem_of_getElem? ha) b (List.mem_of_getElem? hb) (by rw [← e1, ← e2]; exact hpq)
    subst hab
    exact (List.getElem?_inj (List.getElem?_eq_some_iff.mp ha).1 ids_nd).mp (ha.trans hb.symm)
  · obtain ⟨p, hp, e⟩ := wl_addr hk
    exact Or.inl ⟨p, List.mem_of_getElem? hp, e⟩
/-- with further cells beside it -/
def exOk (X : Cx) (sz : Nat) (ex : va_W) : Prop := va_D (fun q => sz ≤ q) ex ∧ ∀ (k : Nat) (q : Nat × va_E), ex[k]? = some q → ∀ p, p ∈ ids → q.1 ≠ xad X p
theorem exOk_nil {X : Cx} {sz : Nat} : exOk X sz [] := ⟨⟨fun i j p q h => by simp at h, fun k q h => by simp at h⟩, fun k q h => by simp at h⟩
theorem wl_DE {X : Cx} (hX : Cxok X) (M : Mem) (lf : Lf) {sz : Nat} {ex : va_W} (he : exOk X sz ex) : va_D (xA X sz) (wl X M lf ++ ex) := by
  refine va_D.app (wl_D hX M lf sz) (he.1.weaken (fun _ _ _ h => Or.inr h)) (fun i j p q hi hj => ?_)
  obtain ⟨a, ha, e1⟩ := wl_addr hi
  rw [e1]
  exact fun z => he.2 j q hj a (List.mem_of_getElem? ha) z.symm
