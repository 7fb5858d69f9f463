/-! ===== the world behind the constructors ===== -/
def M0 : Mem := fun r => match r with
  | 0 => σR
  | 1 => σR
  | _ => fun _ _ _ => 0
def lf0 : Lf := fun _ => 0
theorem Inv0 : Inv σR (fun _ _ _ => 0) (fun _ _ _ => 0) 0 0 0 (fun _ => 1) := by
  refine ⟨⟨⟨⟨by decide, by decide, rfl, rfl, fun i hi => absurd hi (Nat.not_lt_zero i)⟩, rfl, rfl, fun i hi => absurd hi (Nat.not_lt_zero i), fun i hi => absurd hi (Nat.not_lt_zero i)⟩, rfl, rfl, fun i h hi => absurd hi (Nat.not_lt_zero i), fun i hi => absurd hi (Nat.not_lt_zero i), fun i hi => absurd hi (Nat.not_lt_zero i), fun i _ _ => ⟨rfl, rfl⟩, fun _ _ _ => rfl, fun _ _ _ => ⟨rfl, rfl, rfl⟩⟩, ⟨fun i _ _ => ⟨rfl, rfl, rfl, rfl⟩, fun k _ _ => ⟨rfl, rfl, rfl, rfl, rfl⟩⟩, fun i _ _ => rfl, 0, Nat.le_refl 0, ?_⟩
  decide
/-- the context out of the addresses -/
def mkX (D : va_G) (ca : Nat → ClassId) (base : Nat) (a b : Nat → Nat → Nat) (A3 : Nat → Nat → Nat → Nat) (h o : Nat) : Cx := (D, (fun r k i => match r with | 0 => a k i | 1 => b k i | 2 => A3 2 k i | 3 => A3 3 k i | 4 => A3 4 k i | 5 => h | _ => o), ca, base)
theorem mk_wl {D : va_G} {ca : Nat → ClassId} {base : Nat} {a b : Nat → Nat → Nat} {A3 : Nat → Nat → Nat → Nat} {h o : Nat} : wl (mkX D ca base a b A3 h o) M0 lf0 = wR a ca σR ++ (wR b ca σR ++ (wQ A3 ca (fun _ _ _ => 0) ++ (wS (fun z => A3 3 z 0) (A3 2 0 0) ca (fun _ _ _ => 0) ++ (wS (fun z => A3 4 z 0) (A3 2 0 0) ca (fun _ _ _ => 0) ++ [(h, .inr (4, [.ref (a 0 0), .ref (b 0 0)])), (o, .inl (ca 3, 1, .inr (.inl (fun _ => 0))))])))) := by
  unfold wl ids
  rw [List.map_append, List.map_append, List.map_append, List.map_append, List.map_append]
  rfl
theorem mk_ok {D : va_G} {ca : Nat → ClassId} {base : Nat} {A : Nat → Prop} (hA : ∀ q, A q → base ≤ q) {a b : Nat → Nat → Nat} {A3 : Nat → Nat → Nat → Nat} {h o : Nat} (hD : va_D A (wl (mkX D ca base a b A3 h o) M0 lf0)) : Cxok (mkX D ca base a b A3 h o) := by
  have key : ∀ p, p ∈ ids → ∃ (i : Nat) (e : va_E), ids[i]? = some p ∧ (wl (mkX D ca base a b A3 h o) M0 lf0)[i]? = some (xad (mkX D ca base a b A3 h o) p, e) := by
    intro p hp
    obtain ⟨i, hi⟩ := List.getElem?_of_mem hp
    refine ⟨i, celD (mkX D ca base a b A3 h o) lf0 p.1 p.2.1 p.2.2 (M0 p.1 p.2.1 p.2.2), hi, ?_⟩
    unfold wl
    rw [List.getElem?_map, hi]
    rfl
  refine ⟨fun p hp q hq e => ?_, fun p hp => ?_⟩
  · obtain ⟨i, e1, h1, h2⟩ := key p hp
    obtain ⟨j, e2, h3, h4⟩ := key q hq
    have : i = j := hD.1 i j _ _ h2 h4 e
    subst this
    exact Option.some.inj (h1.symm.trans h3)
  · obtain ⟨i, e1, h1, h2⟩ := key p hp
    exact hA _ (hD.2 i _ h2)
section UX
variable {p : Program} {l : Launch} {e : Env} {R : Room} {s : State} {m : MethodId} {args : Array Value} {below : List Frame} {meth : Method} {c : Code} {Q : State → Prop} {D : va_G} {A : Nat → Prop} {nL : Nat} {cells slots pc : Nat} {lv : List (Nat × Value)} {st : List Value}
theorem u_swap {a b c' : va_W} (K : UU p l e R s m args below meth c Q D A nL ((a ++ c') ++ b) cells slots pc lv st) : UU p l e R s m args below meth c Q D A nL ((a ++ b) ++ c') cells slots pc lv st := fun H locs ls hP hD hS hl => K H locs ls hP.swap hD.swap hS hl
theorem u_re {w w' : va_W} (h : w = w') (K : UU p l e R s m args below meth c Q D A nL w' cells slots pc lv st) : UU p l e R s m args below meth c Q D A nL w cells slots pc lv st := h ▸ K
end UX
