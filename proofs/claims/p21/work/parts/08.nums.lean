/-! ===== numbers ===== -/
theorem iinc_m1 (x : Int32) : x + Int32.ofInt (-1) = x - 1 := by
  rw [Int32.sub_eq_add_neg]
  rfl
theorem iinc_1 (x : Int32) : x + Int32.ofInt 1 = x + 1 := rfl
theorem xorI (a b : Nat) : nI a ^^^ nI b = nI (a ^^^ b) := by
  apply Int32.toBitVec_inj.1
  show BitVec.ofNat 32 a ^^^ BitVec.ofNat 32 b = BitVec.ofNat 32 (a ^^^ b)
  apply BitVec.eq_of_getLsbD_eq
  intro i hi
  simp [hi]
theorem xor_pos {a b : Nat} (ha : a < 2 ^ 31) (hb : b < 2 ^ 31) : 0 ≤ nI a ^^^ nI b := by
  rw [xorI]
  exact nI_pos' (Nat.xor_lt_two_pow ha hb)
theorem cle {x : Int32} {a b : Nat} (hx : x = nI a) (h : a ≤ b) (hb : b < 2 ^ 31) : x ≤ nI b := by
  rw [hx]; exact nI_le h hb
theorem nI_lt0 {x : Int32} (h : ¬ x < 0) : x = nI x.toNatClampNeg := by
  obtain ⟨j, hj, rfl⟩ := nI_of h
  rw [nI_clamp hj]
theorem Ix_of {x : Int32} {n : Nat} (h0 : ¬ x < 0) (h1 : ¬ nI n ≤ x) (hn : n < 2 ^ 31) : Ix x x.toNatClampNeg n := by
  obtain ⟨j, hj, rfl⟩ := nI_of h0
  have : j < n := by
    rcases Nat.lt_or_ge j n with q | q
    · exact q
    · exact absurd (nI_le q hj) h1
  exact ⟨h0, rfl, by rw [nI_clamp hj]; exact this⟩
theorem Ix_mono {x : Int32} {j a b : Nat} (h : Ix x j a) (hab : a ≤ b) : Ix x j b := ⟨h.1, h.2.1, Nat.lt_of_lt_of_le h.2.2 hab⟩
/-- a method of a class of which other methods are run by entries of the machine's own -/
theorem Met_ofWF {l : Launch} {y : MethodName} {ws ws' : List Cond} {rm : Room} {Pc : Array Value → State → Prop} {Qc : Array Value → State → Outcome → State → Prop} {mc ms : Nat} {free : Addr → Prop} {cc : ByteArray} {maxL : Nat} {ret : Option FieldType}
    (hy : plainFor y = true) (hw : ws = Cond.code y cc maxL ret :: ws')
    (body : ∀ p e s m args below meth c s₁, BodyLoose p l y (headSpec ws rm) cc maxL ret e s m args below meth c s₁ → c.maxLocals = maxL → Pc args s →
      W p l e (headSpec ws rm).room s m args below meth c s.heap [] 0 0 (MQ below Qc args s mc ms free) (entryFrame m args maxL)) : Met l y ws rm Pc Qc mc ms free := by
  refine MetFree.of_bodySF (code := cc) (maxLocals := maxL) (ret := ret) hy ?_ ?_
  · intro args s m h hn
    obtain ⟨meth, c, h1, h2, h3, h4, h5, h6, -, -⟩ := Cond.code_spec hn (atoms_spec (ws := ws) h _ (by rw [hw]; exact List.mem_cons_self))
    exact ⟨meth, c, h1, h2, h3, h4, h5, h6⟩
  · intro p e s m args below meth c s₁ B hml hP _
    have hh0 : s₁.heap = s.heap := by rw [B.state]; rfl
    obtain ⟨t, a1, o, b1, b2, b3⟩ := body p e s m args below meth c s₁ B hml hP s₁ hh0 (Stand.of_body B)
    exact ⟨t, o, a1, b1, b2, ⟨b3.1, b3.2⟩⟩
theorem CI_ofF {X : Cx} {l : Launch} {y : MethodName} {cc : ByteArray} {nL : Nat} {rm : Room} {av : List Value} {M M' : Mem} {lf lf' : Lf} {mc ms : Nat} {lv : List (Nat × Value)} {ty : FieldType} {r : Int32} (G : Gx X l) (hy : plainFor y = true) (hn : (lg_sl av).length ≤ nL) (hlv : lv_args 0 av = lv)
    (body : ∀ p e s m args below meth c, Fx p l s m args meth c cc nL y.cls X → meth.sig.returnType = some ty → V p l e rm s m args below meth c (QI X below args s r M' lf' mc ms) X nL [] M lf 0 0 0 lv []) : CI X l y (wsc y cc nL (some ty)) rm av M lf r M' lf' mc ms := by
  intro sz
  refine Met_ofWF (cc := cc) (maxL := nL) (ret := some ty) hy rfl ?_
  intro p e s m args below meth c s₁ B hml hv
  obtain ⟨rfl, hsz, hK, hP⟩ := hv
  subst hsz
  have h := body p e s m _ below meth c (Fx_of G B hml hK) B.returns
  rw [lg_entry_eq]
  exact h s.heap [] _ (by rw [List.append_nil]; exact hP) exOk_nil va_S.rf (hlv ▸ lv_entry av hn)
section VJ
variable {p : Program} {l : Launch} {e : Env} {R : Room} {s : State} {m : MethodId} {args : Array Value} {below : List Frame} {meth : Method} {c : Code} {Q : State → Prop} {X : Cx} {nL : Nat} {ex : va_W} {M : Mem} {lf : Lf} {cells slots pc : Nat} {lv : List (Nat × Value)} {st : List Value} {cc : ByteArray} {own : String}
theorem v_aaldJ (F : Fx p l s m args meth c cc nL own X) {r : Nat} (hr : r < 2) {x : Int32} (j : Nat) (hx : Ix x j 4) (hdg : decode cc pc = .ok (.aaload, 1)) (K : V p l e R s m args below meth c Q X nL ex M lf cells slots (pc + 1) lv (.ref (X.2.1 r 2 j) :: st)) : V p l e R s m args below meth c Q X nL ex M lf cells slots pc lv (.int x :: .ref (X.2.1 r 1 0) :: st) :=
  v_aald F (t0 := 1) (n := 4) (f := fun j => some (X.2.1 r 2 j)) (id_R hr (by decide) (by decide)) (celD_R hr) rfl j hx rfl hdg K
theorem v_aaldT (F : Fx p l s m args meth c cc nL own X) {r : Nat} (hr : r < 2) {x : Int32} (j : Nat) (hx : Ix x j 12) (hdg : decode cc pc = .ok (.aaload, 1)) (K : V p l e R s m args below meth c Q X nL ex M lf cells slots (pc + 1) lv (.ref (X.2.1 r 8 j) :: st)) : V p l e R s m args below meth c Q X nL ex M lf cells slots pc lv (.int x :: .ref (X.2.1 r 7 0) :: st) :=
  v_aald F (t0 := 2) (n := 12) (f := fun j => some (X.2.1 r 8 j)) (id_R hr (by decide) (by decide)) (celD_R hr) rfl j hx rfl hdg K
theorem v_gen {r : Nat} {σ : Sg} (K : ∀ τ : Sg, τ = σ → V p l e R s m args below meth c Q X nL ex (uC M r τ) lf cells slots pc lv st) : V p l e R s m args below meth c Q X nL ex (uC M r σ) lf cells slots pc lv st := K σ rfl
end VJ
