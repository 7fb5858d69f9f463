/-! ===== methods with handlers ===== -/
abbrev wsh (y : MethodName) (cc : ByteArray) (n : Nat) (ret : Option FieldType) (hh : List (Nat × Nat × Nat × Nat)) : List Cond := .codeWith y cc n ret hh :: wAll
theorem CI_ofH {X : Cx} {l : Launch} {y : MethodName} {cc : ByteArray} {nL : Nat} {rm : Room} {av : List Value} {M M' : Mem} {lf lf' : Lf} {mc ms : Nat} {lv : List (Nat × Value)} {ty : FieldType} {r : Int32} {hh : List (Nat × Nat × Nat × Nat)} (G : Gx X l) (hy : plainName y.cls = true) (hn : (lg_sl av).length ≤ nL) (hlv : lv_args 0 av = lv)
    (body : ∀ p e s m args below meth c, Fx p l s m args meth c cc nL y.cls X → meth.sig.returnType = some ty → c.exceptionTable.toList = tableOf hh → V p l e rm s m args below meth c (QI X below args s r M' lf' mc ms) X nL [] M lf 0 0 0 lv []) : CI X l y (wsh y cc nL (some ty) hh) rm av M lf r M' lf' mc ms := by
  intro sz
  refine MetFree.of_bodyS (code := cc) (maxLocals := nL) (ret := some ty) hy ?_ ?_
  · intro args s m h hn
    obtain ⟨m9, meth, c, hn9, h1, h2, h3, h4, -, h5, h6, -⟩ := Cond.codeWith_spec (atoms_spec (ws := wsh y cc nL (some ty) hh) h _ List.mem_cons_self)
    cases hn.symm.trans hn9
    exact ⟨meth, c, h1, h2, h3, h4, h5, h6⟩
  · intro p e s m args below meth c s₁ B hml hP _
    have hcw : (Cond.codeWith y cc nL (some ty) hh).before args s = true := atoms_spec (ws := wsh y cc nL (some ty) hh) B.pre _ List.mem_cons_self
    have hml2 : c.maxLocals = nL := hml
    have hh0 : s₁.heap = s.heap := by rw [B.state]; rfl
    obtain ⟨rfl, hsz, hK, hPw⟩ := hP
    subst hsz
    have h := body p e s m _ below meth c (Fx_of G B hml2 hK) B.returns (vx_table (x := y) B hcw) s.heap [] _ (by rw [List.append_nil]; exact hPw) exOk_nil va_S.rf (hlv ▸ lv_entry av hn)
    rw [← lg_entry_eq] at h
    obtain ⟨t, a1, o, b1, b2, b3⟩ := h s₁ hh0 (Stand.of_body B)
    exact ⟨t, o, a1, b1, b2, b3⟩
theorem wcl_L_13 : Cond.classLink RL 13 "java/lang/IllegalArgumentException" ∈ wAll := wAll_in (i := 328) (by decide +kernel) (by decide +kernel)
theorem wcl_L_15 : Cond.classLink RL 15 "java/lang/IllegalStateException" ∈ wAll := wAll_in (i := 329) (by decide +kernel) (by decide +kernel)
theorem wcl_L_21 : Cond.classLink RL 21 "java/lang/IndexOutOfBoundsException" ∈ wAll := wAll_in (i := 429) (by decide +kernel) (by decide +kernel)
theorem wca_a : Cond.castable "java/lang/IllegalArgumentException" "java/lang/IllegalArgumentException" ∈ badW := bad_in (i := 283) (by decide +kernel) rfl
theorem wca_s : Cond.castable "java/lang/IllegalStateException" "java/lang/IllegalStateException" ∈ badW := bad_in (i := 351) (by decide +kernel) rfl
theorem wca_i : Cond.castable "java/lang/IndexOutOfBoundsException" "java/lang/IndexOutOfBoundsException" ∈ badW := bad_in (i := 388) (by decide +kernel) rfl
section VH
variable {p : Program} {l : Launch} {e : Env} {R : Room} {s : State} {m : MethodId} {args : Array Value} {below : List Frame} {meth : Method} {c : Code} {Q : State → Prop} {X : Cx} {nL : Nat} {ex : va_W} {M : Mem} {lf : Lf} {cells slots pc : Nat} {lv : List (Nat × Value)} {rest : List Value} {cc : ByteArray} {own : String}
theorem v_catch (F : Fx p l s m args meth c cc nL own X) {E name : String} {hh : List (Nat × Nat × Nat × Nat)} (htab : c.exceptionTable.toList = tableOf hh) (pre : List ExceptionTableEntry) (x : ExceptionTableEntry) (suf : List ExceptionTableEntry) (hsplit : tableOf hh = pre ++ x :: suf)
    (hpass : ∀ z ∈ pre, covers z pc = false ∨ (z.catchType ≠ 0 ∧ ∃ nm : String, Cond.classLink own z.catchType nm ∈ wAll ∧ (E, nm) ∈ ncW)) (hx : covers x pc = true) (h0 : x.catchType ≠ 0) (hlink : Cond.classLink own x.catchType name ∈ wAll) (hcast : Cond.castable E name ∈ badW)
    (H1 : Heap) (locs1 : List Loc) (ls : Array Slot) (ce : Cell) (q9 : Addr) (hP : va_P X.1 vwCl (wl X M lf ++ ex) H1) (hE : exOk X s.heap.size ex) (hS : va_S (xA X s.heap.size) s.heap H1 locs1) (hl : lv_has ls nL lv) (h9 : H1[q9]? = some ce) (hv9 : ce.vm = .none) (hc9 : s.vm.findClass E = some ce.cls)
    (K : V p l e R s m args below meth c Q X nL ex M lf cells slots x.handlerPc lv [.ref q9]) : vx_W p l e R s m args below meth c H1 locs1 cells slots Q (F0 m pc ls rest) q9 := by
  refine vx_catch (E := E) (name := name) (own := own) F.1.2.2.2.1 pre x suf (htab.trans hsplit) (fun z hz => ?_) hx h0 (F.1.2.2.2.2 _ hlink) (va_Nw.use (bad_tab _ hcast) (F.2.1.2.2.2.2.1 _ hcast)) h9 hv9 hc9 (K H1 locs1 ls hP hE hS hl)
  rcases hpass z hz with h | ⟨h1, nm, h2, h3⟩
  · exact Or.inl h
  · exact Or.inr ⟨h1, nm, F.1.2.2.2.2 _ h2, F.2.1.2.2.2.2.2.1 _ h3⟩
end VH
