/-! ===== contracts over memories, and calls ===== -/
abbrev Gx (X : Cx) (l : Launch) : Prop := Cxok X ∧ l.stackTraces = false
def PreW (X : Cx) (M : Mem) (lf : Lf) (sz : Nat) : State → Prop := fun U => U.heap.size = sz ∧ Kz X U ∧ va_P X.1 vwCl (wl X M lf) U.heap
def EndW (X : Cx) (M : Mem) (lf : Lf) : Unit → State → Prop := fun _ t => va_P X.1 vwCl (wl X M lf) t.heap
/-- a method that answers an int r, and leaves the memory M' -/
def CI (X : Cx) (l : Launch) (y : MethodName) (ws : List Cond) (rm : Room) (av : List Value) (M : Mem) (lf : Lf) (r : Int32) (M' : Mem) (lf' : Lf) (mc ms : Nat) : Prop := ∀ sz : Nat, Met l y ws rm (va_Pc av (PreW X M lf sz)) (va_Qi (fun (x : Int32) (_ : Unit) => x = r) (EndW X M' lf') (xA X sz)) mc ms (xA X sz)
def CL (X : Cx) (l : Launch) (y : MethodName) (ws : List Cond) (rm : Room) (av : List Value) (M : Mem) (lf : Lf) (r : Int64) (M' : Mem) (lf' : Lf) (mc ms : Nat) : Prop := ∀ sz : Nat, Met l y ws rm (va_Pc av (PreW X M lf sz)) (va_Ql (fun (x : Int64) (_ : Unit) => x = r) (EndW X M' lf') (xA X sz)) mc ms (xA X sz)
def CD (X : Cx) (l : Launch) (y : MethodName) (ws : List Cond) (rm : Room) (av : List Value) (M : Mem) (lf : Lf) (r : UInt64) (M' : Mem) (lf' : Lf) (mc ms : Nat) : Prop := ∀ sz : Nat, Met l y ws rm (va_Pc av (PreW X M lf sz)) (va_Qd (fun (x : UInt64) (_ : Unit) => x = r) (EndW X M' lf') (xA X sz)) mc ms (xA X sz)
def CV (X : Cx) (l : Launch) (y : MethodName) (ws : List Cond) (rm : Room) (av : List Value) (M : Mem) (lf : Lf) (M' : Mem) (lf' : Lf) (mc ms : Nat) : Prop := ∀ sz : Nat, Met l y ws rm (va_Pc av (PreW X M lf sz)) (va_Qv (fun (_ : Unit) => True) (EndW X M' lf') (xA X sz)) mc ms (xA X sz)
def XCw (X : Cx) (M : Mem) (lf : Lf) (E : String) (sz : Nat) : String → State → State → Prop := vx_X (fun (_ : Unit) => True) (fun E' _ t => E' = E ∧ va_P X.1 vwCl (wl X M lf) t.heap) (xA X sz)
/-- a method that throws an E, and leaves the memory as it was -/
def CXi (X : Cx) (l : Launch) (y : MethodName) (ws : List Cond) (rm : Room) (av : List Value) (M : Mem) (lf : Lf) (E : String) (mc ms : Nat) : Prop := ∀ sz : Nat, vx_Met l y ws rm (va_Pc av (PreW X M lf sz)) (va_Qi (fun (_ : Int32) (_ : Unit) => False) (EndW X M lf) (xA X sz)) (XCw X M lf E sz) mc ms (xA X sz)
def CXv (X : Cx) (l : Launch) (y : MethodName) (ws : List Cond) (rm : Room) (av : List Value) (M : Mem) (lf : Lf) (E : String) (mc ms : Nat) : Prop := ∀ sz : Nat, vx_Met l y ws rm (va_Pc av (PreW X M lf sz)) (va_Qv (fun (_ : Unit) => False) (EndW X M lf) (xA X sz)) (XCw X M lf E sz) mc ms (xA X sz)
abbrev QI (X : Cx) (below : List Frame) (args : Array Value) (s : State) (r : Int32) (M' : Mem) (lf' : Lf) (mc ms : Nat) : State → Prop := MQ below (va_Qi (fun (x : Int32) (_ : Unit) => x = r) (EndW X M' lf') (xA X s.heap.size)) args s mc ms (xA X s.heap.size)
abbrev QL (X : Cx) (below : List Frame) (args : Array Value) (s : State) (r : Int64) (M' : Mem) (lf' : Lf) (mc ms : Nat) : State → Prop := MQ below (va_Ql (fun (x : Int64) (_ : Unit) => x = r) (EndW X M' lf') (xA X s.heap.size)) args s mc ms (xA X s.heap.size)
abbrev QD (X : Cx) (below : List Frame) (args : Array Value) (s : State) (r : UInt64) (M' : Mem) (lf' : Lf) (mc ms : Nat) : State → Prop := MQ below (va_Qd (fun (x : UInt64) (_ : Unit) => x = r) (EndW X M' lf') (xA X s.heap.size)) args s mc ms (xA X s.heap.size)
abbrev QV (X : Cx) (below : List Frame) (args : Array Value) (s : State) (M' : Mem) (lf' : Lf) (mc ms : Nat) : State → Prop := MQ below (va_Qv (fun (_ : Unit) => True) (EndW X M' lf') (xA X s.heap.size)) args s mc ms (xA X s.heap.size)
abbrev QXi (X : Cx) (below : List Frame) (args : Array Value) (s : State) (M : Mem) (lf : Lf) (E : String) (mc ms : Nat) : State → Prop := vx_MQ below (va_Qi (fun (_ : Int32) (_ : Unit) => False) (EndW X M lf) (xA X s.heap.size)) (XCw X M lf E s.heap.size) args s mc ms (xA X s.heap.size)
abbrev QXv (X : Cx) (below : List Frame) (args : Array Value) (s : State) (M : Mem) (lf : Lf) (E : String) (mc ms : Nat) : State → Prop := vx_MQ below (va_Qv (fun (_ : Unit) => False) (EndW X M lf) (xA X s.heap.size)) (XCw X M lf E s.heap.size) args s mc ms (xA X s.heap.size)
theorem PreW_blind {X : Cx} {M : Mem} {lf : Lf} {sz : Nat} {av : List Value} : FrameBlind (va_Pc av (PreW X M lf sz)) := fun a U g mk q => ⟨q.1, q.2.1, Kz_same (u := U) rfl rfl q.2.2.1, q.2.2.2⟩
theorem va_P_spl {D : va_G} {cl : List vw_C} {a b : va_W} {H : Heap} (h : va_P D cl (a ++ b) H) : va_P D cl a H ∧ va_P D cl b H := by
  refine ⟨fun k q hk => h k q ?_, fun k q hk => h (a.length + k) q ?_⟩
  · rw [List.getElem?_append_left (List.getElem?_eq_some_iff.mp hk).1]; exact hk
  · rw [List.getElem?_append_right (Nat.le_add_right _ _), Nat.add_sub_cancel_left]; exact hk
section BD
variable {X : Cx} {l : Launch} {y : MethodName} {cc : ByteArray} {nL : Nat} {rm : Room} {av : List Value} {M M' : Mem} {lf lf' : Lf} {mc ms : Nat} {lv : List (Nat × Value)}
theorem Fx_of {p : Program} {e : Env} {s s₁ : State} {m : MethodId} {args : Array Value} {below : List Frame} {meth : Method} {c : Code} {ret : Option FieldType} {c0 : Cond} (G : Gx X l) (B : BodyLoose p l y (headSpec (c0 :: wAll) rm) cc nL ret e s m args below meth c s₁) (hml : c.maxLocals = nL) (hK : Kz X s) : Fx p l s m args meth c cc nL y.cls X := ⟨⟨B.exec, B.bytes, hml, findClass_of_methodNamed B.named, fun w hw => atoms_spec (ws := c0 :: wAll) B.pre w (List.mem_cons_of_mem _ hw)⟩, hK, G.1, B.notSynchronized, G.2⟩
theorem CI_of {ty : FieldType} {r : Int32} (G : Gx X l) (hy : plainName y.cls = true) (hn : (lg_sl av).length ≤ nL) (hlv : lv_args 0 av = lv)
    (body : ∀ p e s m args below meth c, Fx p l s m args meth c cc nL y.cls X → meth.sig.returnType = some ty → V p l e rm s m args below meth c (QI X below args s r M' lf' mc ms) X nL [] M lf 0 0 0 lv []) : CI X l y (wsc y cc nL (some ty)) rm av M lf r M' lf' mc ms := by
  intro sz
  refine Met.ofW (cc := cc) (maxL := nL) (ret := some ty) hy rfl ?_
  intro p e s m args below meth c s₁ B hml hv
  obtain ⟨rfl, hsz, hK, hP⟩ := hv
  subst hsz
  have h := body p e s m _ below meth c (Fx_of G B hml hK) B.returns
  rw [lg_entry_eq]
  exact h s.heap [] _ (by rw [List.append_nil]; exact hP) exOk_nil va_S.rf (hlv ▸ lv_entry av hn)
theorem CL_of {ty : FieldType} {r : Int64} (G : Gx X l) (hy : plainName y.cls = true) (hn : (lg_sl av).length ≤ nL) (hlv : lv_args 0 av = lv)
    (body : ∀ p e s m args below meth c, Fx p l s m args meth c cc nL y.cls X → meth.sig.returnType = some ty → V p l e rm s m args below meth c (QL X below args s r M' lf' mc ms) X nL [] M lf 0 0 0 lv []) : CL X l y (wsc y cc nL (some ty)) rm av M lf r M' lf' mc ms := by
  intro sz
  refine Met.ofW (cc := cc) (maxL := nL) (ret := some ty) hy rfl ?_
  intro p e s m args below meth c s₁ B hml hv
  obtain ⟨rfl, hsz, hK, hP⟩ := hv
  subst hsz
  have h := body p e s m _ below meth c (Fx_of G B hml hK) B.returns
  rw [lg_entry_eq]
  exact h s.heap [] _ (by rw [List.append_nil]; exact hP) exOk_nil va_S.rf (hlv ▸ lv_entry av hn)
theorem CD_of {ty : FieldType} {r : UInt64} (G : Gx X l) (hy : plainName y.cls = true) (hn : (lg_sl av).length ≤ nL) (hlv : lv_args 0 av = lv)
    (body : ∀ p e s m args below meth c, Fx p l s m args meth c cc nL y.cls X → meth.sig.returnType = some ty → V p l e rm s m args below meth c (QD X below args s r M' lf' mc ms) X nL [] M lf 0 0 0 lv []) : CD X l y (wsc y cc nL (some ty)) rm av M lf r M' lf' mc ms := by
  intro sz
  refine Met.ofW (cc := cc) (maxL := nL) (ret := some ty) hy rfl ?_
  intro p e s m args below meth c s₁ B hml hv
  obtain ⟨rfl, hsz, hK, hP⟩ := hv
  subst hsz
  have h := body p e s m _ below meth c (Fx_of G B hml hK) B.returns
  rw [lg_entry_eq]
  exact h s.heap [] _ (by rw [List.append_nil]; exact hP) exOk_nil va_S.rf (hlv ▸ lv_entry av hn)
theorem CV_of (G : Gx X l) (hy : plainName y.cls = true) (hn : (lg_sl av).length ≤ nL) (hlv : lv_args 0 av = lv)
    (body : ∀ p e s m args below meth c, Fx p l s m args meth c cc nL y.cls X → meth.sig.returnType = none → V p l e rm s m args below meth c (QV X below args s M' lf' mc ms) X nL [] M lf 0 0 0 lv []) : CV X l y (wsc y cc nL none) rm av M lf M' lf' mc ms := by
  intro sz
  refine Met.ofW (cc := cc) (maxL := nL) (ret := none) hy rfl ?_
  intro p e s m args below meth c s₁ B hml hv
  obtain ⟨rfl, hsz, hK, hP⟩ := hv
  subst hsz
  have h := body p e s m _ below meth c (Fx_of G B hml hK) B.returns
  rw [lg_entry_eq]
  exact h s.heap [] _ (by rw [List.append_nil]; exact hP) exOk_nil va_S.rf (hlv ▸ lv_entry av hn)
theorem CXi_of {ty : FieldType} {E : String} (G : Gx X l) (hy : plainName y.cls = true) (hn : (lg_sl av).length ≤ nL) (hlv : lv_args 0 av = lv)
    (body : ∀ p e s m args below meth c, Fx p l s m args meth c cc nL y.cls X → (∀ x ∈ c.exceptionTable.toList, False) → V p l e rm s m args below meth c (QXi X below args s M lf E mc ms) X nL [] M lf 0 0 0 lv []) : CXi X l y (wsc y cc nL (some ty)) rm av M lf E mc ms := by
  intro sz
  refine vx_ofW (cc := cc) (maxL := nL) (ret := some ty) hy rfl ?_
  intro p e s m args below meth c s₁ B hml hxt hv
  obtain ⟨rfl, hsz, hK, hP⟩ := hv
  subst hsz
  have h := body p e s m _ below meth c (Fx_of G B hml hK) hxt
  rw [lg_entry_eq]
  exact h s.heap [] _ (by rw [List.append_nil]; exact hP) exOk_nil va_S.rf (hlv ▸ lv_entry av hn)
theorem CXv_of {E : String} (G : Gx X l) (hy : plainName y.cls = true) (hn : (lg_sl av).length ≤ nL) (hlv : lv_args 0 av = lv)
    (body : ∀ p e s m args below meth c, Fx p l s m args meth c cc nL y.cls X → (∀ x ∈ c.exceptionTable.toList, False) → V p l e rm s m args below meth c (QXv X below args s M lf E mc ms) X nL [] M lf 0 0 0 lv []) : CXv X l y (wsc y cc nL none) rm av M lf E mc ms := by
  intro sz
  refine vx_ofW (cc := cc) (maxL := nL) (ret := none) hy rfl ?_
  intro p e s m args below meth c s₁ B hml hxt hv
  obtain ⟨rfl, hsz, hK, hP⟩ := hv
  subst hsz
  have h := body p e s m _ below meth c (Fx_of G B hml hK) hxt
  rw [lg_entry_eq]
  exact h s.heap [] _ (by rw [List.append_nil]; exact hP) exOk_nil va_S.rf (hlv ▸ lv_entry av hn)
end BD
/-- the receiver: an object of the class C in the world -/
def Rv (X : Cx) (b : Nat) (C : String) : Prop := ∃ (r k i ci : Nat) (q : vw_C), b = X.2.1 r k i ∧ (r, k, i) ∈ ids ∧ vwCl[ci]? = some q ∧ q.1 = C ∧ ∀ (lf : Lf) (f : Nat → Int32), ∃ fs, celD X lf r k i f = .inr (ci, fs)
theorem Rv_R {X : Cx} {r : Nat} (hr : r < 2) : Rv X (X.2.1 r 0 0) RX2 := ⟨r, 0, 0, 2, (RX2, TX2, 5), rfl, id_R hr (by decide) (by decide), rfl, rfl, fun lf f => ⟨_, celD_R hr⟩⟩
theorem Rv_J {X : Cx} {r i : Nat} (hr : r < 2) (hi : i < 4) : Rv X (X.2.1 r 2 i) RX0 := ⟨r, 2, i, 0, (RX0, TX0, 5), rfl, id_R hr (by decide) hi, rfl, rfl, fun lf f => ⟨_, celD_R hr⟩⟩
theorem Rv_P {X : Cx} {r i : Nat} (hr : r < 2) (hi : i < 4) : Rv X (X.2.1 r 3 i) RX1 := ⟨r, 3, i, 1, (RX1, TX1, 3), rfl, id_R hr (by decide) hi, rfl, rfl, fun lf f => ⟨_, celD_R hr⟩⟩
theorem Rv_T {X : Cx} {r i : Nat} (hr : r < 2) (hi : i < 12) : Rv X (X.2.1 r 8 i) RX3 := ⟨r, 8, i, 3, (RX3, TX3, 8), rfl, id_R hr (by decide) hi, rfl, rfl, fun lf f => ⟨_, celD_R hr⟩⟩
theorem Rv_H {X : Cx} : Rv X (X.2.1 5 0 0) RX4 := ⟨5, 0, 0, 4, (RX4, TX4, 2), rfl, id_5, rfl, rfl, fun lf f => ⟨_, rfl⟩⟩
theorem Rv_cell {X : Cx} {b : Nat} {C : String} {M : Mem} {lf : Lf} {H : Heap} {s : State} (h : Rv X b C) (hK : va_K X.1 vwCl (tysX X) s) (hP : va_P X.1 vwCl (wl X M lf) H) : ∃ cell : Cell, H[b]? = some cell ∧ cell.vm.isStatics = false ∧ s.vm.findClass C = some cell.cls := by
  obtain ⟨r, k, i, ci, q, rfl, hid, hc, rfl, hf⟩ := h
  obtain ⟨fs, he⟩ := hf lf (M r k i)
  obtain ⟨q0, h0, hq⟩ := wl_get (X := X) (M := M) (lf := lf) (ex := []) hid
  rw [he, List.append_nil] at hq
  exact va_recv hK hP hc hq
/-- the words of a call: of an instance method by its own class; of a nest mate's; of a static one -/
def Wv (own : String) (index : Nat) (C : String) (y : MethodName) (bytes : ByteArray) (maxL : Nat) (ret : Option FieldType) (n : Nat) : Prop := (y.cls = C ∧ y.cls ≠ "java/lang/invoke/MethodHandle" ∧ y.cls ≠ "java/lang/invoke/VarHandle" ∧ (parseMethodDescriptor y.desc).map (fun d => d.parameters.length) = some n) ∧ Cond.methodLink own index y ∈ wAll ∧ Cond.instanceMethod y ∈ wAll ∧ Cond.selects C y y ∈ wAll ∧ Cond.initialized C ∈ wAll ∧ Cond.code y bytes maxL ret ∈ wAll
def Wn (own : String) (index : Nat) (C : String) (y : MethodName) (bytes : ByteArray) (maxL : Nat) (ret : Option FieldType) (n : Nat) : Prop := (y.cls = C ∧ y.cls ≠ "java/lang/invoke/MethodHandle" ∧ y.cls ≠ "java/lang/invoke/VarHandle" ∧ (parseMethodDescriptor y.desc).map (fun d => d.parameters.length) = some n) ∧ (∃ host, Cond.methodLinkNest own index y host ∈ nestW) ∧ Cond.instanceMethod y ∈ wAll ∧ Cond.selects C y y ∈ wAll ∧ Cond.initialized y.cls ∈ wAll ∧ Cond.code y bytes maxL ret ∈ wAll
def Ws (own : String) (index : Nat) (y : MethodName) (bytes : ByteArray) (maxL : Nat) (ret : Option FieldType) (n : Nat) : Prop := (y.cls ≠ "java/lang/invoke/MethodHandle" ∧ y.cls ≠ "java/lang/invoke/VarHandle" ∧ (parseMethodDescriptor y.desc).map (fun d => d.parameters.length) = some n) ∧ Cond.methodLink own index y ∈ wAll ∧ Cond.static y ∈ wAll ∧ Cond.initialized y.cls ∈ wAll ∧ Cond.code y bytes maxL ret ∈ wAll
/-- the room of a call -/
def Rr (R rm : Room) (maxL cells slots mc ms : Nat) (rest : List Value) : Prop := rm.cells = mc ∧ rm.slots = ms ∧ rm.frames + 1 ≤ R.frames ∧ 8 + (maxL + 11) + rm.locals ≤ R.locals ∧ cells + mc ≤ R.cells ∧ slots + ms ≤ R.slots ∧ (rest.map fun v => v.category).sum ≤ 8
section VC
variable {p : Program} {l : Launch} {e : Env} {R : Room} {s : State} {m : MethodId} {args : Array Value} {below : List Frame} {meth : Method} {c : Code} {Q : State → Prop} {X : Cx} {nL : Nat} {ex : va_W} {M M' : Mem} {lf lf' : Lf} {cells slots pc : Nat} {lv : List (Nat × Value)} {st : List Value} {cc : ByteArray} {own : String}
variable {y : MethodName} {bytes : ByteArray} {maxL n index mc ms : Nat} {ret : Option FieldType} {rm : Room} {C : String} {b : Nat} {As rest : List Value}
theorem v_pre {H : Heap} {locs : List Loc} {av : List Value} (F : Fx p l s m args meth c cc nL own X) (hP : va_P X.1 vwCl (wl X M lf ++ ex) H) (hS : va_S (xA X s.heap.size) s.heap H locs) (U : State) (hU : U.heap = H) (hW : s.WarmedH U.vm) : va_Pc av (PreW X M lf H.size) av.toArray U := by
  subst hU
  exact ⟨rfl, rfl, Kz_pass F.2.2.1 hW hS F.2.1, (va_P_spl hP).1⟩
theorem v_post {H H1 : Heap} {t : State} (hP : va_P X.1 vwCl (wl X M lf ++ ex) H) (hE : exOk X s.heap.size ex) (ht : t.heap = H1) (hB : EndW X M' lf' () t) (hk : ∀ q : Nat, q < H.size → ¬ xA X H.size q → H1[q]? = H[q]?) : va_P X.1 vwCl (wl X M' lf' ++ ex) H1 := by
  subst ht
  refine va_P.app hB (fun k q hq => ?_)
  have h := (va_P_spl hP).2 k q hq
  refine h.kept (hk q.1 h.lt (fun z => ?_))
  rcases z with ⟨p, hp, e⟩ | z
  · exact hE.2 k q hq p hp e
  · exact absurd h.lt (Nat.not_lt.mpr z)
theorem Wv_cw {args : Array Value} (F : Fx p l s m args meth c cc nL own X) (w : Wv own index C y bytes maxL ret n) (hr : Rr R rm maxL cells slots mc ms rest) : CallW R s args own C index y bytes maxL ret (wsc y bytes maxL ret) rm mc ms n := cwV n F.1.2.2.2.2 (good_V w.2.1 w.2.2.1 w.2.2.2.1 w.2.2.2.2.1 (good_c w.2.2.2.2.2)) rfl hr.1 hr.2.1 w.1 ⟨hr.2.2.1, hr.2.2.2.1⟩
theorem Ws_cw {args : Array Value} (F : Fx p l s m args meth c cc nL own X) (w : Ws own index y bytes maxL ret n) (hr : Rr R rm maxL cells slots mc ms rest) : CallB R s args own index y bytes maxL ret (wsc y bytes maxL ret) rm mc ms n ∧ (Cond.static y).before args s = true := ⟨callB_of n F.1.2.2.2.2 (good_c w.2.2.2.2) rfl hr.1 hr.2.1 (F.1.2.2.2.2 _ w.2.2.2.1) (F.1.2.2.2.2 _ w.2.1) w.1 ⟨hr.2.2.1, hr.2.2.2.1⟩, F.1.2.2.2.2 _ w.2.2.1⟩
theorem v_callVi (F : Fx p l s m args meth c cc nL own X) {r : Int32} (hst : st = As.reverse ++ .ref b :: rest) (hM : CI X l y (wsc y bytes maxL ret) rm (.ref b :: As) M lf r M' lf' mc ms) (hR : Rv X b C) (w : Wv own index C y bytes maxL ret n) (hn : As.length = n) (hr : Rr R rm maxL cells slots mc ms rest) (hdg : decode cc pc = .ok (.invokevirtual index, 3)) (K : V p l e R s m args below meth c Q X nL ex M' lf' (cells + mc) (slots + ms) (pc + 3) lv (.int r :: rest)) : V p l e R s m args below meth c Q X nL ex M lf cells slots pc lv st := by
  intro H locs ls hP hE hS hl
  subst hst
  refine va_calli (va_runV (As := As) (rest := rest) F.1 (hM H.size) (Wv_cw F w hr) ⟨PreW_blind, Rv_cell hR F.2.1.2.1 (va_P_spl hP).1, fun U hU hW => v_pre F hP hS U hU hW⟩ rfl hn hl.1 rfl (lv_room hr.2.2.2.2.2.2) hdg ⟨hr.2.2.2.2.1, hr.2.2.2.2.2.1⟩) hS (fun q _ h => xA_mono hS.1 q h) (xA_mono hS.1) (fun x u t H1 locs1 ht hvm hx hB hz hk hS1 => ?_)
  subst hx
  exact K H1 locs1 ls (v_post hP hE ht hB hk) hE hS1 hl
theorem v_callNi (F : Fx p l s m args meth c cc nL own X) {r : Int32} (hst : st = As.reverse ++ .ref b :: rest) (hM : CI X l y (wsc y bytes maxL ret) rm (.ref b :: As) M lf r M' lf' mc ms) (hR : Rv X b C) (w : Wn own index C y bytes maxL ret n) (hn : As.length = n) (hr : Rr R rm maxL cells slots mc ms rest) (hdg : decode cc pc = .ok (.invokevirtual index, 3)) (K : V p l e R s m args below meth c Q X nL ex M' lf' (cells + mc) (slots + ms) (pc + 3) lv (.int r :: rest)) : V p l e R s m args below meth c Q X nL ex M lf cells slots pc lv st := by
  intro H locs ls hP hE hS hl
  subst hst
  obtain ⟨host, hh⟩ := w.2.1
  refine va_calli (va_runVN (As := As) (rest := rest) F.1 (hM H.size) ⟨va_cnB n F.1.2.2.2.2 (good_c w.2.2.2.2.2) rfl hr.1 hr.2.1 (F.2.1.2.2.1 _ hh) (F.1.2.2.2.2 _ w.2.2.2.2.1) w.1.2 ⟨hr.2.2.1, hr.2.2.2.1⟩, F.1.2.2.2.2 _ w.2.2.1, F.1.2.2.2.2 _ w.2.2.2.1⟩ ⟨PreW_blind, Rv_cell hR F.2.1.2.1 (va_P_spl hP).1, fun U hU hW => v_pre F hP hS U hU hW⟩ rfl hn hl.1 rfl (lv_room hr.2.2.2.2.2.2) hdg ⟨hr.2.2.2.2.1, hr.2.2.2.2.2.1⟩) hS (fun q _ h => xA_mono hS.1 q h) (xA_mono hS.1) (fun x u t H1 locs1 ht hvm hx hB hz hk hS1 => ?_)
  subst hx
  exact K H1 locs1 ls (v_post hP hE ht hB hk) hE hS1 hl
theorem v_callSi (F : Fx p l s m args meth c cc nL own X) {r : Int32} (hst : st = As.reverse ++ rest) (hM : CI X l y (wsc y bytes maxL ret) rm As M lf r M' lf' mc ms) (w : Ws own index y bytes maxL ret n) (hn : As.length = n) (hr : Rr R rm maxL cells slots mc ms rest) (hdg : decode cc pc = .ok (.invokestatic index, 3)) (K : V p l e R s m args below meth c Q X nL ex M' lf' (cells + mc) (slots + ms) (pc + 3) lv (.int r :: rest)) : V p l e R s m args below meth c Q X nL ex M lf cells slots pc lv st := by
  intro H locs ls hP hE hS hl
  subst hst
  refine va_calli (va_runS (As := As) (rest := rest) F.1 (hM H.size) (Ws_cw F w hr) ⟨PreW_blind, fun U hU hW => v_pre F hP hS U hU hW⟩ rfl hn hl.1 rfl (lv_room hr.2.2.2.2.2.2) hdg ⟨hr.2.2.2.2.1, hr.2.2.2.2.2.1⟩) hS (fun q _ h => xA_mono hS.1 q h) (xA_mono hS.1) (fun x u t H1 locs1 ht hvm hx hB hz hk hS1 => ?_)
  subst hx
  exact K H1 locs1 ls (v_post hP hE ht hB hk) hE hS1 hl
theorem v_callXVi (F : Fx p l s m args meth c cc nL own X) {E : String} (hst : st = As.reverse ++ .ref b :: rest) (hM : CXi X l y (wsc y bytes maxL ret) rm (.ref b :: As) M lf E mc ms) (hR : Rv X b C) (w : Wv own index C y bytes maxL ret n) (hn : As.length = n) (hr : Rr R rm maxL cells slots mc ms rest) (hdg : decode cc pc = .ok (.invokevirtual index, 3))
    (K : ∀ (H1 : Heap) (locs1 : List Loc) (ls : Array Slot) (ce : Cell) (q9 : Addr), va_P X.1 vwCl (wl X M lf ++ ex) H1 → exOk X s.heap.size ex → va_S (xA X s.heap.size) s.heap H1 locs1 → lv_has ls nL lv → H1[q9]? = some ce → ce.vm = .none → s.vm.findClass E = some ce.cls → vx_W p l e R s m args below meth c H1 locs1 (cells + mc) (slots + ms) Q (F0 m pc ls rest) q9) : V p l e R s m args below meth c Q X nL ex M lf cells slots pc lv st := by
  intro H locs ls hP hE hS hl
  subst hst
  refine vx_calli (vx_runV (As := As) (rest := rest) F.1 (hM H.size) (Wv_cw F w hr) ⟨PreW_blind, Rv_cell hR F.2.1.2.1 (va_P_spl hP).1, fun U hU hW => v_pre F hP hS U hU hW⟩ rfl hn hl.1 rfl (lv_room hr.2.2.2.2.2.2) hdg ⟨hr.2.2.2.2.1, hr.2.2.2.2.2.1⟩) hS (fun q _ h => xA_mono hS.1 q h) (xA_mono hS.1) (fun q _ h => xA_mono hS.1 q h) (fun E1 ce q9 u t H1 locs1 ht hvm hx hB hz hk hS1 h9 hv9 hc9 => ?_) (fun x u t H1 locs1 ht hvm hx hB hz hk hS1 => hx.elim)
  obtain ⟨rfl, hB⟩ := hB
  exact K H1 locs1 ls ce q9 (v_post hP hE ht hB hk) hE hS1 hl h9 hv9 hc9
theorem v_callXSi (F : Fx p l s m args meth c cc nL own X) {E : String} (hst : st = As.reverse ++ rest) (hM : CXi X l y (wsc y bytes maxL ret) rm As M lf E mc ms) (w : Ws own index y bytes maxL ret n) (hn : As.length = n) (hr : Rr R rm maxL cells slots mc ms rest) (hdg : decode cc pc = .ok (.invokestatic index, 3))
    (K : ∀ (H1 : Heap) (locs1 : List Loc) (ls : Array Slot) (ce : Cell) (q9 : Addr), va_P X.1 vwCl (wl X M lf ++ ex) H1 → exOk X s.heap.size ex → va_S (xA X s.heap.size) s.heap H1 locs1 → lv_has ls nL lv → H1[q9]? = some ce → ce.vm = .none → s.vm.findClass E = some ce.cls → vx_W p l e R s m args below meth c H1 locs1 (cells + mc) (slots + ms) Q (F0 m pc ls rest) q9) : V p l e R s m args below meth c Q X nL ex M lf cells slots pc lv st := by
  intro H locs ls hP hE hS hl
  subst hst
  refine vx_calli (vx_runS (As := As) (rest := rest) F.1 (hM H.size) (Ws_cw F w hr) ⟨PreW_blind, fun U hU hW => v_pre F hP hS U hU hW⟩ rfl hn hl.1 rfl (lv_room hr.2.2.2.2.2.2) hdg ⟨hr.2.2.2.2.1, hr.2.2.2.2.2.1⟩) hS (fun q _ h => xA_mono hS.1 q h) (xA_mono hS.1) (fun q _ h => xA_mono hS.1 q h) (fun E1 ce q9 u t H1 locs1 ht hvm hx hB hz hk hS1 h9 hv9 hc9 => ?_) (fun x u t H1 locs1 ht hvm hx hB hz hk hS1 => hx.elim)
  obtain ⟨rfl, hB⟩ := hB
  exact K H1 locs1 ls ce q9 (v_post hP hE ht hB hk) hE hS1 hl h9 hv9 hc9
theorem v_callVl (F : Fx p l s m args meth c cc nL own X) {r : Int64} (hst : st = As.reverse ++ .ref b :: rest) (hM : CL X l y (wsc y bytes maxL ret) rm (.ref b :: As) M lf r M' lf' mc ms) (hR : Rv X b C) (w : Wv own index C y bytes maxL ret n) (hn : As.length = n) (hr : Rr R rm maxL cells slots mc ms rest) (hdg : decode cc pc = .ok (.invokevirtual index, 3)) (K : V p l e R s m args below meth c Q X nL ex M' lf' (cells + mc) (slots + ms) (pc + 3) lv (.long r :: rest)) : V p l e R s m args below meth c Q X nL ex M lf cells slots pc lv st := by
  intro H locs ls hP hE hS hl
  subst hst
  refine va_calll (va_runV (As := As) (rest := rest) F.1 (hM H.size) (Wv_cw F w hr) ⟨PreW_blind, Rv_cell hR F.2.1.2.1 (va_P_spl hP).1, fun U hU hW => v_pre F hP hS U hU hW⟩ rfl hn hl.1 rfl (lv_room hr.2.2.2.2.2.2) hdg ⟨hr.2.2.2.2.1, hr.2.2.2.2.2.1⟩) hS (fun q _ h => xA_mono hS.1 q h) (xA_mono hS.1) (fun x u t H1 locs1 ht hvm hx hB hz hk hS1 => ?_)
  subst hx
  exact K H1 locs1 ls (v_post hP hE ht hB hk) hE hS1 hl
theorem v_callNl (F : Fx p l s m args meth c cc nL own X) {r : Int64} (hst : st = As.reverse ++ .ref b :: rest) (hM : CL X l y (wsc y bytes maxL ret) rm (.ref b :: As) M lf r M' lf' mc ms) (hR : Rv X b C) (w : Wn own index C y bytes maxL ret n) (hn : As.length = n) (hr : Rr R rm maxL cells slots mc ms rest) (hdg : decode cc pc = .ok (.invokevirtual index, 3)) (K : V p l e R s m args below meth c Q X nL ex M' lf' (cells + mc) (slots + ms) (pc + 3) lv (.long r :: rest)) : V p l e R s m args below meth c Q X nL ex M lf cells slots pc lv st := by
  intro H locs ls hP hE hS hl
  subst hst
  obtain ⟨host, hh⟩ := w.2.1
  refine va_calll (va_runVN (As := As) (rest := rest) F.1 (hM H.size) ⟨va_cnB n F.1.2.2.2.2 (good_c w.2.2.2.2.2) rfl hr.1 hr.2.1 (F.2.1.2.2.1 _ hh) (F.1.2.2.2.2 _ w.2.2.2.2.1) w.1.2 ⟨hr.2.2.1, hr.2.2.2.1⟩, F.1.2.2.2.2 _ w.2.2.1, F.1.2.2.2.2 _ w.2.2.2.1⟩ ⟨PreW_blind, Rv_cell hR F.2.1.2.1 (va_P_spl hP).1, fun U hU hW => v_pre F hP hS U hU hW⟩ rfl hn hl.1 rfl (lv_room hr.2.2.2.2.2.2) hdg ⟨hr.2.2.2.2.1, hr.2.2.2.2.2.1⟩) hS (fun q _ h => xA_mono hS.1 q h) (xA_mono hS.1) (fun x u t H1 locs1 ht hvm hx hB hz hk hS1 => ?_)
  subst hx
  exact K H1 locs1 ls (v_post hP hE ht hB hk) hE hS1 hl
theorem v_callSl (F : Fx p l s m args meth c cc nL own X) {r : Int64} (hst : st = As.reverse ++ rest) (hM : CL X l y (wsc y bytes maxL ret) rm As M lf r M' lf' mc ms) (w : Ws own index y bytes maxL ret n) (hn : As.length = n) (hr : Rr R rm maxL cells slots mc ms rest) (hdg : decode cc pc = .ok (.invokestatic index, 3)) (K : V p l e R s m args below meth c Q X nL ex M' lf' (cells + mc) (slots + ms) (pc + 3) lv (.long r :: rest)) : V p l e R s m args below meth c Q X nL ex M lf cells slots pc lv st := by
  intro H locs ls hP hE hS hl
  subst hst
  refine va_calll (va_runS (As := As) (rest := rest) F.1 (hM H.size) (Ws_cw F w hr) ⟨PreW_blind, fun U hU hW => v_pre F hP hS U hU hW⟩ rfl hn hl.1 rfl (lv_room hr.2.2.2.2.2.2) hdg ⟨hr.2.2.2.2.1, hr.2.2.2.2.2.1⟩) hS (fun q _ h => xA_mono hS.1 q h) (xA_mono hS.1) (fun x u t H1 locs1 ht hvm hx hB hz hk hS1 => ?_)
  subst hx
  exact K H1 locs1 ls (v_post hP hE ht hB hk) hE hS1 hl
theorem v_callVd (F : Fx p l s m args meth c cc nL own X) {r : UInt64} (hst : st = As.reverse ++ .ref b :: rest) (hM : CD X l y (wsc y bytes maxL ret) rm (.ref b :: As) M lf r M' lf' mc ms) (hR : Rv X b C) (w : Wv own index C y bytes maxL ret n) (hn : As.length = n) (hr : Rr R rm maxL cells slots mc ms rest) (hdg : decode cc pc = .ok (.invokevirtual index, 3)) (K : V p l e R s m args below meth c Q X nL ex M' lf' (cells + mc) (slots + ms) (pc + 3) lv (.double r :: rest)) : V p l e R s m args below meth c Q X nL ex M lf cells slots pc lv st := by
  intro H locs ls hP hE hS hl
  subst hst
  refine va_calld (va_runV (As := As) (rest := rest) F.1 (hM H.size) (Wv_cw F w hr) ⟨PreW_blind, Rv_cell hR F.2.1.2.1 (va_P_spl hP).1, fun U hU hW => v_pre F hP hS U hU hW⟩ rfl hn hl.1 rfl (lv_room hr.2.2.2.2.2.2) hdg ⟨hr.2.2.2.2.1, hr.2.2.2.2.2.1⟩) hS (fun q _ h => xA_mono hS.1 q h) (xA_mono hS.1) (fun x u t H1 locs1 ht hvm hx hB hz hk hS1 => ?_)
  subst hx
  exact K H1 locs1 ls (v_post hP hE ht hB hk) hE hS1 hl
theorem v_callNd (F : Fx p l s m args meth c cc nL own X) {r : UInt64} (hst : st = As.reverse ++ .ref b :: rest) (hM : CD X l y (wsc y bytes maxL ret) rm (.ref b :: As) M lf r M' lf' mc ms) (hR : Rv X b C) (w : Wn own index C y bytes maxL ret n) (hn : As.length = n) (hr : Rr R rm maxL cells slots mc ms rest) (hdg : decode cc pc = .ok (.invokevirtual index, 3)) (K : V p l e R s m args below meth c Q X nL ex M' lf' (cells + mc) (slots + ms) (pc + 3) lv (.double r :: rest)) : V p l e R s m args below meth c Q X nL ex M lf cells slots pc lv st := by
  intro H locs ls hP hE hS hl
  subst hst
  obtain ⟨host, hh⟩ := w.2.1
  refine va_calld (va_runVN (As := As) (rest := rest) F.1 (hM H.size) ⟨va_cnB n F.1.2.2.2.2 (good_c w.2.2.2.2.2) rfl hr.1 hr.2.1 (F.2.1.2.2.1 _ hh) (F.1.2.2.2.2 _ w.2.2.2.2.1) w.1.2 ⟨hr.2.2.1, hr.2.2.2.1⟩, F.1.2.2.2.2 _ w.2.2.1, F.1.2.2.2.2 _ w.2.2.2.1⟩ ⟨PreW_blind, Rv_cell hR F.2.1.2.1 (va_P_spl hP).1, fun U hU hW => v_pre F hP hS U hU hW⟩ rfl hn hl.1 rfl (lv_room hr.2.2.2.2.2.2) hdg ⟨hr.2.2.2.2.1, hr.2.2.2.2.2.1⟩) hS (fun q _ h => xA_mono hS.1 q h) (xA_mono hS.1) (fun x u t H1 locs1 ht hvm hx hB hz hk hS1 => ?_)
  subst hx
  exact K H1 locs1 ls (v_post hP hE ht hB hk) hE hS1 hl
theorem v_callSd (F : Fx p l s m args meth c cc nL own X) {r : UInt64} (hst : st = As.reverse ++ rest) (hM : CD X l y (wsc y bytes maxL ret) rm As M lf r M' lf' mc ms) (w : Ws own index y bytes maxL ret n) (hn : As.length = n) (hr : Rr R rm maxL cells slots mc ms rest) (hdg : decode cc pc = .ok (.invokestatic index, 3)) (K : V p l e R s m args below meth c Q X nL ex M' lf' (cells + mc) (slots + ms) (pc + 3) lv (.double r :: rest)) : V p l e R s m args below meth c Q X nL ex M lf cells slots pc lv st := by
  intro H locs ls hP hE hS hl
  subst hst
  refine va_calld (va_runS (As := As) (rest := rest) F.1 (hM H.size) (Ws_cw F w hr) ⟨PreW_blind, fun U hU hW => v_pre F hP hS U hU hW⟩ rfl hn hl.1 rfl (lv_room hr.2.2.2.2.2.2) hdg ⟨hr.2.2.2.2.1, hr.2.2.2.2.2.1⟩) hS (fun q _ h => xA_mono hS.1 q h) (xA_mono hS.1) (fun x u t H1 locs1 ht hvm hx hB hz hk hS1 => ?_)
  subst hx
  exact K H1 locs1 ls (v_post hP hE ht hB hk) hE hS1 hl
theorem v_callVv (F : Fx p l s m args meth c cc nL own X) (hst : st = As.reverse ++ .ref b :: rest) (hM : CV X l y (wsc y bytes maxL ret) rm (.ref b :: As) M lf M' lf' mc ms) (hR : Rv X b C) (w : Wv own index C y bytes maxL ret n) (hn : As.length = n) (hr : Rr R rm maxL cells slots mc ms rest) (hdg : decode cc pc = .ok (.invokevirtual index, 3)) (K : V p l e R s m args below meth c Q X nL ex M' lf' (cells + mc) (slots + ms) (pc + 3) lv (rest)) : V p l e R s m args below meth c Q X nL ex M lf cells slots pc lv st := by
  intro H locs ls hP hE hS hl
  subst hst
  refine va_callv (va_runV (As := As) (rest := rest) F.1 (hM H.size) (Wv_cw F w hr) ⟨PreW_blind, Rv_cell hR F.2.1.2.1 (va_P_spl hP).1, fun U hU hW => v_pre F hP hS U hU hW⟩ rfl hn hl.1 rfl (lv_room hr.2.2.2.2.2.2) hdg ⟨hr.2.2.2.2.1, hr.2.2.2.2.2.1⟩) hS (fun q _ h => xA_mono hS.1 q h) (xA_mono hS.1) (fun u t H1 locs1 ht hvm hx hB hz hk hS1 => ?_)
  exact K H1 locs1 ls (v_post hP hE ht hB hk) hE hS1 hl
theorem v_callNv (F : Fx p l s m args meth c cc nL own X) (hst : st = As.reverse ++ .ref b :: rest) (hM : CV X l y (wsc y bytes maxL ret) rm (.ref b :: As) M lf M' lf' mc ms) (hR : Rv X b C) (w : Wn own index C y bytes maxL ret n) (hn : As.length = n) (hr : Rr R rm maxL cells slots mc ms rest) (hdg : decode cc pc = .ok (.invokevirtual index, 3)) (K : V p l e R s m args below meth c Q X nL ex M' lf' (cells + mc) (slots + ms) (pc + 3) lv (rest)) : V p l e R s m args below meth c Q X nL ex M lf cells slots pc lv st := by
  intro H locs ls hP hE hS hl
  subst hst
  obtain ⟨host, hh⟩ := w.2.1
  refine va_callv (va_runVN (As := As) (rest := rest) F.1 (hM H.size) ⟨va_cnB n F.1.2.2.2.2 (good_c w.2.2.2.2.2) rfl hr.1 hr.2.1 (F.2.1.2.2.1 _ hh) (F.1.2.2.2.2 _ w.2.2.2.2.1) w.1.2 ⟨hr.2.2.1, hr.2.2.2.1⟩, F.1.2.2.2.2 _ w.2.2.1, F.1.2.2.2.2 _ w.2.2.2.1⟩ ⟨PreW_blind, Rv_cell hR F.2.1.2.1 (va_P_spl hP).1, fun U hU hW => v_pre F hP hS U hU hW⟩ rfl hn hl.1 rfl (lv_room hr.2.2.2.2.2.2) hdg ⟨hr.2.2.2.2.1, hr.2.2.2.2.2.1⟩) hS (fun q _ h => xA_mono hS.1 q h) (xA_mono hS.1) (fun u t H1 locs1 ht hvm hx hB hz hk hS1 => ?_)
  exact K H1 locs1 ls (v_post hP hE ht hB hk) hE hS1 hl
theorem v_callSv (F : Fx p l s m args meth c cc nL own X) (hst : st = As.reverse ++ rest) (hM : CV X l y (wsc y bytes maxL ret) rm As M lf M' lf' mc ms) (w : Ws own index y bytes maxL ret n) (hn : As.length = n) (hr : Rr R rm maxL cells slots mc ms rest) (hdg : decode cc pc = .ok (.invokestatic index, 3)) (K : V p l e R s m args below meth c Q X nL ex M' lf' (cells + mc) (slots + ms) (pc + 3) lv (rest)) : V p l e R s m args below meth c Q X nL ex M lf cells slots pc lv st := by
  intro H locs ls hP hE hS hl
  subst hst
  refine va_callv (va_runS (As := As) (rest := rest) F.1 (hM H.size) (Ws_cw F w hr) ⟨PreW_blind, fun U hU hW => v_pre F hP hS U hU hW⟩ rfl hn hl.1 rfl (lv_room hr.2.2.2.2.2.2) hdg ⟨hr.2.2.2.2.1, hr.2.2.2.2.2.1⟩) hS (fun q _ h => xA_mono hS.1 q h) (xA_mono hS.1) (fun u t H1 locs1 ht hvm hx hB hz hk hS1 => ?_)
  exact K H1 locs1 ls (v_post hP hE ht hB hk) hE hS1 hl
theorem v_callXVv (F : Fx p l s m args meth c cc nL own X) {E : String} (hst : st = As.reverse ++ .ref b :: rest) (hM : CXv X l y (wsc y bytes maxL ret) rm (.ref b :: As) M lf E mc ms) (hR : Rv X b C) (w : Wv own index C y bytes maxL ret n) (hn : As.length = n) (hr : Rr R rm maxL cells slots mc ms rest) (hdg : decode cc pc = .ok (.invokevirtual index, 3))
    (K : ∀ (H1 : Heap) (locs1 : List Loc) (ls : Array Slot) (ce : Cell) (q9 : Addr), va_P X.1 vwCl (wl X M lf ++ ex) H1 → exOk X s.heap.size ex → va_S (xA X s.heap.size) s.heap H1 locs1 → lv_has ls nL lv → H1[q9]? = some ce → ce.vm = .none → s.vm.findClass E = some ce.cls → vx_W p l e R s m args below meth c H1 locs1 (cells + mc) (slots + ms) Q (F0 m pc ls rest) q9) : V p l e R s m args below meth c Q X nL ex M lf cells slots pc lv st := by
  intro H locs ls hP hE hS hl
  subst hst
  refine vx_callv (vx_runV (As := As) (rest := rest) F.1 (hM H.size) (Wv_cw F w hr) ⟨PreW_blind, Rv_cell hR F.2.1.2.1 (va_P_spl hP).1, fun U hU hW => v_pre F hP hS U hU hW⟩ rfl hn hl.1 rfl (lv_room hr.2.2.2.2.2.2) hdg ⟨hr.2.2.2.2.1, hr.2.2.2.2.2.1⟩) hS (fun q _ h => xA_mono hS.1 q h) (xA_mono hS.1) (fun q _ h => xA_mono hS.1 q h) (fun E1 ce q9 u t H1 locs1 ht hvm hx hB hz hk hS1 h9 hv9 hc9 => ?_) (fun u t H1 locs1 ht hvm hx hB hz hk hS1 => hx.elim)
  obtain ⟨rfl, hB⟩ := hB
  exact K H1 locs1 ls ce q9 (v_post hP hE ht hB hk) hE hS1 hl h9 hv9 hc9
theorem v_callXSv (F : Fx p l s m args meth c cc nL own X) {E : String} (hst : st = As.reverse ++ rest) (hM : CXv X l y (wsc y bytes maxL ret) rm As M lf E mc ms) (w : Ws own index y bytes maxL ret n) (hn : As.length = n) (hr : Rr R rm maxL cells slots mc ms rest) (hdg : decode cc pc = .ok (.invokestatic index, 3))
    (K : ∀ (H1 : Heap) (locs1 : List Loc) (ls : Array Slot) (ce : Cell) (q9 : Addr), va_P X.1 vwCl (wl X M lf ++ ex) H1 → exOk X s.heap.size ex → va_S (xA X s.heap.size) s.heap H1 locs1 → lv_has ls nL lv → H1[q9]? = some ce → ce.vm = .none → s.vm.findClass E = some ce.cls → vx_W p l e R s m args below meth c H1 locs1 (cells + mc) (slots + ms) Q (F0 m pc ls rest) q9) : V p l e R s m args below meth c Q X nL ex M lf cells slots pc lv st := by
  intro H locs ls hP hE hS hl
  subst hst
  refine vx_callv (vx_runS (As := As) (rest := rest) F.1 (hM H.size) (Ws_cw F w hr) ⟨PreW_blind, fun U hU hW => v_pre F hP hS U hU hW⟩ rfl hn hl.1 rfl (lv_room hr.2.2.2.2.2.2) hdg ⟨hr.2.2.2.2.1, hr.2.2.2.2.2.1⟩) hS (fun q _ h => xA_mono hS.1 q h) (xA_mono hS.1) (fun q _ h => xA_mono hS.1 q h) (fun E1 ce q9 u t H1 locs1 ht hvm hx hB hz hk hS1 h9 hv9 hc9 => ?_) (fun u t H1 locs1 ht hvm hx hB hz hk hS1 => hx.elim)
  obtain ⟨rfl, hB⟩ := hB
  exact K H1 locs1 ls ce q9 (v_post hP hE ht hB hk) hE hS1 hl h9 hv9 hc9
theorem v_outi (F : Fx p l s m args meth c cc nL own X) {E : String} {mc ms : Nat} (hxt : ∀ x ∈ c.exceptionTable.toList, False) (h1 : cells ≤ mc) (h2 : slots ≤ ms) (H1 : Heap) (locs1 : List Loc) (ls : Array Slot) (ce : Cell) (q9 : Addr) (hP : va_P X.1 vwCl (wl X M lf ++ ex) H1) (hE : exOk X s.heap.size ex) (hS : va_S (xA X s.heap.size) s.heap H1 locs1) (hl : lv_has ls nL lv) (h9 : H1[q9]? = some ce) (hv9 : ce.vm = .none) (hc9 : s.vm.findClass E = some ce.cls) : vx_W p l e R s m args below meth c H1 locs1 cells slots (QXi X below args s M lf E mc ms) (F0 m pc ls rest) q9 :=
  vx_out (fun x hx => (hxt x hx).elim) F.2.2.2.1 h9 hv9 hc9 (fun t ht hvm => ⟨(), trivial, ⟨rfl, by rw [ht]; exact (va_P_spl hP).1⟩, hS.F ht⟩) hS.2.2 h1 h2
theorem v_outv (F : Fx p l s m args meth c cc nL own X) {E : String} {mc ms : Nat} (hxt : ∀ x ∈ c.exceptionTable.toList, False) (h1 : cells ≤ mc) (h2 : slots ≤ ms) (H1 : Heap) (locs1 : List Loc) (ls : Array Slot) (ce : Cell) (q9 : Addr) (hP : va_P X.1 vwCl (wl X M lf ++ ex) H1) (hE : exOk X s.heap.size ex) (hS : va_S (xA X s.heap.size) s.heap H1 locs1) (hl : lv_has ls nL lv) (h9 : H1[q9]? = some ce) (hv9 : ce.vm = .none) (hc9 : s.vm.findClass E = some ce.cls) : vx_W p l e R s m args below meth c H1 locs1 cells slots (QXv X below args s M lf E mc ms) (F0 m pc ls rest) q9 :=
  vx_out (fun x hx => (hxt x hx).elim) F.2.2.2.1 h9 hv9 hc9 (fun t ht hvm => ⟨(), trivial, ⟨rfl, by rw [ht]; exact (va_P_spl hP).1⟩, hS.F ht⟩) hS.2.2 h1 h2
theorem v_iret (F : Fx p l s m args meth c cc nL own X) {r v : Int32} (hr : meth.sig.returnType = some .int) (hdg : decode cc pc = .ok (.ireturn, 1)) (h1 : v = r) (h2 : M = M') (h3 : lf = lf') : V p l e R s m args below meth c (QI X below args s r M' lf' cells slots) X nL ex M lf cells slots pc lv [.int v] := by
  intro H locs ls hP hE hS hl
  subst h1; subst h2; subst h3
  exact W.iret F.1.1 F.1.2.1 hr (fun t ht hW => ⟨⟨v, (), rfl, rfl, by show va_P _ _ _ t.heap; rw [ht]; exact (va_P_spl hP).1⟩, hS.F ht⟩) hS.2.2 hdg F.2.2.2.1
theorem v_lret (F : Fx p l s m args meth c cc nL own X) {r v : Int64} (hr : meth.sig.returnType = some .long) (hdg : decode cc pc = .ok (.lreturn, 1)) (h1 : v = r) (h2 : M = M') (h3 : lf = lf') : V p l e R s m args below meth c (QL X below args s r M' lf' cells slots) X nL ex M lf cells slots pc lv [.long v] := by
  intro H locs ls hP hE hS hl
  subst h1; subst h2; subst h3
  exact W.lret F.1.1 F.1.2.1 hr (fun t ht hW => ⟨⟨v, (), rfl, rfl, by show va_P _ _ _ t.heap; rw [ht]; exact (va_P_spl hP).1⟩, hS.F ht⟩) hS.2.2 hdg F.2.2.2.1
theorem v_dret (F : Fx p l s m args meth c cc nL own X) {r v : UInt64} (hr : meth.sig.returnType = some .double) (hdg : decode cc pc = .ok (.dreturn, 1)) (h1 : v = r) (h2 : M = M') (h3 : lf = lf') : V p l e R s m args below meth c (QD X below args s r M' lf' cells slots) X nL ex M lf cells slots pc lv [.double v] := by
  intro H locs ls hP hE hS hl
  subst h1; subst h2; subst h3
  exact W.dret F.1.1 F.1.2.1 hr (fun t ht hW => ⟨⟨v, (), rfl, rfl, by show va_P _ _ _ t.heap; rw [ht]; exact (va_P_spl hP).1⟩, hS.F ht⟩) hS.2.2 hdg F.2.2.2.1
theorem v_zret (F : Fx p l s m args meth c cc nL own X) {r v : Int32} {ty : FieldType} (hr : meth.sig.returnType = some ty) (hdg : decode cc pc = .ok (.ireturn, 1)) (hz : narrow ty (.int v) = .int v) (h1 : v = r) (h2 : M = M') (h3 : lf = lf') : V p l e R s m args below meth c (QI X below args s r M' lf' cells slots) X nL ex M lf cells slots pc lv [.int v] := by
  intro H locs ls hP hE hS hl
  subst h1; subst h2; subst h3
  exact W.zret F.1.1 F.1.2.1 hr hz (fun t ht hW => ⟨⟨v, (), rfl, rfl, by show va_P _ _ _ t.heap; rw [ht]; exact (va_P_spl hP).1⟩, hS.F ht⟩) hS.2.2 hdg F.2.2.2.1
theorem v_vret (F : Fx p l s m args meth c cc nL own X) (hr : meth.sig.returnType = none) (hdg : decode cc pc = .ok (.return_, 1)) (h2 : M = M') (h3 : lf = lf') : V p l e R s m args below meth c (QV X below args s M' lf' cells slots) X nL ex M lf cells slots pc lv [] := by
  intro H locs ls hP hE hS hl
  subst h2; subst h3
  exact W.vret F.1.1 F.1.2.1 hr (fun t ht hW => ⟨⟨(), rfl, trivial, by show va_P _ _ _ t.heap; rw [ht]; exact (va_P_spl hP).1⟩, hS.F ht⟩) hS.2.2 hdg F.2.2.2.1
theorem v_throwi (F : Fx p l s m args meth c cc nL RX4 X) (hxt : ∀ x ∈ c.exceptionTable.toList, False) {E text : String} {ik is ic mc ms : Nat} (hE0 : Bundle.fit E = true) (hsub : ∀ w, w ∈ vx_atS RX4 ic E exN → w ∈ exL) (hk : Cond.classLink RX4 ik E ∈ wAll) (hini : Cond.initialized E ∈ wAll) (hs0 : (is, text) ∈ strW)
    (d0 : decode cc pc = .ok (.new ik, 3)) (d3 : decode cc (pc + 3) = .ok (.dup, 1)) (d4 : decode cc (pc + 4) = .ok (.ldc is, 2)) (d6 : decode cc (pc + 6) = .ok (.invokespecial ic, 3)) (d9 : decode cc (pc + 9) = .ok (.athrow, 1))
    (hR1 : 5 < R.frames) (hR2 : (st.map fun v => v.category).sum + 82 ≤ R.locals) (hR3 : cells + 1 ≤ R.cells) (hR4 : slots + 6 ≤ R.slots) (h1 : cells + 1 ≤ mc) (h2 : slots + 6 ≤ ms) : V p l e R s m args below meth c (QXi X below args s M lf E mc ms) X nL ex M lf cells slots pc lv st := by
  intro H locs ls hP hE hS hl
  obtain ⟨sa, hstr⟩ := F.2.1.2.2.2.1 _ hs0
  have hb := F.2.1.1
  refine vx_throwS (A := xA X s.heap.size) (names := exN) (text := text) F.1.1 F.1.2.1 F.2.2.2.2 F.1.2.2.2.1 hE0 (by decide +kernel) (F.1.2.2.2.2 _ hk) (F.1.2.2.2.2 _ hini) hstr (fun w hw => exL_hat F.1.2.2.2.2 F.2.1.2.2.2.2.1 w (hsub w hw)) (fun w hw => ?_)
    (vx_Zq.narrow F.2.1.2.2.2.2.2.2.1 (xA_B F.2.2.1 hb)) (vx_Zq.narrow F.2.1.2.2.2.2.2.2.2 (xA_B F.2.2.1 hb)) hS (hl.1.trans F.1.2.2.1.symm) d0 d3 d4 d6 d9 (fun x hx => (hxt x hx).elim) hR1 hR2 hR3 hR4 F.2.2.2.1 (fun t hvm hz hq => ⟨(), trivial, ⟨rfl, ?_⟩, ?_⟩) hS.2.2 h1 h2
  · rcases List.mem_cons.mp hw with rfl | hw
    · rfl
    · rcases List.mem_cons.mp hw with rfl | hw
      · rfl
      · exact List.all_eq_true.mp exL_ot w (hsub w hw)
  · exact (va_P_spl hP).1.kept (fun k q hk => hq q.1 ((va_P_spl hP).1 k q hk).lt)
  · exact ⟨Nat.le_trans hS.1 hz, fun q g1 g2 => (hq q (Nat.lt_of_lt_of_le g1 hS.1)).trans (hS.2.1 q g1 g2)⟩
theorem v_throwv (F : Fx p l s m args meth c cc nL RX4 X) (hxt : ∀ x ∈ c.exceptionTable.toList, False) {E text : String} {ik is ic mc ms : Nat} (hE0 : Bundle.fit E = true) (hsub : ∀ w, w ∈ vx_atS RX4 ic E exN → w ∈ exL) (hk : Cond.classLink RX4 ik E ∈ wAll) (hini : Cond.initialized E ∈ wAll) (hs0 : (is, text) ∈ strW)
    (d0 : decode cc pc = .ok (.new ik, 3)) (d3 : decode cc (pc + 3) = .ok (.dup, 1)) (d4 : decode cc (pc + 4) = .ok (.ldc is, 2)) (d6 : decode cc (pc + 6) = .ok (.invokespecial ic, 3)) (d9 : decode cc (pc + 9) = .ok (.athrow, 1))
    (hR1 : 5 < R.frames) (hR2 : (st.map fun v => v.category).sum + 82 ≤ R.locals) (hR3 : cells + 1 ≤ R.cells) (hR4 : slots + 6 ≤ R.slots) (h1 : cells + 1 ≤ mc) (h2 : slots + 6 ≤ ms) : V p l e R s m args below meth c (QXv X below args s M lf E mc ms) X nL ex M lf cells slots pc lv st := by
  intro H locs ls hP hE hS hl
  obtain ⟨sa, hstr⟩ := F.2.1.2.2.2.1 _ hs0
  have hb := F.2.1.1
  refine vx_throwS (A := xA X s.heap.size) (names := exN) (text := text) F.1.1 F.1.2.1 F.2.2.2.2 F.1.2.2.2.1 hE0 (by decide +kernel) (F.1.2.2.2.2 _ hk) (F.1.2.2.2.2 _ hini) hstr (fun w hw => exL_hat F.1.2.2.2.2 F.2.1.2.2.2.2.1 w (hsub w hw)) (fun w hw => ?_)
    (vx_Zq.narrow F.2.1.2.2.2.2.2.2.1 (xA_B F.2.2.1 hb)) (vx_Zq.narrow F.2.1.2.2.2.2.2.2.2 (xA_B F.2.2.1 hb)) hS (hl.1.trans F.1.2.2.1.symm) d0 d3 d4 d6 d9 (fun x hx => (hxt x hx).elim) hR1 hR2 hR3 hR4 F.2.2.2.1 (fun t hvm hz hq => ⟨(), trivial, ⟨rfl, ?_⟩, ?_⟩) hS.2.2 h1 h2
  · rcases List.mem_cons.mp hw with rfl | hw
    · rfl
    · rcases List.mem_cons.mp hw with rfl | hw
      · rfl
      · exact List.all_eq_true.mp exL_ot w (hsub w hw)
  · exact (va_P_spl hP).1.kept (fun k q hk => hq q.1 ((va_P_spl hP).1 k q hk).lt)
  · exact ⟨Nat.le_trans hS.1 hz, fun q g1 g2 => (hq q (Nat.lt_of_lt_of_le g1 hS.1)).trans (hS.2.1 q g1 g2)⟩
end VC
