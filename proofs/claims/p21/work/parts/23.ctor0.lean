/-! ===== constructors: worlds as lists ===== -/
def KC (D : va_G) (ca : Nat → ClassId) (base : Nat) (U : State) : Prop := Kz (D, (fun _ _ _ => 0), ca, base) U ∧ va_AO "HammerEggs$Juggler" U ∧ va_AO "HammerEggs$Thing" U
def tyC (ca : Nat → ClassId) : List (ClassId × FieldType) := [(ca 0, .int), (ca 1, .object "HammerEggs$Juggler"), (ca 2, .object "HammerEggs$Thing"), (ca 3, .array .int)]
theorem KC_K {D : va_G} {ca : Nat → ClassId} {base : Nat} {U : State} (h : KC D ca base U) : va_K D vwCl (tyC ca) U := h.1.2.1
theorem KC_same {D : va_G} {ca : Nat → ClassId} {base : Nat} {u U : State} (hv : U.vm = u.vm) (hh : U.heap = u.heap) (h : KC D ca base u) : KC D ca base U := by
  have ha : u.vm.Alike U.vm := by rw [hv]; exact Vm.Alike.refl _
  exact ⟨Kz_same hv hh h.1, va_AO.moved ha h.2.1, va_AO.moved ha h.2.2⟩
theorem KC_pass {D : va_G} {ca : Nat → ClassId} {base : Nat} {A : Nat → Prop} (hA : ∀ q, A q → base ≤ q) {s U : State} {locs : List Loc} (hW : s.WarmedH U.vm) (hS : va_S A s.heap U.heap locs) (h : KC D ca base s) : KC D ca base U := by
  obtain ⟨⟨h1, h2, h3, h4, h5, h8, h6, h7⟩, a1, a2⟩ := h
  have hk : ∀ a : Nat, a < s.heap.size → ¬ xB (D, (fun _ _ _ => 0), ca, base) a → U.heap[a]? = s.heap[a]? := fun a ha hn => hS.2.1 a ha (fun z => hn (hA a z))
  refine ⟨⟨Nat.le_trans h1 hS.1, va_K.moved hW.alike h2, fun w hw => nest_warm (List.mem_filter.mp hw).2 hW (h3 w hw), fun q hq => ?_, fun w hw => bad_warm w hw hW (h5 w hw), fun q hq => va_Nc.moved hW.alike (h8 q hq), ?_, ?_⟩, va_AO.moved hW.alike a1, va_AO.moved hW.alike a2⟩
  · obtain ⟨sa, hs⟩ := h4 q hq
    exact ⟨sa, vk_R.warm hW hs⟩
  · exact vx_Zq.kept (vx_Zq.moved hW.alike h6) hk
  · exact vx_Zq.kept (vx_Zq.moved hW.alike h7) hk
/-- which cells a constructor may change: its own, and new ones -/
def fA (h sz : Nat) : Nat → Prop := fun q => q = h ∨ sz ≤ q
def CN (D : va_G) (ca : Nat → ClassId) (base : Nat) (l : Launch) (y : MethodName) (ws : List Cond) (rm : Room) (e0 : va_E) (avs : List Value) (B : Nat → va_W → Prop) (mc ms : Nat) : Prop := ∀ h sz : Nat, Met l y ws rm (va_Pc (.ref h :: avs) (fun U => U.heap.size = sz ∧ base ≤ h ∧ h < sz ∧ KC D ca base U ∧ va_P D vwCl [(h, e0)] U.heap)) (va_Qv (fun bw : va_W => B h bw) (fun (bw : va_W) (t : State) => va_P D vwCl bw t.heap ∧ va_D (fA h sz) bw) (fA h sz)) mc ms (fA h sz)
abbrev QN (D : va_G) (B : Nat → va_W → Prop) (h : Nat) (below : List Frame) (args : Array Value) (s : State) (mc ms : Nat) : State → Prop := MQ below (va_Qv (fun bw : va_W => B h bw) (fun (bw : va_W) (t : State) => va_P D vwCl bw t.heap ∧ va_D (fA h s.heap.size) bw) (fA h s.heap.size)) args s mc ms (fA h s.heap.size)
abbrev FU (p : Program) (s : State) (m : MethodId) (args : Array Value) (meth : Method) (c : Code) (cc : ByteArray) (nL : Nat) (own : String) (D : va_G) (ca : Nat → ClassId) (base : Nat) (A : Nat → Prop) : Prop :=
  CallFix p m c cc nL s args wAll own ∧ KC D ca base s ∧ meth.locks = false ∧ (∀ q, s.heap.size ≤ q → A q) ∧ ∀ q, A q → base ≤ q
def UU (p : Program) (l : Launch) (e : Env) (R : Room) (s : State) (m : MethodId) (args : Array Value) (below : List Frame) (meth : Method) (c : Code) (Q : State → Prop) (D : va_G) (A : Nat → Prop) (nL : Nat) (w : va_W) (cells slots pc : Nat) (lv : List (Nat × Value)) (st : List Value) : Prop :=
  ∀ (H : Heap) (locs : List Loc) (ls : Array Slot), va_P D vwCl w H → va_D A w → va_S A s.heap H locs → lv_has ls nL lv → W p l e R s m args below meth c H locs cells slots Q (F0 m pc ls st)
theorem w_objm : Cond.instanceMethod objectInit ∈ wAll := wAll_in (i := 79) (by decide +kernel) (by decide +kernel)
theorem w_objc : Cond.code objectInit ⟨#[0xb1]⟩ 1 none ∈ wAll := wAll_in (i := 80) (by decide +kernel) (by decide +kernel)
theorem war_int : Cond.arrayClass .int ∈ wAll := wAll_in (i := 428) (by decide +kernel) (by decide +kernel)
section UR
variable {p : Program} {l : Launch} {e : Env} {R : Room} {s : State} {m : MethodId} {args : Array Value} {below : List Frame} {meth : Method} {c : Code} {Q : State → Prop} {D : va_G} {A : Nat → Prop} {nL : Nat} {w : va_W} {cells slots pc : Nat} {lv : List (Nat × Value)} {st : List Value} {cc : ByteArray} {own : String} {ca : Nat → ClassId} {base : Nat}
theorem CN_of {y : MethodName} {rm : Room} {e0 : va_E} {avs : List Value} {B : Nat → va_W → Prop} {mc ms : Nat} (lv : Nat → List (Nat × Value)) (hy : plainName y.cls = true) (hyn : y.name = "<init>") (hn : ∀ h : Nat, (lg_sl (.ref h :: avs)).length ≤ nL) (hlv : ∀ h : Nat, lv_args 0 (.ref h :: avs) = lv h)
    (body : ∀ (h : Nat) p e s m args below meth c, FU p s m args meth c cc nL y.cls D ca base (fA h s.heap.size) → meth.name = "<init>" → meth.sig.returnType = none → UU p l e rm s m args below meth c (QN D B h below args s mc ms) D (fA h s.heap.size) nL [(h, e0)] 0 0 0 (lv h) []) : CN D ca base l y (wsc y cc nL none) rm e0 avs B mc ms := by
  intro h sz
  refine Met.ofW (cc := cc) (maxL := nL) (ret := none) hy rfl ?_
  intro p e s m args below meth c s₁ B hml hv
  obtain ⟨rfl, hsz, hb, hlt, hK, hP⟩ := hv
  subst hsz
  have hin : meth.name = "<init>" := ((name_of_methodNamed B.named B.method).1).trans hyn
  have h := body h p e s m _ below meth c ⟨⟨B.exec, B.bytes, hml, findClass_of_methodNamed B.named, fun w hw => atoms_spec (ws := Cond.code y cc nL none :: wAll) B.pre w (List.mem_cons_of_mem _ hw)⟩, hK, B.notSynchronized, fun q hq => Or.inr hq, fun q hq => hq.elim (fun z => by rw [z]; exact hb) (fun z => Nat.le_trans hK.1.1 z)⟩ hin B.returns
  rw [lg_entry_eq]
  refine h s.heap [] _ hP ?_ va_S.rf ?_
  · refine ⟨fun i j a b hi hj _ => ?_, fun k q hk => ?_⟩
    · have h3 := (List.getElem?_eq_some_iff.mp hi).1
      have h4 := (List.getElem?_eq_some_iff.mp hj).1
      simp only [List.length_cons, List.length_nil] at h3 h4
      omega
    · rcases List.mem_singleton.mp (List.mem_of_getElem? hk) with rfl
      exact Or.inl rfl
  · have := lv_entry (.ref ‹Nat› :: avs) (n := nL) (hn _)
    rw [hlv] at this
    exact this
theorem u_of {pc' : Nat} {st' : List Value} (h : ∀ (H : Heap) (locs : List Loc) (ls : Array Slot), lv_has ls nL lv → W p l e R s m args below meth c H locs cells slots Q (F0 m pc' ls st') → W p l e R s m args below meth c H locs cells slots Q (F0 m pc ls st)) (K : UU p l e R s m args below meth c Q D A nL w cells slots pc' lv st') : UU p l e R s m args below meth c Q D A nL w cells slots pc lv st := fun H locs ls hP hD hS hl => h H locs ls hl (K H locs ls hP hD hS hl)
theorem u_widen {k n : Nat} (h1 : cells ≤ k) (h2 : slots ≤ n) (K : UU p l e R s m args below meth c Q D A nL w k n pc lv st) : UU p l e R s m args below meth c Q D A nL w cells slots pc lv st := fun H locs ls hP hD hS hl => W.widen h1 h2 (K H locs ls hP hD hS hl)
theorem u_sub {w' : va_W} (is : List Nat) (hn : va_nd is = true) (hs : is.map (fun i => w[i]?) = w'.map some) (K : UU p l e R s m args below meth c Q D A nL w' cells slots pc lv st) : UU p l e R s m args below meth c Q D A nL w cells slots pc lv st := fun H locs ls hP hD hS hl => K H locs ls (hP.sub is (by
  have := congrArg (List.filterMap id) hs
  rw [List.filterMap_map, List.filterMap_map] at this
  simpa [Function.comp_def] using this)) (hD.sub is hn hs) hS hl
theorem u_aload_n (F : FU p s m args meth c cc nL own D ca base A) {k : Fin 4} {i : Nat} {x : Nat} (hdg : decode cc pc = .ok (.aload_n k, 1)) (hi : (k : Nat) = i) (j : Nat) (hj : lv[j]? = some (i, .ref x)) (K : UU p l e R s m args below meth c Q D A nL w cells slots (pc + 1) lv (.ref x :: st)) : UU p l e R s m args below meth c Q D A nL w cells slots pc lv st := u_of (fun H locs ls hl k => lv_aload_n F.1.1 F.1.2.1 hdg hi (lv_at hl j hj) k) K
theorem u_iload_n (F : FU p s m args meth c cc nL own D ca base A) {k : Fin 4} {i : Nat} {x : Int32} (hdg : decode cc pc = .ok (.iload_n k, 1)) (hi : (k : Nat) = i) (j : Nat) (hj : lv[j]? = some (i, .int x)) (K : UU p l e R s m args below meth c Q D A nL w cells slots (pc + 1) lv (.int x :: st)) : UU p l e R s m args below meth c Q D A nL w cells slots pc lv st := u_of (fun H locs ls hl k => lv_iload_n F.1.1 F.1.2.1 hdg hi (lv_at hl j hj) k) K
theorem u_iconst (F : FU p s m args meth c cc nL own D ca base A) {n : Int} {v : Int32} (hdg : decode cc pc = .ok (.iconst n, 1)) (hv : Int32.ofInt n = v) (K : UU p l e R s m args below meth c Q D A nL w cells slots (pc + 1) lv (.int v :: st)) : UU p l e R s m args below meth c Q D A nL w cells slots pc lv st := u_of (fun H locs ls hl k => lv_iconst F.1.1 F.1.2.1 hdg hv k) K
theorem u_bipush (F : FU p s m args meth c cc nL own D ca base A) {n : Int} {v : Int32} (hdg : decode cc pc = .ok (.bipush n, 2)) (hv : (Int8.ofInt n).toInt32 = v) (K : UU p l e R s m args below meth c Q D A nL w cells slots (pc + 2) lv (.int v :: st)) : UU p l e R s m args below meth c Q D A nL w cells slots pc lv st := u_of (fun H locs ls hl k => lv_bipush F.1.1 F.1.2.1 hdg hv k) K
theorem u_dup (F : FU p s m args meth c cc nL own D ca base A) {va : Value} (hdg : decode cc pc = .ok (.dup, 1)) (hva : va.category = 1) (K : UU p l e R s m args below meth c Q D A nL w cells slots (pc + 1) lv (va :: va :: st)) : UU p l e R s m args below meth c Q D A nL w cells slots pc lv (va :: st) := u_of (fun H locs ls hl k => lv_dup F.1.1 F.1.2.1 hdg hva k) K
theorem u_goto (F : FU p s m args meth c cc nL own D ca base A) {off : Int} {tgt : Nat} (hdg : decode cc pc = .ok (.goto off, 3)) (ht : (pc : Int) + off = (tgt : Int)) (K : UU p l e R s m args below meth c Q D A nL w cells slots tgt lv st) : UU p l e R s m args below meth c Q D A nL w cells slots pc lv st := u_of (fun H locs ls hl k => lv_goto F.1.1 F.1.2.1 hdg ht k) K
theorem u_istore_n (F : FU p s m args meth c cc nL own D ca base A) {k : Fin 4} {i : Nat} {x : Int32} {lv' : List (Nat × Value)} (hdg : decode cc pc = .ok (.istore_n k, 1)) (hi : (k : Nat) = i) (hn : i < nL) (hl : (i, Value.int x) :: lv.filter (fun q => !(q.1 == i) && !(q.1 + 1 == i && q.2.category == 2)) = lv') (K : UU p l e R s m args below meth c Q D A nL w cells slots (pc + 1) lv' st) : UU p l e R s m args below meth c Q D A nL w cells slots pc lv (.int x :: st) := fun H locs ls hP hD hS h => lv_istore_n F.1.1 F.1.2.1 hdg hi h hn hl (fun ls' h' => K H locs ls' hP hD hS h')
theorem u_istore (F : FU p s m args meth c cc nL own D ca base A) {i : Nat} {x : Int32} {lv' : List (Nat × Value)} (hdg : decode cc pc = .ok (.istore i, 2)) (hn : i < nL) (hl : (i, Value.int x) :: lv.filter (fun q => !(q.1 == i) && !(q.1 + 1 == i && q.2.category == 2)) = lv') (K : UU p l e R s m args below meth c Q D A nL w cells slots (pc + 2) lv' st) : UU p l e R s m args below meth c Q D A nL w cells slots pc lv (.int x :: st) := fun H locs ls hP hD hS h => lv_istore F.1.1 F.1.2.1 hdg h hn hl (fun ls' h' => K H locs ls' hP hD hS h')
theorem u_astore_n (F : FU p s m args meth c cc nL own D ca base A) {k : Fin 4} {i : Nat} {x : Nat} {lv' : List (Nat × Value)} (hdg : decode cc pc = .ok (.astore_n k, 1)) (hi : (k : Nat) = i) (hn : i < nL) (hl : (i, Value.ref x) :: lv.filter (fun q => !(q.1 == i) && !(q.1 + 1 == i && q.2.category == 2)) = lv') (K : UU p l e R s m args below meth c Q D A nL w cells slots (pc + 1) lv' st) : UU p l e R s m args below meth c Q D A nL w cells slots pc lv (.ref x :: st) := fun H locs ls hP hD hS h => lv_astore_n F.1.1 F.1.2.1 hdg hi h hn hl (fun ls' h' => K H locs ls' hP hD hS h')
theorem u_iinc (F : FU p s m args meth c cc nL own D ca base A) {i k : Nat} {n : Int} {x : Int32} (v : Int32) {lv' : List (Nat × Value)} (hdg : decode cc pc = .ok (.iinc i n, 3)) (hk : lv[k]? = some (i, .int x)) (hv : x + Int32.ofInt n = v) (hn : i < nL) (hl : (i, Value.int v) :: lv.filter (fun q => !(q.1 == i) && !(q.1 + 1 == i && q.2.category == 2)) = lv') (K : UU p l e R s m args below meth c Q D A nL w cells slots (pc + 3) lv' st) : UU p l e R s m args below meth c Q D A nL w cells slots pc lv st := fun H locs ls hP hD hS h => lv_iinc F.1.1 F.1.2.1 hdg h hk hv hn hl (fun ls' h' => K H locs ls' hP hD hS h')
theorem u_icmp_ge (F : FU p s m args meth c cc nL own D ca base A) {x y : Int32} {off : Int} {tgt : Nat} (hdg : decode cc pc = .ok (.if_icmp .ge off, 3)) (ht : (pc : Int) + off = (tgt : Int)) (Kt : y ≤ x → UU p l e R s m args below meth c Q D A nL w cells slots tgt lv st) (Kf : ¬ y ≤ x → UU p l e R s m args below meth c Q D A nL w cells slots (pc + 3) lv st) : UU p l e R s m args below meth c Q D A nL w cells slots pc lv (.int y :: .int x :: st) := fun H locs ls hP hD hS hl => lv_icmp_ge F.1.1 F.1.2.1 hdg ht (fun h => Kt h H locs ls hP hD hS hl) (fun h => Kf h H locs ls hP hD hS hl)
theorem u_objInit (F : FU p s m args meth c cc nL own D ca base A) {index a : Nat} (hl1 : Cond.methodLink own index objectInit ∈ wAll) (hdg : decode cc pc = .ok (.invokespecial index, 3)) (hf : 1 ≤ R.frames) (hlo : (st.map fun v => v.category).sum + 12 ≤ R.locals) (K : UU p l e R s m args below meth c Q D A nL w cells slots (pc + 3) lv st) : UU p l e R s m args below meth c Q D A nL w cells slots pc lv (.ref a :: st) := by
  intro H locs ls hP hD hS hl
  refine W.objInit F.1.1 F.1.2.1 F.1.2.2.2.1 (F.1.2.2.2.2 _ hl1) (F.1.2.2.2.2 _ w_objm) (F.1.2.2.2.2 _ w_objc) rfl (hl.1.trans F.1.2.2.1.symm) rfl hdg hf (by show 2 * 0 + _ + 12 ≤ _; rw [Nat.mul_zero, Nat.zero_add]; exact hlo) ?_
  exact W.eq (g2 := F0 m (pc + 3) ls st) rfl (K H locs ls hP hD hS hl)
theorem u_get (F : FU p s m args meth c cc nL own D ca base A) {a ci : Nat} {fs : List Value} {C : String} {T : u_T} {N : Nat} (q0 : Nat) (he : w[q0]? = some (a, .inr (ci, fs))) (hc : vwCl[ci]? = some (C, T, N)) (hin : ∀ w, w ∈ u_ws C T N → w ∈ wAll) (j : Nat) (hj : j < N) (hT : (T j).1 = C) {v : Value} (hv : fs[j]? = some v) {index : Nat} (hlink : Cond.fieldLink own index C (T j).2.1 (T j).2.2.1 ∈ wAll) (hdg : decode cc pc = .ok (.getfield index, 3)) (K : UU p l e R s m args below meth c Q D A nL w cells slots (pc + 3) lv (v :: st)) : UU p l e R s m args below meth c Q D A nL w cells slots pc lv (.ref a :: st) := by
  intro H locs ls hP hD hS hl
  exact va_get F.1.1 F.1.2.1 F.1.2.2.2.2 hin F.1.2.2.2.1 (KC_K F.2.1) hP q0 he hc j hj (F.1.2.2.2.2 _ hlink) (by rw [hT]; exact fun x h => h) hv hdg (K H locs ls hP hD hS hl)
theorem u_putF (F : FU p s m args meth c cc nL own D ca base A) (hm : meth.name = "<init>") {a ci : Nat} {fs : List Value} {T : u_T} {N : Nat} (ty0 : Nat → FieldType) (hty : ∀ k, k < N → parseFieldDescriptor (T k).2.2.1 = some (ty0 k)) (hnm : ∀ a, a < N → ∀ b, b < N → a ≠ b → (T a).2.1 ≠ (T b).2.1) (q0 : Nat) (he : w[q0]? = some (a, .inr (ci, fs))) (hc : vwCl[ci]? = some (own, T, N)) (hin : ∀ w, w ∈ u_ws own T N → w ∈ wAll) (j : Nat) (hj : j < N) (hT : (T j).1 = own) (hfin : (T j).2.2.2 = true) {v : Value} (hnar : narrow (ty0 j) v = v) (hfit : fits (ty0 j) v = true) (hl0 : j < fs.length) {index : Nat} (hlink : Cond.fieldLink own index own (T j).2.1 (T j).2.2.1 ∈ wAll) (hdg : decode cc pc = .ok (.putfield index, 3)) {w' : va_W} (hw : w.set q0 (a, .inr (ci, fs.set j v)) = w') (K : UU p l e R s m args below meth c Q D A nL w' cells slots (pc + 3) lv st) : UU p l e R s m args below meth c Q D A nL w cells slots pc lv (v :: .ref a :: st) := by
  intro H locs ls hP hD hS hl
  subst hw
  exact va_putF F.1.1 F.1.2.1 F.1.2.2.2.2 hin ty0 hty hnm F.1.2.2.2.1 (KC_K F.2.1) hP hD hS q0 he hc j hj (F.1.2.2.2.2 _ hlink) (by rw [hT]; exact fun x h => h) hfin hm hT (hty j hj) hnar hfit hl0 hdg (fun H1 locs1 hP1 hD1 hS1 => K H1 locs1 ls hP1 hD1 hS1 hl)
theorem u_put (F : FU p s m args meth c cc nL own D ca base A) {a ci : Nat} {fs : List Value} {T : u_T} {N : Nat} (ty0 : Nat → FieldType) (hty : ∀ k, k < N → parseFieldDescriptor (T k).2.2.1 = some (ty0 k)) (hnm : ∀ a, a < N → ∀ b, b < N → a ≠ b → (T a).2.1 ≠ (T b).2.1) (q0 : Nat) (he : w[q0]? = some (a, .inr (ci, fs))) (hc : vwCl[ci]? = some (own, T, N)) (hin : ∀ w, w ∈ u_ws own T N → w ∈ wAll) (j : Nat) (hj : j < N) (hT : (T j).1 = own) (hfin : (T j).2.2.2 = false) {v : Value} (hnar : narrow (ty0 j) v = v) (hfit : fits (ty0 j) v = true) (hl0 : j < fs.length) {index : Nat} (hlink : Cond.fieldLink own index own (T j).2.1 (T j).2.2.1 ∈ wAll) (hdg : decode cc pc = .ok (.putfield index, 3)) {w' : va_W} (hw : w.set q0 (a, .inr (ci, fs.set j v)) = w') (K : UU p l e R s m args below meth c Q D A nL w' cells slots (pc + 3) lv st) : UU p l e R s m args below meth c Q D A nL w cells slots pc lv (v :: .ref a :: st) := by
  intro H locs ls hP hD hS hl
  subst hw
  exact va_put F.1.1 F.1.2.1 F.1.2.2.2.2 hin ty0 hty hnm F.1.2.2.2.1 (KC_K F.2.1) hP hD hS q0 he hc j hj (F.1.2.2.2.2 _ hlink) (by rw [hT]; exact fun x h => h) hfin (hty j hj) hnar hfit hl0 hdg (fun H1 locs1 hP1 hD1 hS1 => K H1 locs1 ls hP1 hD1 hS1 hl)
theorem u_newi (F : FU p s m args meth c cc nL own D ca base A) {x : Int32} (n : Nat) (h0 : ¬ x < 0) (hx : x.toNatClampNeg = n) (hb : n * componentBytes .int ≤ 536870912) (h1 : cells + 1 ≤ R.cells) (h2 : slots + n ≤ R.slots) (hdg : decode cc pc = .ok (.newarray .int, 2)) (K : ∀ a : Nat, UU p l e R s m args below meth c Q D A nL (w ++ [(a, .inl (ca 0, n, .inl (fun _ => 0)))]) (cells + 1) (slots + n) (pc + 2) lv (.ref a :: st)) : UU p l e R s m args below meth c Q D A nL w cells slots pc lv (.int x :: st) := by
  intro H locs ls hP hD hS hl
  refine va_newa (atype := .int) (ty := .int) (a0 := (n, .inl (fun _ => 0))) F.1.1 F.1.2.1 (F.1.2.2.2.2 _ war_int) rfl (KC_K F.2.1) hP hD hS F.2.2.2.1 (fun cA => rfl) h0 hx hb h1 h2 hdg (fun a cA H1 hK1 hP1 hD1 hS1 => ?_)
  have hcA : cA = ca 0 := by
    have e1 : s.vm.findClass ("[" ++ (FieldType.int).toString) = some cA := (hK1.2 4 (cA, .int) rfl).2
    have e2 : s.vm.findClass ("[" ++ (FieldType.int).toString) = some (ca 0) := ((KC_K F.2.1).2 0 _ rfl).2
    exact Option.some.inj (e1.symm.trans e2)
  subst hcA
  exact K a H1 locs ls hP1 hD1 hS1 hl
theorem u_newqJ (F : FU p s m args meth c cc nL own D ca base A) {x : Int32} {index : Nat} (n : Nat) (hcl : Cond.classLink own index "HammerEggs$Juggler" ∈ wAll) (h0 : ¬ x < 0) (hx : x.toNatClampNeg = n) (hb : n * 4 ≤ 536870912) (h1 : cells + 1 ≤ R.cells) (h2 : slots + n ≤ R.slots) (hdg : decode cc pc = .ok (.anewarray index, 3)) (K : ∀ a : Nat, UU p l e R s m args below meth c Q D A nL (w ++ [(a, .inl (ca 1, n, .inr (.inr (.inr (.inr (fun _ => none))))))]) (cells + 1) (slots + n) (pc + 3) lv (.ref a :: st)) : UU p l e R s m args below meth c Q D A nL w cells slots pc lv (.int x :: st) := by
  intro H locs ls hP hD hS hl
  refine va_newq F.1.1 F.1.2.1 F.1.2.2.2.1 (F.1.2.2.2.2 _ hcl) F.2.1.2.1 (KC_K F.2.1) hP hD hS F.2.2.2.1 h0 hx hb h1 h2 hdg (fun a cA H1 hK1 hP1 hD1 hS1 => ?_)
  have hcA : cA = ca 1 := by
    obtain ⟨-, -, -, -, -, e1⟩ := (hK1.2 4 (cA, .object "HammerEggs$Juggler") rfl).2
    obtain ⟨-, -, -, -, -, e2⟩ := ((KC_K F.2.1).2 1 _ rfl).2
    exact Option.some.inj (e1.symm.trans e2)
  subst hcA
  exact K a H1 locs ls hP1 hD1 hS1 hl
theorem u_newqT (F : FU p s m args meth c cc nL own D ca base A) {x : Int32} {index : Nat} (n : Nat) (hcl : Cond.classLink own index "HammerEggs$Thing" ∈ wAll) (h0 : ¬ x < 0) (hx : x.toNatClampNeg = n) (hb : n * 4 ≤ 536870912) (h1 : cells + 1 ≤ R.cells) (h2 : slots + n ≤ R.slots) (hdg : decode cc pc = .ok (.anewarray index, 3)) (K : ∀ a : Nat, UU p l e R s m args below meth c Q D A nL (w ++ [(a, .inl (ca 2, n, .inr (.inr (.inr (.inr (fun _ => none))))))]) (cells + 1) (slots + n) (pc + 3) lv (.ref a :: st)) : UU p l e R s m args below meth c Q D A nL w cells slots pc lv (.int x :: st) := by
  intro H locs ls hP hD hS hl
  refine va_newq F.1.1 F.1.2.1 F.1.2.2.2.1 (F.1.2.2.2.2 _ hcl) F.2.1.2.2 (KC_K F.2.1) hP hD hS F.2.2.2.1 h0 hx hb h1 h2 hdg (fun a cA H1 hK1 hP1 hD1 hS1 => ?_)
  have hcA : cA = ca 2 := by
    obtain ⟨-, -, -, -, -, e1⟩ := (hK1.2 4 (cA, .object "HammerEggs$Thing") rfl).2
    obtain ⟨-, -, -, -, -, e2⟩ := ((KC_K F.2.1).2 2 _ rfl).2
    exact Option.some.inj (e1.symm.trans e2)
  subst hcA
  exact K a H1 locs ls hP1 hD1 hS1 hl
theorem u_iast (F : FU p s m args meth c cc nL own D ca base A) {a n : Nat} {f : Nat → Int32} {x v : Int32} (q0 j : Nat) (he : w[q0]? = some (a, .inl (ca 0, n, .inl f))) (hx : Ix x j n) (hdg : decode cc pc = .ok (.iastore, 1)) {w' : va_W} (hw : w.set q0 (a, .inl (ca 0, n, .inl (upd f j v))) = w') (K : UU p l e R s m args below meth c Q D A nL w' cells slots (pc + 1) lv st) : UU p l e R s m args below meth c Q D A nL w cells slots pc lv (.int v :: .int x :: .ref a :: st) := by
  intro H locs ls hP hD hS hl
  subst hw
  refine va_iast F.1.1 F.1.2.1 (KC_K F.2.1) hP hD hS q0 0 he rfl (Ix_in hx) hdg (fun H1 locs1 hP1 hD1 hS1 => ?_)
  rw [hx.2.1] at hP1 hD1
  exact K H1 locs1 ls hP1 hD1 hS1 hl
theorem u_aast (F : FU p s m args meth c cc nL own D ca base A) {a n v ci : Nat} {r : vw_C} {vs : List Value} {f : Nat → Option Nat} {x : Int32} (q0 t0 qk j : Nat) (he : w[q0]? = some (a, .inl (ca t0, n, .inr (.inr (.inr (.inr f)))))) (ht : (tyC ca)[t0]? = some (ca t0, .object r.1)) (hv : w[qk]? = some (v, .inr (ci, vs))) (hc : vwCl[ci]? = some r) (hx : Ix x j n) (hdg : decode cc pc = .ok (.aastore, 1)) {w' : va_W} (hw : w.set q0 (a, .inl (ca t0, n, .inr (.inr (.inr (.inr (va_up f j (some v))))))) = w') (K : UU p l e R s m args below meth c Q D A nL w' cells slots (pc + 1) lv st) : UU p l e R s m args below meth c Q D A nL w cells slots pc lv (.ref v :: .int x :: .ref a :: st) := by
  intro H locs ls hP hD hS hl
  subst hw
  refine va_astq F.1.1 F.1.2.1 (KC_K F.2.1) hP hD hS q0 t0 qk ci he ht hv hc (Ix_in hx) hdg (fun H1 locs1 hP1 hD1 hS1 => ?_)
  rw [hx.2.1] at hP1 hD1
  exact K H1 locs1 ls hP1 hD1 hS1 hl
theorem u_new (F : FU p s m args meth c cc nL own D ca base A) {C : String} {T : u_T} {N ci index : Nat} (ty : Nat → FieldType) (hty : ∀ k, k < N → parseFieldDescriptor (T k).2.2.1 = some (ty k)) (hin : ∀ w, w ∈ u_ws C T N → w ∈ wAll) (hcl : Cond.classLink own index C ∈ wAll) (hinst : Cond.instantiable C N ∈ wAll) (hini : Cond.initialized C ∈ wAll) (hc : vwCl[ci]? = some (C, T, N)) {fs : List Value} (hfs : ∀ j, j < N → defaultValue (ty j) = vp_V fs j) (h1 : cells + 1 ≤ R.cells) (h2 : slots + N ≤ R.slots) (hdg : decode cc pc = .ok (.new index, 3)) (K : ∀ a : Nat, UU p l e R s m args below meth c Q D A nL (w ++ [(a, .inr (ci, fs))]) (cells + 1) (slots + N) (pc + 3) lv (.ref a :: st)) : UU p l e R s m args below meth c Q D A nL w cells slots pc lv st := by
  intro H locs ls hP hD hS hl
  exact va_new F.1.1 F.1.2.1 F.1.2.2.2.2 hin ty hty F.1.2.2.2.1 (F.1.2.2.2.2 _ hcl) (F.1.2.2.2.2 _ hinst) (F.1.2.2.2.2 _ hini) (KC_K F.2.1) hP hD hS F.2.2.2.1 hc hfs h1 h2 hdg (fun a H1 hP1 hD1 hS1 => K a H1 locs ls hP1 hD1 hS1 hl)
/-- behind a constructor's call -/
theorem u_join {h : Nat} {e0 : va_E} {bw : va_W} {H H1 : Heap} (hP : va_P D vwCl (w ++ [(h, e0)]) H) (hD : va_D A (w ++ [(h, e0)])) (hP1 : va_P D vwCl bw H1) (hD1 : va_D (fA h H.size) bw) (hk : ∀ q : Nat, q < H.size → ¬ fA h H.size q → H1[q]? = H[q]?) (hA : ∀ q, fA h H.size q → A q) : va_P D vwCl (w ++ bw) H1 ∧ va_D A (w ++ bw) := by
  have hx : ∀ (k : Nat) (q : Nat × va_E), w[k]? = some q → q.1 < H.size ∧ q.1 ≠ h := by
    intro k q hq
    have hl : k < w.length := (List.getElem?_eq_some_iff.mp hq).1
    have hq2 : (w ++ [(h, e0)])[k]? = some q := by rw [List.getElem?_append_left hl]; exact hq
    refine ⟨(hP k q hq2).lt, fun z => ?_⟩
    have := hD.1 k w.length q (h, e0) hq2 (by rw [List.getElem?_append_right (Nat.le_refl _), Nat.sub_self]; rfl) z
    omega
  have hn : ∀ (k : Nat) (q : Nat × va_E), w[k]? = some q → ¬ fA h H.size q.1 := fun k q hq z => by
    obtain ⟨h1, h2⟩ := hx k q hq
    rcases z with z | z
    · exact h2 z
    · omega
  refine ⟨((va_P_spl hP).1.kept (fun k q hq => hk q.1 (hx k q hq).1 (hn k q hq))).app hP1, va_D.app ?_ (hD1.weaken (fun k q hq z => hA _ z)) (fun i j a b hi hj z => hn i a hi (by rw [z]; exact hD1.2 j b hj))⟩
  refine ⟨fun i j a b hi hj z => ?_, fun k q hq => ?_⟩
  · exact hD.1 i j a b (by rw [List.getElem?_append_left (List.getElem?_eq_some_iff.mp hi).1]; exact hi) (by rw [List.getElem?_append_left (List.getElem?_eq_some_iff.mp hj).1]; exact hj) z
  · exact hD.2 k q (by rw [List.getElem?_append_left (List.getElem?_eq_some_iff.mp hq).1]; exact hq)
theorem u_preS {h : Nat} {e0 : va_E} {avs : List Value} {H : Heap} {locs : List Loc} (F : FU p s m args meth c cc nL own D ca base A) (hP : va_P D vwCl (w ++ [(h, e0)]) H) (hD : va_D A (w ++ [(h, e0)])) (hS : va_S A s.heap H locs) (U : State) (hU : U.heap = H) (hW : s.WarmedH U.vm) : va_Pc (.ref h :: avs) (fun U => U.heap.size = H.size ∧ base ≤ h ∧ h < H.size ∧ KC D ca base U ∧ va_P D vwCl [(h, e0)] U.heap) (.ref h :: avs).toArray U := by
  have hq2 : (w ++ [(h, e0)])[w.length]? = some (h, e0) := by rw [List.getElem?_append_right (Nat.le_refl _), Nat.sub_self]; rfl
  exact ⟨rfl, by rw [hU], F.2.2.2.2 _ (hD.2 _ _ hq2), (hP _ _ hq2).lt, KC_pass F.2.2.2.2 hW (by rw [hU]; exact hS) F.2.1, by rw [hU]; exact (va_P_spl hP).2⟩
theorem u_blind {h sz : Nat} {e0 : va_E} {avs : List Value} : FrameBlind (va_Pc (.ref h :: avs) (fun U => U.heap.size = sz ∧ base ≤ h ∧ h < sz ∧ KC D ca base U ∧ va_P D vwCl [(h, e0)] U.heap)) := fun a U g mk q => ⟨q.1, q.2.1, q.2.2.1, q.2.2.2.1, KC_same (u := U) rfl rfl q.2.2.2.2.1, q.2.2.2.2.2⟩
theorem u_initI (F : FU p s m args meth c cc nL own D ca base A) {y : MethodName} {bytes : ByteArray} {maxL n index mc ms h : Nat} {rm : Room} {e0 : va_E} {As rest : List Value} {B : Nat → va_W → Prop} (hst : st = As.reverse ++ .ref h :: rest) (hM : CN D ca base l y (wsc y bytes maxL none) rm e0 As B mc ms) (hcd : Cond.code y bytes maxL none ∈ wAll) (hlk : Cond.methodLink own index y ∈ wAll) (him : Cond.instanceMethod y ∈ wAll) (hini : Cond.initialized y.cls ∈ wAll) (hyn : y.name = "<init>") (hyd : y.cls ≠ "java/lang/invoke/MethodHandle" ∧ y.cls ≠ "java/lang/invoke/VarHandle" ∧ (parseMethodDescriptor y.desc).map (fun d => d.parameters.length) = some n) (hn : As.length = n) (hr : Rr R rm maxL cells slots mc ms rest) (hdg : decode cc pc = .ok (.invokespecial index, 3))
    (K : ∀ bw, B h bw → UU p l e R s m args below meth c Q D A nL (w ++ bw) (cells + mc) (slots + ms) (pc + 3) lv rest) : UU p l e R s m args below meth c Q D A nL (w ++ [(h, e0)]) cells slots pc lv st := by
  intro H locs ls hP hD hS hl
  subst hst
  have hA : ∀ q, fA h H.size q → A q := fun q z => by
    rcases z with z | z
    · rw [z]; exact hD.2 w.length (h, e0) (by rw [List.getElem?_append_right (Nat.le_refl _), Nat.sub_self]; rfl)
    · exact F.2.2.2.1 q (Nat.le_trans hS.1 z)
  refine va_callv (va_runI (As := As) (rest := rest) F.1 (hM h H.size) (cwI n F.1.2.2.2.2 (good_c hcd) rfl hr.1 hr.2.1 (F.1.2.2.2.2 _ hini) (F.1.2.2.2.2 _ hlk) (F.1.2.2.2.2 _ him) hyn hyd ⟨hr.2.2.1, hr.2.2.2.1⟩) ⟨u_blind, fun U hU hW => u_preS F hP hD hS U hU hW⟩ rfl hn hl.1 rfl (lv_room hr.2.2.2.2.2.2) hdg ⟨hr.2.2.2.2.1, hr.2.2.2.2.2.1⟩) hS (fun q _ z => hA q z) hA (fun bw t H1 locs1 ht hvm hB hB2 hz hk hS1 => ?_)
  rw [ht] at hB2
  obtain ⟨hP1, hD1⟩ := u_join hP hD hB2.1 hB2.2 hk hA
  exact K bw hB H1 locs1 ls hP1 hD1 hS1 hl
theorem u_initN (F : FU p s m args meth c cc nL own D ca base A) {y : MethodName} {bytes : ByteArray} {maxL n index mc ms h : Nat} {rm : Room} {e0 : va_E} {As rest : List Value} {B : Nat → va_W → Prop} {host : String} (hst : st = As.reverse ++ .ref h :: rest) (hM : CN D ca base l y (wsc y bytes maxL none) rm e0 As B mc ms) (hcd : Cond.code y bytes maxL none ∈ wAll) (hlk : Cond.methodLinkNest own index y host ∈ nestW) (him : Cond.instanceMethod y ∈ wAll) (hini : Cond.initialized y.cls ∈ wAll) (hyn : y.name = "<init>") (hyd : y.cls ≠ "java/lang/invoke/MethodHandle" ∧ y.cls ≠ "java/lang/invoke/VarHandle" ∧ (parseMethodDescriptor y.desc).map (fun d => d.parameters.length) = some n) (hn : As.length = n) (hr : Rr R rm maxL cells slots mc ms rest) (hdg : decode cc pc = .ok (.invokespecial index, 3))
    (K : ∀ bw, B h bw → UU p l e R s m args below meth c Q D A nL (w ++ bw) (cells + mc) (slots + ms) (pc + 3) lv rest) : UU p l e R s m args below meth c Q D A nL (w ++ [(h, e0)]) cells slots pc lv st := by
  intro H locs ls hP hD hS hl
  subst hst
  have hA : ∀ q, fA h H.size q → A q := fun q z => by
    rcases z with z | z
    · rw [z]; exact hD.2 w.length (h, e0) (by rw [List.getElem?_append_right (Nat.le_refl _), Nat.sub_self]; rfl)
    · exact F.2.2.2.1 q (Nat.le_trans hS.1 z)
  refine va_callv (va_runIN (As := As) (rest := rest) F.1 (hM h H.size) ⟨va_cnB n F.1.2.2.2.2 (good_c hcd) rfl hr.1 hr.2.1 (F.2.1.1.2.2.1 _ hlk) (F.1.2.2.2.2 _ hini) hyd ⟨hr.2.2.1, hr.2.2.2.1⟩, hyn, F.1.2.2.2.2 _ him⟩ ⟨u_blind, fun U hU hW => u_preS F hP hD hS U hU hW⟩ rfl hn hl.1 rfl (lv_room hr.2.2.2.2.2.2) hdg ⟨hr.2.2.2.2.1, hr.2.2.2.2.2.1⟩) hS (fun q _ z => hA q z) hA (fun bw t H1 locs1 ht hvm hB hB2 hz hk hS1 => ?_)
  rw [ht] at hB2
  obtain ⟨hP1, hD1⟩ := u_join hP hD hB2.1 hB2.2 hk hA
  exact K bw hB H1 locs1 ls hP1 hD1 hS1 hl
theorem u_vret {B : Nat → va_W → Prop} {h : Nat} (F : FU p s m args meth c cc nL own D ca base (fA h s.heap.size)) (hr : meth.sig.returnType = none) (hdg : decode cc pc = .ok (.return_, 1)) (hB : B h w) : UU p l e R s m args below meth c (QN D B h below args s cells slots) D (fA h s.heap.size) nL w cells slots pc lv [] := by
  intro H locs ls hP hD hS hl
  exact W.vret F.1.1 F.1.2.1 hr (fun t ht hW => ⟨⟨w, rfl, hB, by rw [ht]; exact hP, hD⟩, hS.F ht⟩) hS.2.2 hdg F.2.2.1
end UR
