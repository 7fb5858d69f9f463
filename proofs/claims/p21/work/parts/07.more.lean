/-! ===== further rows: layered memories, temporary arrays, whole copies ===== -/
section VM
variable {p : Program} {l : Launch} {e : Env} {R : Room} {s : State} {m : MethodId} {args : Array Value} {below : List Frame} {meth : Method} {c : Code} {Q : State → Prop} {X : Cx} {nL : Nat} {ex : va_W} {M M' : Mem} {lf lf' : Lf} {cells slots pc : Nat} {lv : List (Nat × Value)} {st : List Value} {cc : ByteArray} {own : String}
theorem heR {r k i : Nat} {σ : Sg} (hr : r < 2) : celD X lf r k i ((uC M r σ) r k i) = celR (X.2.1 r) X.2.2.1 k i (σ k i) := by rw [uC_at]; exact celD_R hr
theorem heO {r t k i : Nat} {σ : Sg} (h : t ≠ r) : celD X lf t k i ((uC M r σ) t k i) = celD X lf t k i (M t k i) := by rw [uC_ne h]
theorem v_putC (F : Fx p l s m args meth c cc nL own X) {r k i ci : Nat} {σ : Sg} {fs : List Value} {C : String} {T : u_T} {N : Nat} (ty0 : Nat → FieldType) (hty : ∀ k, k < N → parseFieldDescriptor (T k).2.2.1 = some (ty0 k)) (hnm : ∀ a, a < N → ∀ b, b < N → a ≠ b → (T a).2.1 ≠ (T b).2.1) (hid : (r, k, i) ∈ ids) (he : celD X lf r k i (σ k i) = .inr (ci, fs)) (hc : vwCl[ci]? = some (C, T, N)) (hin : ∀ w, w ∈ u_ws C T N → w ∈ wAll) (j : Nat) (hj : j < N) (hT : (T j).1 = C) (hF : (T j).2.2.2 = false) (hd : parseFieldDescriptor (T j).2.2.1 = some .int) {v : Int32} (he2 : celD X lf r k i (upd (σ k i) j v) = .inr (ci, fs.set j (.int v))) (hl0 : j < fs.length) {index : Nat} (hlink : Cond.fieldLink own index C (T j).2.1 (T j).2.2.1 ∈ wAll) (hdg : decode cc pc = .ok (.putfield index, 3)) (K : V p l e R s m args below meth c Q X nL ex (uC M r (u3 σ k i j v)) lf cells slots (pc + 3) lv st) : V p l e R s m args below meth c Q X nL ex (uC M r σ) lf cells slots pc lv (.int v :: .ref (X.2.1 r k i) :: st) :=
  v_put F ty0 hty hnm hid (by rw [uC_at]; exact he) hc hin j hj hT hF hd (by rw [uC_at]; exact he2) hl0 hlink hdg (v_mem (by rw [uC_at, uC_uC]) K)
theorem v_putNC (F : Fx p l s m args meth c cc nL own X) {r k i ci : Nat} {σ : Sg} {fs : List Value} {C host : String} {T : u_T} {N : Nat} (ty0 : Nat → FieldType) (hty : ∀ k, k < N → parseFieldDescriptor (T k).2.2.1 = some (ty0 k)) (hnm : ∀ a, a < N → ∀ b, b < N → a ≠ b → (T a).2.1 ≠ (T b).2.1) (hid : (r, k, i) ∈ ids) (he : celD X lf r k i (σ k i) = .inr (ci, fs)) (hc : vwCl[ci]? = some (C, T, N)) (hin : ∀ w, w ∈ u_ws C T N → w ∈ wAll) (j : Nat) (hj : j < N) (hT : (T j).1 = C) (hF : (T j).2.2.2 = false) (hd : parseFieldDescriptor (T j).2.2.1 = some .int) {v : Int32} (he2 : celD X lf r k i (upd (σ k i) j v) = .inr (ci, fs.set j (.int v))) (hl0 : j < fs.length) {index : Nat} (hlink : Cond.fieldLinkNest own index C (T j).2.1 (T j).2.2.1 host ∈ nestW) (hdg : decode cc pc = .ok (.putfield index, 3)) (K : V p l e R s m args below meth c Q X nL ex (uC M r (u3 σ k i j v)) lf cells slots (pc + 3) lv st) : V p l e R s m args below meth c Q X nL ex (uC M r σ) lf cells slots pc lv (.int v :: .ref (X.2.1 r k i) :: st) :=
  v_putN F ty0 hty hnm hid (by rw [uC_at]; exact he) hc hin j hj hT hF hd (by rw [uC_at]; exact he2) hl0 hlink hdg (v_mem (by rw [uC_at, uC_uC]) K)
theorem v_iastC (F : Fx p l s m args meth c cc nL own X) {r k i n : Nat} {σ : Sg} {cA : ClassId} (hid : (r, k, i) ∈ ids) (he : celD X lf r k i (σ k i) = .inl (cA, n, .inl (σ k i))) (hcA : cA = X.2.2.1 0) {x v : Int32} (j : Nat) (hx : Ix x j n) (he2 : celD X lf r k i (upd (σ k i) j v) = .inl (cA, n, .inl (upd (σ k i) j v))) (hdg : decode cc pc = .ok (.iastore, 1)) (K : V p l e R s m args below meth c Q X nL ex (uC M r (u3 σ k i j v)) lf cells slots (pc + 1) lv st) : V p l e R s m args below meth c Q X nL ex (uC M r σ) lf cells slots pc lv (.int v :: .int x :: .ref (X.2.1 r k i) :: st) :=
  v_iast F hid (by rw [uC_at]; exact he) hcA j hx (by rw [uC_at]; exact he2) hdg (v_mem (by rw [uC_at, uC_uC]) K)
theorem iinc_nI (i : Nat) : nI i + Int32.ofInt 1 = nI (i + 1) := (nI_succ i).symm
theorem v_open (r : Nat) (σ : Sg) (h : M r = σ) (K : V p l e R s m args below meth c Q X nL ex (uC M r σ) lf cells slots pc lv st) : V p l e R s m args below meth c Q X nL ex M lf cells slots pc lv st := v_mem (by rw [← h]; exact uC_self M r) K
/-- a static call of a nest mate -/
def Wt (own : String) (index : Nat) (y : MethodName) (bytes : ByteArray) (maxL : Nat) (ret : Option FieldType) (n : Nat) : Prop := (y.cls ≠ "java/lang/invoke/MethodHandle" ∧ y.cls ≠ "java/lang/invoke/VarHandle" ∧ (parseMethodDescriptor y.desc).map (fun d => d.parameters.length) = some n) ∧ (∃ host, Cond.methodLinkNest own index y host ∈ nestW) ∧ Cond.static y ∈ wAll ∧ Cond.initialized y.cls ∈ wAll ∧ Cond.code y bytes maxL ret ∈ wAll
theorem v_callTi (F : Fx p l s m args meth c cc nL own X) {y : MethodName} {bytes : ByteArray} {maxL n index mc ms : Nat} {ret : Option FieldType} {rm : Room} {As rest : List Value} {r : Int32} (hst : st = As.reverse ++ rest) (hM : CI X l y (wsc y bytes maxL ret) rm As M lf r M' lf' mc ms) (w : Wt own index y bytes maxL ret n) (hn : As.length = n) (hr : Rr R rm maxL cells slots mc ms rest) (hdg : decode cc pc = .ok (.invokestatic index, 3)) (K : V p l e R s m args below meth c Q X nL ex M' lf' (cells + mc) (slots + ms) (pc + 3) lv (.int r :: rest)) : V p l e R s m args below meth c Q X nL ex M lf cells slots pc lv st := by
  intro H locs ls hP hE hS hl
  subst hst
  obtain ⟨host, hh⟩ := w.2.1
  refine va_calli (va_runSN (As := As) (rest := rest) F.1 (hM H.size) ⟨va_cnB n F.1.2.2.2.2 (good_c w.2.2.2.2) rfl hr.1 hr.2.1 (F.2.1.2.2.1 _ hh) (F.1.2.2.2.2 _ w.2.2.2.1) w.1 ⟨hr.2.2.1, hr.2.2.2.1⟩, F.1.2.2.2.2 _ w.2.2.1, trivial⟩ ⟨PreW_blind, fun U hU hW => v_pre F hP hS U hU hW⟩ rfl hn hl.1 rfl (lv_room hr.2.2.2.2.2.2) hdg ⟨hr.2.2.2.2.1, hr.2.2.2.2.2.1⟩) hS (fun q _ h => xA_mono hS.1 q h) (xA_mono hS.1) (fun x u t H1 locs1 ht hvm hx hB hz hk hS1 => ?_)
  subst hx
  exact K H1 locs1 ls (v_post hP hE ht hB hk) hE hS1 hl
/-- a temporary array of ints -/
abbrev exI (X : Cx) (a n : Nat) (f : Nat → Int32) : va_W := [(a, .inl (X.2.2.1 0, n, .inl f))]
theorem v_newt (F : Fx p l s m args meth c cc nL own X) {x : Int32} (n : Nat) (hw : Cond.arrayClass .int ∈ wAll) (h0 : ¬ x < 0) (hx : x.toNatClampNeg = n) (hb : n * componentBytes .int ≤ 536870912) (h1 : cells + 1 ≤ R.cells) (h2 : slots + n ≤ R.slots) (hdg : decode cc pc = .ok (.newarray .int, 2)) (K : ∀ a : Nat, V p l e R s m args below meth c Q X nL (exI X a n (fun _ => 0)) M lf (cells + 1) (slots + n) (pc + 2) lv (.ref a :: st)) : V p l e R s m args below meth c Q X nL [] M lf cells slots pc lv (.int x :: st) := by
  intro H locs ls hP hE hS hl
  refine va_newa (atype := .int) (ty := .int) (a0 := (n, .inl (fun _ => 0))) F.1.1 F.1.2.1 (F.1.2.2.2.2 _ hw) rfl F.2.1.2.1 hP (wl_DE F.2.2.1 M lf hE) hS (fun q h => xA_sz h) (fun cA => rfl) h0 hx hb h1 h2 hdg (fun a cA H1 hK1 hP1 hD1 hS1 => ?_)
  have hcA : cA = X.2.2.1 0 := by
    have e1 : s.vm.findClass ("[" ++ (FieldType.int).toString) = some cA := (hK1.2 4 (cA, .int) rfl).2
    have e2 : s.vm.findClass ("[" ++ (FieldType.int).toString) = some (X.2.2.1 0) := (F.2.1.2.1.2 0 _ rfl).2
    exact Option.some.inj (e1.symm.trans e2)
  subst hcA
  rw [List.append_nil] at hP1 hD1
  have hne : ∀ p, p ∈ ids → a ≠ xad X p := by
    intro p hp ha
    obtain ⟨j, hj⟩ := List.getElem?_of_mem hp
    have h3 : (wl X M lf)[j]? = some (xad X p, celD X lf p.1 p.2.1 p.2.2 (M p.1 p.2.1 p.2.2)) := by
      unfold wl
      rw [List.getElem?_map, hj]
      rfl
    have hjl : j < (wl X M lf).length := (List.getElem?_eq_some_iff.mp h3).1
    have h4 := hD1.1 j (wl X M lf).length _ (a, .inl (X.2.2.1 0, n, .inl (fun _ => 0))) (by rw [List.getElem?_append_left hjl]; exact h3) (by rw [List.getElem?_append_right (Nat.le_refl _), Nat.sub_self]; rfl) ha.symm
    omega
  have hsz : s.heap.size ≤ a := by
    have h3 := hD1.2 (wl X M lf).length (a, .inl (X.2.2.1 0, n, .inl (fun _ => 0))) (by rw [List.getElem?_append_right (Nat.le_refl _), Nat.sub_self]; rfl)
    rcases h3 with ⟨p, hp, h4⟩ | h3
    · exact absurd h4 (hne p hp)
    · exact h3
  refine K a H1 locs ls hP1 ⟨⟨fun i j x y hi hj _ => ?_, fun k q hk => ?_⟩, fun k q hk p hp => ?_⟩ hS1 hl
  · have h3 := (List.getElem?_eq_some_iff.mp hi).1
    have h4 := (List.getElem?_eq_some_iff.mp hj).1
    simp only [List.length_cons, List.length_nil] at h3 h4
    omega
  · rcases List.mem_singleton.mp (List.mem_of_getElem? hk) with rfl
    exact hsz
  · rcases List.mem_singleton.mp (List.mem_of_getElem? hk) with rfl
    exact hne p hp
theorem v_eald (F : Fx p l s m args meth c cc nL own X) {a n : Nat} {f : Nat → Int32} {x : Int32} (j : Nat) (hx : Ix x j n) (hdg : decode cc pc = .ok (.iaload, 1)) (K : V p l e R s m args below meth c Q X nL (exI X a n f) M lf cells slots (pc + 1) lv (.int (f j) :: st)) : V p l e R s m args below meth c Q X nL (exI X a n f) M lf cells slots pc lv (.int x :: .ref a :: st) := by
  intro H locs ls hP hE hS hl
  have hK := K H locs ls hP hE hS hl
  rw [← hx.2.1] at hK
  exact va_iald F.1.1 F.1.2.1 F.2.1.2.1 (va_P_spl hP).2 0 0 rfl rfl (Ix_in hx) hdg hK
theorem v_east (F : Fx p l s m args meth c cc nL own X) {a n : Nat} {f : Nat → Int32} {x v : Int32} (j : Nat) (hx : Ix x j n) (hdg : decode cc pc = .ok (.iastore, 1)) (K : V p l e R s m args below meth c Q X nL (exI X a n (upd f j v)) M lf cells slots (pc + 1) lv st) : V p l e R s m args below meth c Q X nL (exI X a n f) M lf cells slots pc lv (.int v :: .int x :: .ref a :: st) := by
  intro H locs ls hP hE hS hl
  have hq : (wl X M lf ++ exI X a n f)[(wl X M lf).length]? = some (a, .inl (X.2.2.1 0, n, .inl f)) := by
    rw [List.getElem?_append_right (Nat.le_refl _), Nat.sub_self]; rfl
  refine va_iast F.1.1 F.1.2.1 F.2.1.2.1 hP (wl_DE F.2.2.1 M lf hE) hS (wl X M lf).length 0 hq rfl (Ix_in hx) hdg (fun H1 locs1 hP1 hD1 hS1 => ?_)
  rw [hx.2.1, List.set_append_right _ _ (Nat.le_refl _), Nat.sub_self] at hP1
  refine K H1 locs1 ls hP1 ⟨⟨fun i j x y hi hj _ => ?_, fun k q hk => ?_⟩, fun k q hk p hp => ?_⟩ hS1 hl
  · have h3 := (List.getElem?_eq_some_iff.mp hi).1
    have h4 := (List.getElem?_eq_some_iff.mp hj).1
    simp only [List.length_cons, List.length_nil] at h3 h4
    omega
  · rcases List.mem_singleton.mp (List.mem_of_getElem? hk) with rfl
    exact hE.1.2 0 (a, .inl (X.2.2.1 0, n, .inl f)) rfl
  · rcases List.mem_singleton.mp (List.mem_of_getElem? hk) with rfl
    exact hE.2 0 (a, .inl (X.2.2.1 0, n, .inl f)) rfl p hp
end VM
