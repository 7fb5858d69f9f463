/-! ===== methods with handlers ===== -/
abbrev wsh (y : MethodName) (cc : ByteArray) (n : Nat) (ret : Option FieldType) (hh : List (Nat × Nat × Nat × Nat)) : List Cond := .codeWith y cc n ret hh :: wAll
theorem CI_ofH {X : Cx} {l : Launch} {y : MethodName} {cc : ByteArray} {nL : Nat} {rm : Room} {av : List Value} {M M' : Mem} {lf lf' : Lf} {mc ms : Nat} {lv : List (Nat × Value)} {ty : FieldType} {r : Int32} {hh : List (Nat × Nat × Nat × Nat)} (G : Gx X l) (hy : plainName y.cls = true) (hn : (lg_sl av).length ≤ nL) (hlv : lv_args 0 av = lv)
    (body : ∀ p e s m args below meth c, Fx p l s m args meth c cc nL y.cls X → meth.sig.returnType = some ty → c.exceptionTable.toList = tableOf hh → V p l e rm s m args below meth c (QI X below args s r M' lf' mc ms) X nL [] M lf 0 0 0 lv []) : CI X l y (wsh y cc nL (some ty) hh) rm av M lf r M' lf' mc ms := by
  intro sz
  refine MetFree.of_bodyS (code := cc) (maxLocals := nL) (ret := some ty) hy ?_ ?_
  · intro args s m h hn
    obtain ⟨m9, meth, c, hn9, h1, h2, h3, h4, -, h5, h6, -⟩ := Cond.codeWith_spec (atoms_spec (ws := wsh y cc nL (some ty) hh) h _ List.mem_cons_self)
    cases hn.symm.trans hn9
    exact ⟨meth, c, h1, h2, h3, h4, h5, h6⟩
  · intro p e s m args below meth c s₁ B hml hP _
    have hcw : (Cond.codeWith y cc nL (some ty) hh).before args s = true := atoms_spec (ws := wsh y cc nL (some ty) hh) B.pre _ List.mem_cons_self
    have hml2 : c.maxLocals = nL := hml
    have hh0 : s₁.heap = s.heap := by rw [B.state]; rfl
    obtain ⟨rfl, hsz, hK, hPw⟩ := hP
    subst hsz
    have h := body p e s m _ below meth c (Fx_of G B hml2 hK) B.returns (vx_table (x := y) B hcw) s.heap [] _ (by rw [List.append_nil]; exact hPw) exOk_nil va_S.rf (hlv ▸ lv_entry av hn)
    rw [← lg_entry_eq] at h
    obtain ⟨t, a1, o, b1, b2, b3⟩ := h s₁ hh0 (Stand.of_body B)
    exact ⟨t, o, a1, b1, b2, b3⟩
theorem wcl_Ls : Cond.classLink RL 48 "java/lang/IllegalStateException" ∈ wAll := wAll_in (i := 524) (by decide +kernel) (by decide +kernel)
theorem wca_s : Cond.castable "java/lang/IllegalStateException" "java/lang/IllegalStateException" ∈ badW := bad_in (i := 89) (by decide +kernel) rfl
theorem wcw_give : Cond.codeWith yL_give cL_give 5 (some .int) [(0, 7, 8, 48)] ∈ wAll := wAll_in (i := 523) (by decide +kernel) (by decide +kernel)
section VH
variable {p : Program} {l : Launch} {e : Env} {R : Room} {s : State} {m : MethodId} {args : Array Value} {below : List Frame} {meth : Method} {c : Code} {Q : State → Prop} {X : Cx} {nL : Nat} {ex : va_W} {M : Mem} {lf : Lf} {cells slots pc : Nat} {lv : List (Nat × Value)} {rest : List Value} {cc : ByteArray} {own : String}
theorem v_catch (F : Fx p l s m args meth c cc nL own X) {E name : String} {hh : List (Nat × Nat × Nat × Nat)} (htab : c.exceptionTable.toList = tableOf hh) (pre : List ExceptionTableEntry) (x : ExceptionTableEntry) (suf : List ExceptionTableEntry) (hsplit : tableOf hh = pre ++ x :: suf)
    (hpass : ∀ z ∈ pre, covers z pc = false ∨ (z.catchType ≠ 0 ∧ ∃ nm : String, Cond.classLink own z.catchType nm ∈ wAll ∧ (E, nm) ∈ ncW)) (hx : covers x pc = true) (h0 : x.catchType ≠ 0) (hlink : Cond.classLink own x.catchType name ∈ wAll) (hcast : Cond.castable E name ∈ badW)
    (H1 : Heap) (locs1 : List Loc) (ls : Array Slot) (ce : Cell) (q9 : Addr) (hP : va_P X.1 vwCl (wl X M lf ++ ex) H1) (hE : exOk X s.heap.size ex) (hS : va_S (xA X s.heap.size) s.heap H1 locs1) (hl : lv_has ls nL lv) (h9 : H1[q9]? = some ce) (hv9 : ce.vm = .none) (hc9 : s.vm.findClass E = some ce.cls)
    (K : V p l e R s m args below meth c Q X nL ex M lf cells slots x.handlerPc lv [.ref q9]) : vx_W p l e R s m args below meth c H1 locs1 cells slots Q (F0 m pc ls rest) q9 := by
  refine vx_catch (E := E) (name := name) (own := own) F.1.2.2.2.1 pre x suf (htab.trans hsplit) (fun z hz => ?_) hx h0 (F.1.2.2.2.2 _ hlink) (va_Nw.use (bad_tab _ hcast) (F.2.1.2.2.2.2.1 _ hcast)) h9 hv9 hc9 (K H1 locs1 ls hP hE hS hl)
  rcases hpass z hz with h | ⟨h1, nm, h2, h3⟩
  · exact Or.inl h
  · exact Or.inr ⟨h1, nm, F.1.2.2.2.2 _ h2, F.2.1.2.2.2.2.2.1 _ h3⟩
end VH

section SHW
variable {p : Program} {l : Launch} {e : Env} {R : Room} {s : State} {m : MethodId} {args : Array Value} {below : List Frame} {meth : Method} {c : Code} {Q : State → Prop} {X : Cx} {nL : Nat} {ex : va_W} {M M' : Mem} {lf lf' : Lf} {cells slots pc : Nat} {lv : List (Nat × Value)} {st : List Value} {cc : ByteArray} {own : String}
theorem v_callSHi (F : Fx p l s m args meth c cc nL own X) {r : Int32} {y : MethodName} {bytes : ByteArray} {maxL n index mc ms : Nat} {ret : Option FieldType} {hh : List (Nat × Nat × Nat × Nat)} {rm : Room} {As rest : List Value} (hst : st = As.reverse ++ rest) (hM : CI X l y (wsh y bytes maxL ret hh) rm As M lf r M' lf' mc ms) (hcw : Cond.codeWith y bytes maxL ret hh ∈ wAll) (hlk : Cond.methodLink own index y ∈ wAll) (hsm : Cond.static y ∈ wAll) (hini : Cond.initialized y.cls ∈ wAll) (hyd : y.cls ≠ "java/lang/invoke/MethodHandle" ∧ y.cls ≠ "java/lang/invoke/VarHandle" ∧ (parseMethodDescriptor y.desc).map (fun d => d.parameters.length) = some n) (hn : As.length = n) (hr : Rr R rm maxL cells slots mc ms rest) (hdg : decode cc pc = .ok (.invokestatic index, 3)) (K : V p l e R s m args below meth c Q X nL ex M' lf' (cells + mc) (slots + ms) (pc + 3) lv (.int r :: rest)) : V p l e R s m args below meth c Q X nL ex M lf cells slots pc lv st := by
  intro H locs ls hP hE hS hl
  subst hst
  refine va_calli (vx_runSW (As := As) (rest := rest) (hh := hh) F.1 (hM H.size) ⟨⟨hr.1, hr.2.1, hr.2.2.1, hr.2.2.2.1, pay_in F.1.2.2.2.2 (good_c hcw), List.mem_cons_self⟩, F.1.2.2.2.2 _ hcw, F.1.2.2.2.2 _ hini, ⟨hyd.1, hyd.2.1⟩, fun sig h => ?_, F.1.2.2.2.2 _ hlk, F.1.2.2.2.2 _ hsm⟩ ⟨PreW_blind, fun U hU hW => v_pre F hP hS U hU hW⟩ rfl hn hl.1 rfl (lv_room hr.2.2.2.2.2.2) hdg ⟨hr.2.2.2.2.1, hr.2.2.2.2.2.1⟩) hS (fun q _ h => xA_mono hS.1 q h) (xA_mono hS.1) (fun x u t H1 locs1 ht hvm hx hB hz hk hS1 => ?_)
  · have h2 := hyd.2.2
    rw [h] at h2
    exact (Option.some.inj h2).symm
  · subst hx
    exact K H1 locs1 ls (v_post hP hE ht hB hk) hE hS1 hl
end SHW
abbrev rm_L_give : Room := { frames := 8, cells := 1, slots := 6, locals := 130 }
set_option maxHeartbeats 4000000 in
set_option maxRecDepth 100000 in
theorem c_L_give {X : Cx} {l : Launch} (G : Gx X l) {M : Mem} {lf : Lf} {jc tc : Nat} {ln : Nat → Nat} (hS : Shp (M 0) jc tc ln) {k j hd : Nat} (hk : k < tc) (hj : j < jc) (hh : hd < 2) : CI X l yL_give (wsh yL_give cL_give 5 (some .int) [(0, 7, 8, 48)]) rm_L_give [.ref (X.2.1 5 0 0), .int (nI k), .int (nI j), .int (nI hd)] (M) lf (gvR (M 0) k j hd) (gvM M k j hd) lf 1 6 := by
  refine CI_ofH (lv := [(0, .ref _), (1, .int _), (2, .int _), (3, .int _)]) G (by decide) (Nat.le_of_ble_eq_true rfl) rfl (fun p e s m args below meth c F hr htab => ?_)
  have F : Fx p l s m args meth c cL_give 5 RL X := F
  have h4 := hS.1
  have h12 := hS.2.1
  by_cases g1 : M 0 8 k 1 = 0
  · by_cases g2 : M 0 6 j hd = -1
    · skip
      refine v_aload_n F dL_give_0 rfl 0 rfl ?_
      refine v_iload_n F dL_give_1 rfl 1 rfl ?_
      refine v_iload_n F dL_give_2 rfl 2 rfl ?_
      refine v_iload_n F dL_give_3 rfl 3 rfl ?_
      refine v_callVi F (As := [_, _, _]) (rest := []) rfl (c_X4_give G hS hk hj hh g1 g2) Rv_H wm_L_46 rfl ⟨rfl, rfl, Nat.le_of_ble_eq_true rfl, Nat.le_of_ble_eq_true rfl, Nat.le_of_ble_eq_true rfl, Nat.le_of_ble_eq_true rfl, Nat.le_of_ble_eq_true rfl⟩ dL_give_4 ?_
      refine v_widen (k := 1) (n := 6) (by decide) (by decide) ?_
      refine v_iret F hr dL_give_7 ?_ ?_ rfl
      · unfold gvR; rw [if_pos ⟨g1, g2⟩]
      · unfold gvM; rw [if_pos ⟨g1, g2⟩]
    · skip
      refine v_aload_n F dL_give_0 rfl 0 rfl ?_
      refine v_iload_n F dL_give_1 rfl 1 rfl ?_
      refine v_iload_n F dL_give_2 rfl 2 rfl ?_
      refine v_iload_n F dL_give_3 rfl 3 rfl ?_
      refine v_callXVi F (As := [_, _, _]) (rest := []) rfl (x_X4_give_o G hS hk hj hh g1 g2) Rv_H wm_L_46 rfl ⟨rfl, rfl, Nat.le_of_ble_eq_true rfl, Nat.le_of_ble_eq_true rfl, Nat.le_of_ble_eq_true rfl, Nat.le_of_ble_eq_true rfl, Nat.le_of_ble_eq_true rfl⟩ dL_give_4 (fun H1 locs1 ls ce q9 a1 a2 a3 a4 a5 a6 a7 => ?_)
      refine v_catch F htab [] ⟨0, 7, 8, 48⟩ [] rfl (fun z hz => absurd hz List.not_mem_nil) (by decide) (by decide) wcl_Ls wca_s H1 locs1 ls ce q9 a1 a2 a3 a4 a5 a6 a7 ?_
      refine v_astore F dL_give_8 (by decide) (lv' := [(4, .ref _), (0, .ref _), (1, .int _), (2, .int _), (3, .int _)]) rfl ?_
      refine v_iconst F (v := (-1)) dL_give_10 (by decide) ?_
      refine v_iret F hr dL_give_11 ?_ ?_ rfl
      · unfold gvR; rw [if_neg (fun z => g2 z.2)]
      · unfold gvM; rw [if_neg (fun z => g2 z.2)]
  · skip
    refine v_aload_n F dL_give_0 rfl 0 rfl ?_
    refine v_iload_n F dL_give_1 rfl 1 rfl ?_
    refine v_iload_n F dL_give_2 rfl 2 rfl ?_
    refine v_iload_n F dL_give_3 rfl 3 rfl ?_
    refine v_callXVi F (As := [_, _, _]) (rest := []) rfl (x_X4_give_s G hS hk hj hh g1) Rv_H wm_L_46 rfl ⟨rfl, rfl, Nat.le_of_ble_eq_true rfl, Nat.le_of_ble_eq_true rfl, Nat.le_of_ble_eq_true rfl, Nat.le_of_ble_eq_true rfl, Nat.le_of_ble_eq_true rfl⟩ dL_give_4 (fun H1 locs1 ls ce q9 a1 a2 a3 a4 a5 a6 a7 => ?_)
    refine v_catch F htab [] ⟨0, 7, 8, 48⟩ [] rfl (fun z hz => absurd hz List.not_mem_nil) (by decide) (by decide) wcl_Ls wca_s H1 locs1 ls ce q9 a1 a2 a3 a4 a5 a6 a7 ?_
    refine v_astore F dL_give_8 (by decide) (lv' := [(4, .ref _), (0, .ref _), (1, .int _), (2, .int _), (3, .int _)]) rfl ?_
    refine v_iconst F (v := (-1)) dL_give_10 (by decide) ?_
    refine v_iret F hr dL_give_11 ?_ ?_ rfl
    · unfold gvR; rw [if_neg (fun z => g1 z.1)]
    · unfold gvM; rw [if_neg (fun z => g1 z.1)]
