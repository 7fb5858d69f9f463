/-! ===== further rows: the law's own arrays, its script, its helpers ===== -/
section VX
variable {p : Program} {l : Launch} {e : Env} {R : Room} {s : State} {m : MethodId} {args : Array Value} {below : List Frame} {meth : Method} {c : Code} {Q : State → Prop} {X : Cx} {nL : Nat} {ex : va_W} {M M' : Mem} {lf lf' : Lf} {cells slots pc : Nat} {lv : List (Nat × Value)} {st : List Value} {cc : ByteArray} {own : String}
theorem v_ishr (F : Fx p l s m args meth c cc nL own X) {x y : Int32} (hdg : decode cc pc = .ok (.ishr, 1)) (K : V p l e R s m args below meth c Q X nL ex M lf cells slots (pc + 1) lv (.int (x >>> (y &&& 31)) :: st)) : V p l e R s m args below meth c Q X nL ex M lf cells slots pc lv (.int y :: .int x :: st) := v_of (fun H locs ls hl k => lv_ishr F.1.1 F.1.2.1 hdg k) K
theorem v_ldc (F : Fx p l s m args meth c cc nL own X) {index : Nat} {v : Int32} (hc : Cond.constant own index v ∈ wAll) (hdg : decode cc pc = .ok (.ldc index, 2)) (K : V p l e R s m args below meth c Q X nL ex M lf cells slots (pc + 2) lv (.int v :: st)) : V p l e R s m args below meth c Q X nL ex M lf cells slots pc lv st := v_of (fun H locs ls hl k => lv_ldc F.1.1 F.1.2.1 F.1.2.2.2.1 (F.1.2.2.2.2 _ hc) hdg k) K
/-- further cells forgotten -/
theorem v_drop (K : V p l e R s m args below meth c Q X nL [] M lf cells slots pc lv st) : V p l e R s m args below meth c Q X nL ex M lf cells slots pc lv st := fun H locs ls hP hE hS hl => K H locs ls (by rw [List.append_nil]; exact (va_P_spl hP).1) exOk_nil hS hl
theorem wl_ex_at {k : Nat} {q : Nat × va_E} (h : ex[k]? = some q) : (wl X M lf ++ ex)[(wl X M lf).length + k]? = some q := by
  rw [List.getElem?_append_right (Nat.le_add_right _ _), Nat.add_sub_cancel_left]
  exact h
theorem exOk_set {sz k a : Nat} {e0 e1 : va_E} (h : exOk X sz ex) (hk : ex[k]? = some (a, e0)) : exOk X sz (ex.set k (a, e1)) := by
  refine ⟨h.1.set hk, fun j q hq p hp => ?_⟩
  by_cases z : j = k
  · subst z
    have hl : j < ex.length := (List.getElem?_eq_some_iff.mp hk).1
    rw [List.getElem?_set_self hl] at hq
    cases hq
    exact h.2 j _ hk p hp
  · rw [List.getElem?_set_ne (Ne.symm z)] at hq
    exact h.2 j q hq p hp
/-- an int row among them: read, written -/
theorem v_xald (F : Fx p l s m args meth c cc nL own X) {a n : Nat} {f : Nat → Int32} (k : Nat) (hk : ex[k]? = some (a, .inl (X.2.2.1 0, n, .inl f))) {x : Int32} (j : Nat) (hx : Ix x j n) (hdg : decode cc pc = .ok (.iaload, 1)) (K : V p l e R s m args below meth c Q X nL ex M lf cells slots (pc + 1) lv (.int (f j) :: st)) : V p l e R s m args below meth c Q X nL ex M lf cells slots pc lv (.int x :: .ref a :: st) := by
  intro H locs ls hP hE hS hl
  have hK := K H locs ls hP hE hS hl
  rw [← hx.2.1] at hK
  exact va_iald F.1.1 F.1.2.1 F.2.1.2.1 (va_P_spl hP).2 k 0 hk rfl (Ix_in hx) hdg hK
theorem v_xast (F : Fx p l s m args meth c cc nL own X) {a n : Nat} {f : Nat → Int32} (k : Nat) (hk : ex[k]? = some (a, .inl (X.2.2.1 0, n, .inl f))) {x v : Int32} (j : Nat) (hx : Ix x j n) {ex' : va_W} (hex : ex.set k (a, .inl (X.2.2.1 0, n, .inl (upd f j v))) = ex') (hdg : decode cc pc = .ok (.iastore, 1)) (K : V p l e R s m args below meth c Q X nL ex' M lf cells slots (pc + 1) lv st) : V p l e R s m args below meth c Q X nL ex M lf cells slots pc lv (.int v :: .int x :: .ref a :: st) := by
  intro H locs ls hP hE hS hl
  subst hex
  refine va_iast F.1.1 F.1.2.1 F.2.1.2.1 hP (wl_DE F.2.2.1 M lf hE) hS ((wl X M lf).length + k) 0 (wl_ex_at hk) rfl (Ix_in hx) hdg (fun H1 locs1 hP1 hD1 hS1 => ?_)
  rw [hx.2.1, List.set_append_right _ _ (Nat.le_add_right _ _), Nat.add_sub_cancel_left] at hP1
  exact K H1 locs1 ls hP1 (exOk_set hE hk) hS1 hl
/-- a row of rows among them -/
theorem v_xaald (F : Fx p l s m args meth c cc nL own X) {a n a2 : Nat} {f : Nat → Option Nat} (k : Nat) (hk : ex[k]? = some (a, .inl (X.2.2.1 3, n, .inr (.inr (.inr (.inr f)))))) {x : Int32} (j : Nat) (hx : Ix x j n) (hf : f j = some a2) (hdg : decode cc pc = .ok (.aaload, 1)) (K : V p l e R s m args below meth c Q X nL ex M lf cells slots (pc + 1) lv (.ref a2 :: st)) : V p l e R s m args below meth c Q X nL ex M lf cells slots pc lv (.int x :: .ref a :: st) := by
  intro H locs ls hP hE hS hl
  have hlt : x.toNatClampNeg < n := by rw [hx.2.1]; exact hx.2.2
  have ha : H[a]? = some (vp_cell (X.2.2.1 3) (n, .inr (.inr (.inr (.inr f))))) := (va_P_spl hP).2 k _ hk
  refine W.aald (v := .ref a2) (ty := .array .int) F.1.1 F.1.2.1 ha ((F.2.1.2.1.2 3 (X.2.2.1 3, .array .int) rfl).1 n (fun j => va_rf (f j))) rfl (fun q => by cases q) (by show ¬ (x < 0 ∨ (arrV _ _ _).slots.size ≤ _); rw [arrV_size]; exact Ix_in hx) ?_ rfl rfl hdg (K H locs ls hP hE hS hl)
  show (arrV _ _ _).slots[_]? = _
  rw [arrV_read _ _ hlt, hx.2.1, hf]
  rfl
/-- further cells made -/
theorem ex_more {B : va_W} {sz : Nat} (hE : exOk X sz ex) (hD : va_D (xA X sz) ((wl X M lf ++ ex) ++ B)) : exOk X sz (ex ++ B) := by
  have key : ∀ p, p ∈ ids → ∃ (j : Nat) (e : va_E), (wl X M lf)[j]? = some (xad X p, e) := by
    intro p hp
    obtain ⟨j, hj⟩ := List.getElem?_of_mem hp
    refine ⟨j, celD X lf p.1 p.2.1 p.2.2 (M p.1 p.2.1 p.2.2), ?_⟩
    unfold wl
    rw [List.getElem?_map, hj]
    rfl
  have nB : ∀ (k : Nat) (q : Nat × va_E), B[k]? = some q → ∀ p, p ∈ ids → q.1 ≠ xad X p := by
    intro k q hq p hp ha
    obtain ⟨j, e, hj⟩ := key p hp
    have hjl : j < (wl X M lf).length := (List.getElem?_eq_some_iff.mp hj).1
    have h1 : ((wl X M lf ++ ex) ++ B)[j]? = some (xad X p, e) := by
      rw [List.getElem?_append_left (by rw [List.length_append]; omega), List.getElem?_append_left hjl]
      exact hj
    have h2 : ((wl X M lf ++ ex) ++ B)[(wl X M lf ++ ex).length + k]? = some q := by
      rw [List.getElem?_append_right (Nat.le_add_right _ _), Nat.add_sub_cancel_left]
      exact hq
    have := hD.1 _ _ _ _ h1 h2 ha.symm
    rw [List.length_append] at this
    omega
  refine ⟨⟨fun i j x y hi hj z => ?_, fun k q hk => ?_⟩, fun k q hk => ?_⟩
  · have g : ∀ (k : Nat) (q : Nat × va_E), (ex ++ B)[k]? = some q → ((wl X M lf ++ ex) ++ B)[(wl X M lf).length + k]? = some q := fun k q h => by
      rw [List.append_assoc, List.getElem?_append_right (Nat.le_add_right _ _), Nat.add_sub_cancel_left]
      exact h
    have := hD.1 _ _ _ _ (g i x hi) (g j y hj) z
    omega
  · by_cases hl : k < ex.length
    · rw [List.getElem?_append_left hl] at hk
      exact hE.1.2 k q hk
    · rw [List.getElem?_append_right (by omega)] at hk
      have h2 : ((wl X M lf ++ ex) ++ B)[(wl X M lf ++ ex).length + (k - ex.length)]? = some q := by
        rw [List.getElem?_append_right (Nat.le_add_right _ _), Nat.add_sub_cancel_left]
        exact hk
      rcases hD.2 _ q h2 with ⟨p, hp, z⟩ | z
      · exact absurd z (nB _ q hk p hp)
      · exact z
  · by_cases hl : k < ex.length
    · rw [List.getElem?_append_left hl] at hk
      exact hE.2 k q hk
    · rw [List.getElem?_append_right (by omega)] at hk
      exact nB _ q hk
theorem v_xnew (F : Fx p l s m args meth c cc nL own X) {x : Int32} (n : Nat) (hw : Cond.arrayClass .int ∈ wAll) (h0 : ¬ x < 0) (hx : x.toNatClampNeg = n) (hb : n * componentBytes .int ≤ 536870912) (h1 : cells + 1 ≤ R.cells) (h2 : slots + n ≤ R.slots) (hdg : decode cc pc = .ok (.newarray .int, 2)) (K : ∀ a : Nat, V p l e R s m args below meth c Q X nL (ex ++ [(a, .inl (X.2.2.1 0, n, .inl (fun _ => 0)))]) M lf (cells + 1) (slots + n) (pc + 2) lv (.ref a :: st)) : V p l e R s m args below meth c Q X nL ex M lf cells slots pc lv (.int x :: st) := by
  intro H locs ls hP hE hS hl
  refine va_newa (atype := .int) (ty := .int) (a0 := (n, .inl (fun _ => 0))) F.1.1 F.1.2.1 (F.1.2.2.2.2 _ hw) rfl F.2.1.2.1 hP (wl_DE F.2.2.1 M lf hE) hS (fun q h => xA_sz h) (fun cA => rfl) h0 hx hb h1 h2 hdg (fun a cA H1 hK1 hP1 hD1 hS1 => ?_)
  have hcA : cA = X.2.2.1 0 := by
    have e1 : s.vm.findClass ("[" ++ (FieldType.int).toString) = some cA := (hK1.2 4 (cA, .int) rfl).2
    have e2 : s.vm.findClass ("[" ++ (FieldType.int).toString) = some (X.2.2.1 0) := (F.2.1.2.1.2 0 _ rfl).2
    exact Option.some.inj (e1.symm.trans e2)
  subst hcA
  refine K a H1 locs ls (by rw [← List.append_assoc]; exact hP1) (ex_more (M := M) (lf := lf) hE hD1) hS1 hl
/-- rows of two ints -/
abbrev exR (X : Cx) (q N : Nat) (r : Nat → Nat) (g : Nat → Nat → Int32) : va_W := (q, .inl (X.2.2.1 3, N, .inr (.inr (.inr (.inr (fun i => if i < N then some (r i) else none)))))) :: (List.range N).map (fun i => (r i, .inl (X.2.2.1 0, 2, .inl (g i))))
theorem v_xgrid (F : Fx p l s m args meth c cc nL own X) {x y : Int32} (N : Nat) {index : Nat} (hw : Cond.arrayClass .int ∈ wAll) (hcl : Cond.classLink own index "[[I" ∈ wAll) (hov : va_AOA .int s) (h0 : ¬ x < 0) (hx : x.toNatClampNeg = N) (hy0 : ¬ y < 0) (hy : y.toNatClampNeg = 2) (hb : N * 4 ≤ 536870912) (h1 : cells + (1 + N) ≤ R.cells) (h2 : slots + (N + N * 2) ≤ R.slots) (hdg : decode cc pc = .ok (.multianewarray index 2, 4)) (K : ∀ (q : Nat) (r : Nat → Nat), V p l e R s m args below meth c Q X nL (exR X q N r (fun _ _ => 0)) M lf (cells + 1 + N) (slots + N + N * 2) (pc + 4) lv (.ref q :: st)) : V p l e R s m args below meth c Q X nL [] M lf cells slots pc lv (.int y :: .int x :: st) := by
  intro H locs ls hP hE hS hl
  have hcy : s.vm.findClass (FieldType.array .int).toString = some (X.2.2.1 0) := (F.2.1.2.1.2 0 _ rfl).2
  refine va_mna (X := wl X M lf ++ []) (L := []) (f := fun _ => .inr (0, [])) (ty := .int) (z := (2, .inl (fun _ => 0))) F.1.1 F.1.2.1 F.1.2.2.2.1 (F.1.2.2.2.2 _ hcl) hov (F.1.2.2.2.2 _ hw) hcy F.2.1.2.1 (by show va_P _ _ ((wl X M lf ++ []) ++ []) H; rw [List.append_nil]; exact hP) (by show va_D _ ((wl X M lf ++ []) ++ []); rw [List.append_nil]; exact wl_DE F.2.2.1 M lf hE) hS (fun q h => xA_sz h) h0 hy0 hx hy hb (by decide) (by decide) rfl rfl h1 h2 (fun c => ?_) hdg (fun q r cA H1 hr hn hK1 hP1 hD1 hS1 => ?_)
  · show _ = vp_cell c (2, .inl (fun _ => 0))
    rw [vp_cell_i]
    exact arrV_new _ _ _
  have hcA : cA = X.2.2.1 3 := by
    have e1 : s.vm.findClass ("[" ++ (FieldType.array .int).toString) = some cA := (hK1.2 4 (cA, .array .int) rfl).2
    have e2 : s.vm.findClass ("[" ++ (FieldType.array .int).toString) = some (X.2.2.1 3) := (F.2.1.2.1.2 3 (X.2.2.1 3, .array .int) rfl).2
    exact Option.some.inj (e1.symm.trans e2)
  subst hcA
  have e0 : va_pl ([] ++ (List.range N).map r) (vr_up (fun _ => .inr (0, [])) ((List.range N).map r) (.inl (X.2.2.1 0, (2, .inl (fun _ => 0))))) = (List.range N).map (fun i => (r i, .inl (X.2.2.1 0, 2, .inl (fun _ => 0)))) := by
    unfold va_pl
    rw [List.nil_append, List.map_map]
    refine List.map_congr_left (fun i hi => ?_)
    show (r i, vr_up _ _ _ (r i)) = _
    rw [vr_up_in (List.mem_map.mpr ⟨i, hi, rfl⟩)]
  rw [e0] at hP1 hD1
  have e1 : ∀ B : va_W, ((wl X M lf ++ []) ++ [(q, .inl (X.2.2.1 3, N, .inr (.inr (.inr (.inr (fun i => if i < N then some (r i) else none))))))]) ++ B = (wl X M lf ++ []) ++ ((q, .inl (X.2.2.1 3, N, .inr (.inr (.inr (.inr (fun i => if i < N then some (r i) else none)))))) :: B) := fun B => by rw [List.append_assoc]; rfl
  rw [e1] at hP1 hD1
  have := ex_more (M := M) (lf := lf) hE hD1
  rw [List.append_nil] at hP1
  exact K q r H1 locs ls hP1 this hS1 hl
-- the script
theorem v_sld (F : Fx p l s m args meth c cc nL own X) {b L : Nat} {xs : Nat → Int32} (hX : va_X b L xs s s.heap) (hbl : b < X.2.2.2) {x : Int32} (j : Nat) (hx : Ix x j L) (hdg : decode cc pc = .ok (.iaload, 1)) (K : V p l e R s m args below meth c Q X nL ex M lf cells slots (pc + 1) lv (.int (xs j) :: st)) : V p l e R s m args below meth c Q X nL ex M lf cells slots pc lv (.int x :: .ref b :: st) := by
  intro H locs ls hP hE hS hl
  have hbA : ¬ xA X s.heap.size b := fun z => absurd (xA_B F.2.2.1 F.2.1.1 b z) (Nat.not_le.mpr hbl)
  have hK := K H locs ls hP hE hS hl
  rw [← hx.2.1] at hK
  exact va_sld F.1.1 F.1.2.1 hX (Nat.lt_of_lt_of_le hbl F.2.1.1) hbA hS (Ix_in hx) hdg hK
theorem v_slen (F : Fx p l s m args meth c cc nL own X) {b L : Nat} {xs : Nat → Int32} (hX : va_X b L xs s s.heap) (hbl : b < X.2.2.2) (hdg : decode cc pc = .ok (.arraylength, 1)) (K : V p l e R s m args below meth c Q X nL ex M lf cells slots (pc + 1) lv (.int (nI L) :: st)) : V p l e R s m args below meth c Q X nL ex M lf cells slots pc lv (.ref b :: st) := by
  intro H locs ls hP hE hS hl
  have hbA : ¬ xA X s.heap.size b := fun z => absurd (xA_B F.2.2.1 F.2.1.1 b z) (Nat.not_le.mpr hbl)
  exact va_slen F.1.1 F.1.2.1 hX (Nat.lt_of_lt_of_le hbl F.2.1.1) hbA hS hdg (K H locs ls hP hE hS hl)
end VX
/-- a method that reads the script beside the world -/
def CIs (X : Cx) (l : Launch) (b L : Nat) (xs : Nat → Int32) (y : MethodName) (ws : List Cond) (rm : Room) (av : List Value) (M : Mem) (lf : Lf) (r : Int32) (M' : Mem) (lf' : Lf) (mc ms : Nat) : Prop := ∀ sz : Nat, Met l y ws rm (va_Pc av (fun U => PreW X M lf sz U ∧ va_X b L xs U U.heap)) (va_Qi (fun (x : Int32) (_ : Unit) => x = r) (EndW X M' lf') (xA X sz)) mc ms (xA X sz)
theorem va_X_same {b L : Nat} {xs : Nat → Int32} {u U : State} (hv : U.vm = u.vm) (hh : U.heap = u.heap) (h : va_X b L xs u u.heap) : va_X b L xs U U.heap := by
  rw [hh]
  exact va_X.moved (by rw [hv]; exact Vm.Alike.refl _) h
theorem CIs_of {X : Cx} {l : Launch} {b L : Nat} {xs : Nat → Int32} {y : MethodName} {cc : ByteArray} {nL : Nat} {rm : Room} {av : List Value} {M M' : Mem} {lf lf' : Lf} {mc ms : Nat} {lv : List (Nat × Value)} {ty : FieldType} {r : Int32} (G : Gx X l) (hy : plainName y.cls = true) (hn : (lg_sl av).length ≤ nL) (hlv : lv_args 0 av = lv)
    (body : ∀ p e s m args below meth c, Fx p l s m args meth c cc nL y.cls X → va_X b L xs s s.heap → meth.sig.returnType = some ty → V p l e rm s m args below meth c (QI X below args s r M' lf' mc ms) X nL [] M lf 0 0 0 lv []) : CIs X l b L xs y (wsc y cc nL (some ty)) rm av M lf r M' lf' mc ms := by
  intro sz
  refine Met.ofW (cc := cc) (maxL := nL) (ret := some ty) hy rfl ?_
  intro p e s m args below meth c s₁ B hml hv
  obtain ⟨rfl, ⟨hsz, hK, hP⟩, hX⟩ := hv
  subst hsz
  have h := body p e s m _ below meth c (Fx_of G B hml hK) hX B.returns
  rw [lg_entry_eq]
  exact h s.heap [] _ (by rw [List.append_nil]; exact hP) exOk_nil va_S.rf (hlv ▸ lv_entry av hn)
section VZ
variable {p : Program} {l : Launch} {e : Env} {R : Room} {s : State} {m : MethodId} {args : Array Value} {below : List Frame} {meth : Method} {c : Code} {Q : State → Prop} {X : Cx} {nL : Nat} {ex : va_W} {M M' : Mem} {lf lf' : Lf} {cells slots pc : Nat} {lv : List (Nat × Value)} {st : List Value} {cc : ByteArray} {own : String}
theorem v_callSs (F : Fx p l s m args meth c cc nL own X) {b L : Nat} {xs : Nat → Int32} (hX : va_X b L xs s s.heap) (hbl : b < X.2.2.2) {y : MethodName} {bytes : ByteArray} {maxL n index mc ms : Nat} {ret : Option FieldType} {rm : Room} {As rest : List Value} {r : Int32} (hst : st = As.reverse ++ rest) (hM : CIs X l b L xs y (wsc y bytes maxL ret) rm As M lf r M' lf' mc ms) (w : Ws own index y bytes maxL ret n) (hn : As.length = n) (hr : Rr R rm maxL cells slots mc ms rest) (hdg : decode cc pc = .ok (.invokestatic index, 3)) (K : V p l e R s m args below meth c Q X nL ex M' lf' (cells + mc) (slots + ms) (pc + 3) lv (.int r :: rest)) : V p l e R s m args below meth c Q X nL ex M lf cells slots pc lv st := by
  intro H locs ls hP hE hS hl
  subst hst
  have hbA : ¬ xA X s.heap.size b := fun z => absurd (xA_B F.2.2.1 F.2.1.1 b z) (Nat.not_le.mpr hbl)
  refine va_calli (va_runS (As := As) (rest := rest) F.1 (hM H.size) (Ws_cw F w hr) ⟨fun a U g mk q => ⟨q.1, ⟨q.2.1.1, Kz_same (u := U) rfl rfl q.2.1.2.1, q.2.1.2.2⟩, va_X_same (u := U) rfl rfl q.2.2⟩, fun U hU hW => ?_⟩ rfl hn hl.1 rfl (lv_room hr.2.2.2.2.2.2) hdg ⟨hr.2.2.2.2.1, hr.2.2.2.2.2.1⟩) hS (fun q _ h => xA_mono hS.1 q h) (xA_mono hS.1) (fun x u t H1 locs1 ht hvm hx hB hz hk hS1 => ?_)
  · have h1 := v_pre (av := As) F hP hS U hU hW
    refine ⟨h1.1, h1.2, ?_⟩
    rw [hU]
    exact va_X.kept (va_X.moved hW.alike hX) (hS.2.1 b (Nat.lt_of_lt_of_le hbl F.2.1.1) hbA)
  · subst hx
    exact K H1 locs1 ls (v_post hP hE ht hB hk) hE hS1 hl
end VZ
