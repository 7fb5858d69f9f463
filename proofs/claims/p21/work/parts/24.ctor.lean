/-! ===== constructors ===== -/
theorem win_X4 : Cond.instantiable RX4 2 ∈ wAll := wAll_in (i := 156) (by decide +kernel) (by decide +kernel)
theorem win_X2 : Cond.instantiable RX2 5 ∈ wAll := wAll_in (i := 142) (by decide +kernel) (by decide +kernel)
theorem win_X0 : Cond.instantiable RX0 5 ∈ wAll := wAll_in (i := 269) (by decide +kernel) (by decide +kernel)
theorem win_X1 : Cond.instantiable RX1 3 ∈ wAll := wAll_in (i := 147) (by decide +kernel) (by decide +kernel)
theorem win_X3 : Cond.instantiable RX3 8 ∈ wAll := wAll_in (i := 263) (by decide +kernel) (by decide +kernel)
theorem wob_X0 : Cond.methodLink RX0 3 objectInit ∈ wAll := wAll_in (i := 406) (by decide +kernel) (by decide +kernel)
theorem wob_X1 : Cond.methodLink RX1 3 objectInit ∈ wAll := wAll_in (i := 411) (by decide +kernel) (by decide +kernel)
theorem wob_X2 : Cond.methodLink RX2 3 objectInit ∈ wAll := wAll_in (i := 400) (by decide +kernel) (by decide +kernel)
theorem wob_X3 : Cond.methodLink RX3 3 objectInit ∈ wAll := wAll_in (i := 457) (by decide +kernel) (by decide +kernel)
theorem wob_X4 : Cond.methodLink RX4 1 objectInit ∈ wAll := wAll_in (i := 395) (by decide +kernel) (by decide +kernel)
theorem arrV_ext (cI : ClassId) (N : Nat) {f g : Nat → Value} (h : ∀ j, j < N → f j = g j) : arrV cI N f = arrV cI N g := by
  unfold arrV
  congr 1
  apply congrArg
  funext j
  exact h j.1 j.2
section UE
variable {p : Program} {l : Launch} {e : Env} {R : Room} {s : State} {m : MethodId} {args : Array Value} {below : List Frame} {meth : Method} {c : Code} {Q : State → Prop} {D : va_G} {A : Nat → Prop} {nL : Nat} {w : va_W} {cells slots pc : Nat} {lv : List (Nat × Value)} {st : List Value}
theorem u_ext {a n : Nat} {cA : ClassId} {f g : Nat → Option Nat} (q0 : Nat) (he : w[q0]? = some (a, .inl (cA, n, .inr (.inr (.inr (.inr f)))))) (h : ∀ j, j < n → f j = g j) {w' : va_W} (hw : w.set q0 (a, .inl (cA, n, .inr (.inr (.inr (.inr g))))) = w') (K : UU p l e R s m args below meth c Q D A nL w' cells slots pc lv st) : UU p l e R s m args below meth c Q D A nL w cells slots pc lv st := by
  intro H locs ls hP hD hS hl
  subst hw
  refine K H locs ls (hP.set hD he ?_ (fun q _ => rfl)) (hD.set he) hS hl
  have h0 : H[a]? = some (vp_cell cA (n, .inr (.inr (.inr (.inr f))))) := hP q0 _ he
  show H[a]? = some (vp_cell cA (n, .inr (.inr (.inr (.inr g)))))
  rw [h0]
  show some (arrV cA n (fun j => va_rf (f j))) = some (arrV cA n (fun j => va_rf (g j)))
  exact congrArg some (arrV_ext cA n (fun j hj => by show va_rf (f j) = va_rf (g j); rw [h j hj]))
end UE
def hndL : Nat → Int32 := upd (upd (fun _ => 0) 0 (-1)) 1 (-1)
/-- a ring's numbers at its start -/
def σR : Sg := fun k _ => match k with
  | 3 => fun _ => 1
  | 6 => hndL
  | 8 => fun c => if c = 2 ∨ c = 3 then -1 else 0
  | _ => fun _ => 0
def KR : List (Nat × Nat) := (idR 0).map (fun q => (q.2.1, q.2.2))
def wR (a : Nat → Nat → Nat) (ca : Nat → ClassId) (σ : Sg) : va_W := KR.map (fun q => (a q.1 q.2, celR a ca q.1 q.2 (σ q.1 q.2)))
def BX3 : Nat → va_W → Prop := fun h bw => bw = [(h, .inr (3, [.int 0, .int 0, .int (-1), .int (-1), .int 0, .int 0, .int 0, .int 0]))]
def BX1 (ca : Nat → ClassId) : Nat → va_W → Prop := fun h bw => ∃ a4 a5 : Nat, bw = [(h, .inr (1, [.ref a4, .ref a5, .int 1])), (a4, .inl (ca 0, 8, .inl (fun _ => 0))), (a5, .inl (ca 0, 8, .inl (fun _ => 0)))]
def BX0 (ca : Nat → ClassId) : Nat → va_W → Prop := fun h bw => ∃ a3 a4 a5 a6 : Nat, bw = [(h, .inr (0, [.ref a3, .ref a6, .int 0, .int 0, .int 0])), (a3, .inr (1, [.ref a4, .ref a5, .int 1])), (a4, .inl (ca 0, 8, .inl (fun _ => 0))), (a5, .inl (ca 0, 8, .inl (fun _ => 0))), (a6, .inl (ca 0, 2, .inl hndL))]
def BX2 (ca : Nat → ClassId) : Nat → va_W → Prop := fun h bw => ∃ a : Nat → Nat → Nat, a 0 0 = h ∧ bw = wR a ca σR
def BX4 (ca : Nat → ClassId) : Nat → va_W → Prop := fun h bw => ∃ a b : Nat → Nat → Nat, bw = (h, .inr (4, [.ref (a 0 0), .ref (b 0 0)])) :: (wR a ca σR ++ wR b ca σR)
abbrev rm_X3_init : Room := { frames := 1, cells := 0, slots := 0, locals := 20 }
set_option maxHeartbeats 4000000 in
set_option maxRecDepth 100000 in
theorem n_X3 {D : va_G} {ca : Nat → ClassId} {base : Nat} {l : Launch} : CN D ca base l yX3_init (wsc yX3_init cX3_init 1 none) rm_X3_init (.inr (3, [.int 0, .int 0, .int 0, .int 0, .int 0, .int 0, .int 0, .int 0])) [] (BX3) 0 0 := by
  refine CN_of (fun h => [(0, .ref h)]) (by decide) rfl (fun h => Nat.le_of_ble_eq_true rfl) (fun h => rfl) (fun h p e s m args below meth c F hin hr => ?_)
  have F : FU p s m args meth c cX3_init 1 RX3 D ca base (fA h s.heap.size) := F
  refine u_aload_n F dX3_init_0 rfl 0 rfl ?_
  refine u_objInit F wob_X3 dX3_init_1 (Nat.le_of_ble_eq_true rfl) (Nat.le_of_ble_eq_true rfl) ?_
  refine u_aload_n F dX3_init_4 rfl 0 rfl ?_
  refine u_iconst F (v := 0) dX3_init_5 (by decide) ?_
  refine u_put F tyX3 tyX3_ok nmX3 0 rfl rfl uw_X3 1 (by decide) rfl rfl rfl rfl (Nat.le_of_ble_eq_true rfl) wf_X3_9 dX3_init_6 (w' := [(h, .inr (3, [.int 0, .int 0, .int 0, .int 0, .int 0, .int 0, .int 0, .int 0]))]) rfl ?_
  refine u_aload_n F dX3_init_9 rfl 0 rfl ?_
  refine u_iconst F (v := (-1)) dX3_init_10 (by decide) ?_
  refine u_put F tyX3 tyX3_ok nmX3 0 rfl rfl uw_X3 2 (by decide) rfl rfl rfl rfl (Nat.le_of_ble_eq_true rfl) wf_X3_15 dX3_init_11 (w' := [(h, .inr (3, [.int 0, .int 0, .int (-1), .int 0, .int 0, .int 0, .int 0, .int 0]))]) rfl ?_
  refine u_aload_n F dX3_init_14 rfl 0 rfl ?_
  refine u_iconst F (v := (-1)) dX3_init_15 (by decide) ?_
  refine u_put F tyX3 tyX3_ok nmX3 0 rfl rfl uw_X3 3 (by decide) rfl rfl rfl rfl (Nat.le_of_ble_eq_true rfl) wf_X3_18 dX3_init_16 (w' := [(h, .inr (3, [.int 0, .int 0, .int (-1), .int (-1), .int 0, .int 0, .int 0, .int 0]))]) rfl ?_
  exact u_vret F hr dX3_init_19 rfl
abbrev rm_X1_init : Room := { frames := 1, cells := 2, slots := 16, locals := 20 }
set_option maxHeartbeats 4000000 in
set_option maxRecDepth 100000 in
theorem n_X1 {D : va_G} {ca : Nat → ClassId} {base : Nat} {l : Launch} : CN D ca base l yX1_init (wsc yX1_init cX1_init 1 none) rm_X1_init (.inr (1, [.null, .null, .int 0])) [] (BX1 ca) 2 16 := by
  refine CN_of (fun h => [(0, .ref h)]) (by decide) rfl (fun h => Nat.le_of_ble_eq_true rfl) (fun h => rfl) (fun h p e s m args below meth c F hin hr => ?_)
  have F : FU p s m args meth c cX1_init 1 RX1 D ca base (fA h s.heap.size) := F
  refine u_aload_n F dX1_init_0 rfl 0 rfl ?_
  refine u_objInit F wob_X1 dX1_init_1 (Nat.le_of_ble_eq_true rfl) (Nat.le_of_ble_eq_true rfl) ?_
  refine u_aload_n F dX1_init_4 rfl 0 rfl ?_
  refine u_bipush F (v := 8) dX1_init_5 (by decide) ?_
  refine u_newi F 8 (by decide) (by decide) (by decide) (Nat.le_of_ble_eq_true rfl) (Nat.le_of_ble_eq_true rfl) dX1_init_7 (fun q1 => ?_)
  refine u_putF F hin tyX1 tyX1_ok nmX1 0 rfl rfl uw_X1 0 (by decide) rfl rfl rfl rfl (Nat.le_of_ble_eq_true rfl) wf_X1_9 dX1_init_9 (w' := [(h, .inr (1, [.ref q1, .null, .int 0])), (q1, .inl (ca 0, 8, .inl (fun _ => 0)))]) rfl ?_
  refine u_aload_n F dX1_init_12 rfl 0 rfl ?_
  refine u_bipush F (v := 8) dX1_init_13 (by decide) ?_
  refine u_newi F 8 (by decide) (by decide) (by decide) (Nat.le_of_ble_eq_true rfl) (Nat.le_of_ble_eq_true rfl) dX1_init_15 (fun q2 => ?_)
  refine u_putF F hin tyX1 tyX1_ok nmX1 0 rfl rfl uw_X1 1 (by decide) rfl rfl rfl rfl (Nat.le_of_ble_eq_true rfl) wf_X1_15 dX1_init_17 (w' := [(h, .inr (1, [.ref q1, .ref q2, .int 0])), (q1, .inl (ca 0, 8, .inl (fun _ => 0))), (q2, .inl (ca 0, 8, .inl (fun _ => 0)))]) rfl ?_
  refine u_aload_n F dX1_init_20 rfl 0 rfl ?_
  refine u_iconst F (v := 1) dX1_init_21 (by decide) ?_
  refine u_put F tyX1 tyX1_ok nmX1 0 rfl rfl uw_X1 2 (by decide) rfl rfl rfl rfl (Nat.le_of_ble_eq_true rfl) wf_X1_18 dX1_init_22 (w' := [(h, .inr (1, [.ref q1, .ref q2, .int 1])), (q1, .inl (ca 0, 8, .inl (fun _ => 0))), (q2, .inl (ca 0, 8, .inl (fun _ => 0)))]) rfl ?_
  exact u_vret F hr dX1_init_25 ⟨_, _, rfl⟩
abbrev rm_X0_init : Room := { frames := 2, cells := 4, slots := 21, locals := 40 }
set_option maxHeartbeats 4000000 in
set_option maxRecDepth 100000 in
theorem n_X0 {D : va_G} {ca : Nat → ClassId} {base : Nat} {l : Launch} : CN D ca base l yX0_init (wsc yX0_init cX0_init 1 none) rm_X0_init (.inr (0, [.null, .null, .int 0, .int 0, .int 0])) [] (BX0 ca) 4 21 := by
  refine CN_of (fun h => [(0, .ref h)]) (by decide) rfl (fun h => Nat.le_of_ble_eq_true rfl) (fun h => rfl) (fun h p e s m args below meth c F hin hr => ?_)
  have F : FU p s m args meth c cX0_init 1 RX0 D ca base (fA h s.heap.size) := F
  refine u_aload_n F dX0_init_0 rfl 0 rfl ?_
  refine u_objInit F wob_X0 dX0_init_1 (Nat.le_of_ble_eq_true rfl) (Nat.le_of_ble_eq_true rfl) ?_
  refine u_aload_n F dX0_init_4 rfl 0 rfl ?_
  refine u_new F (ci := 1) tyX1 tyX1_ok uw_X1 wcl_X0_9 win_X1 wini_X1 rfl (fs := [.null, .null, .int 0]) (fun j hj => by rcases (show j = 0 ∨ j = 1 ∨ j = 2 by omega) with rfl | rfl | rfl <;> rfl) (Nat.le_of_ble_eq_true rfl) (Nat.le_of_ble_eq_true rfl) dX0_init_5 (fun q1 => ?_)
  refine u_dup F dX0_init_8 rfl ?_
  refine u_initN F (n := 0) (As := []) (rest := [.ref _, .ref _]) rfl (n_X1 (D := D) (ca := ca) (base := base) (l := l)) wc_X1_init wml_X0_11 wi_X1_init wini_X1 rfl (by decide +kernel) rfl ⟨rfl, rfl, Nat.le_of_ble_eq_true rfl, Nat.le_of_ble_eq_true rfl, Nat.le_of_ble_eq_true rfl, Nat.le_of_ble_eq_true rfl, Nat.le_of_ble_eq_true rfl⟩ dX0_init_9 (fun bw hbw => ?_)
  obtain ⟨q2, q3, rfl⟩ := hbw
  refine u_widen (k := 3) (n := 19) (Nat.le_of_ble_eq_true rfl) (Nat.le_of_ble_eq_true rfl) ?_
  refine u_putF F hin tyX0 tyX0_ok nmX0 0 rfl rfl uw_X0 0 (by decide) rfl rfl rfl rfl (Nat.le_of_ble_eq_true rfl) wf_X0_12 dX0_init_12 (w' := [(h, .inr (0, [.ref q1, .null, .int 0, .int 0, .int 0])), (q1, .inr (1, [.ref q2, .ref q3, .int 1])), (q2, .inl (ca 0, 8, .inl (fun _ => 0))), (q3, .inl (ca 0, 8, .inl (fun _ => 0)))]) rfl ?_
  refine u_aload_n F dX0_init_15 rfl 0 rfl ?_
  refine u_iconst F (v := 2) dX0_init_16 (by decide) ?_
  refine u_newi F 2 (by decide) (by decide) (by decide) (Nat.le_of_ble_eq_true rfl) (Nat.le_of_ble_eq_true rfl) dX0_init_17 (fun q4 => ?_)
  refine u_dup F dX0_init_19 rfl ?_
  refine u_iconst F (v := 0) dX0_init_20 (by decide) ?_
  refine u_iconst F (v := (-1)) dX0_init_21 (by decide) ?_
  refine u_iast F 4 0 rfl ⟨by decide, by decide, by decide⟩ dX0_init_22 (w' := [(h, .inr (0, [.ref q1, .null, .int 0, .int 0, .int 0])), (q1, .inr (1, [.ref q2, .ref q3, .int 1])), (q2, .inl (ca 0, 8, .inl (fun _ => 0))), (q3, .inl (ca 0, 8, .inl (fun _ => 0))), (q4, .inl (ca 0, 2, .inl (upd (fun _ => 0) 0 (-1))))]) rfl ?_
  refine u_dup F dX0_init_23 rfl ?_
  refine u_iconst F (v := 1) dX0_init_24 (by decide) ?_
  refine u_iconst F (v := (-1)) dX0_init_25 (by decide) ?_
  refine u_iast F 4 1 rfl ⟨by decide, by decide, by decide⟩ dX0_init_26 (w' := [(h, .inr (0, [.ref q1, .null, .int 0, .int 0, .int 0])), (q1, .inr (1, [.ref q2, .ref q3, .int 1])), (q2, .inl (ca 0, 8, .inl (fun _ => 0))), (q3, .inl (ca 0, 8, .inl (fun _ => 0))), (q4, .inl (ca 0, 2, .inl (upd (upd (fun _ => 0) 0 (-1)) 1 (-1))))]) rfl ?_
  refine u_putF F hin tyX0 tyX0_ok nmX0 0 rfl rfl uw_X0 1 (by decide) rfl rfl rfl rfl (Nat.le_of_ble_eq_true rfl) wf_X0_18 dX0_init_27 (w' := [(h, .inr (0, [.ref q1, .ref q4, .int 0, .int 0, .int 0])), (q1, .inr (1, [.ref q2, .ref q3, .int 1])), (q2, .inl (ca 0, 8, .inl (fun _ => 0))), (q3, .inl (ca 0, 8, .inl (fun _ => 0))), (q4, .inl (ca 0, 2, .inl (upd (upd (fun _ => 0) 0 (-1)) 1 (-1))))]) rfl ?_
  refine u_sub (w' := [(h, .inr (0, [.ref q1, .ref q4, .int 0, .int 0, .int 0])), (q1, .inr (1, [.ref q2, .ref q3, .int 1])), (q2, .inl (ca 0, 8, .inl (fun _ => 0))), (q3, .inl (ca 0, 8, .inl (fun _ => 0))), (q4, .inl (ca 0, 2, .inl (upd (upd (fun _ => 0) 0 (-1)) 1 (-1))))]) [0, 1, 2, 3, 4] (by decide) rfl ?_
  exact u_vret F hr dX0_init_30 ⟨_, _, _, _, rfl⟩
abbrev rm_X2_init : Room := { frames := 3, cells := 34, slots := 216, locals := 61 }
set_option maxHeartbeats 4000000 in
set_option maxRecDepth 100000 in
theorem n_X2 {D : va_G} {ca : Nat → ClassId} {base : Nat} {l : Launch} : CN D ca base l yX2_init (wsc yX2_init cX2_init 2 none) rm_X2_init (.inr (2, [.null, .null, .int 0, .int 0, .int 0])) [] (BX2 ca) 34 216 := by
  refine CN_of (fun h => [(0, .ref h)]) (by decide) rfl (fun h => Nat.le_of_ble_eq_true rfl) (fun h => rfl) (fun h p e s m args below meth c F hin hr => ?_)
  have F : FU p s m args meth c cX2_init 2 RX2 D ca base (fA h s.heap.size) := F
  refine u_aload_n F dX2_init_0 rfl 0 rfl ?_
  refine u_objInit F wob_X2 dX2_init_1 (Nat.le_of_ble_eq_true rfl) (Nat.le_of_ble_eq_true rfl) ?_
  refine u_aload_n F dX2_init_4 rfl 0 rfl ?_
  refine u_iconst F (v := 4) dX2_init_5 (by decide) ?_
  refine u_newqJ F 4 wcl_X2_9 (by decide) (by decide) (by decide) (Nat.le_of_ble_eq_true rfl) (Nat.le_of_ble_eq_true rfl) dX2_init_6 (fun q1 => ?_)
  refine u_putF F hin tyX2 tyX2_ok nmX2 0 rfl rfl uw_X2 0 (by decide) rfl rfl rfl rfl (Nat.le_of_ble_eq_true rfl) wf_X2_11 dX2_init_9 (w' := [(h, .inr (2, [.ref q1, .null, .int 0, .int 0, .int 0])), (q1, .inl (ca 1, 4, .inr (.inr (.inr (.inr (fun _ => none))))))]) rfl ?_
  refine u_iconst F (v := 0) dX2_init_12 (by decide) ?_
  refine u_istore_n F dX2_init_13 rfl (by decide) (lv' := [(1, .int _), (0, .ref _)]) rfl ?_
  refine u_iload_n F dX2_init_14 rfl 0 rfl ?_
  refine u_iconst F (v := 4) dX2_init_15 (by decide) ?_
  refine u_icmp_ge F (tgt := 38) dX2_init_16 (by decide) (fun h => absurd h (by decide)) (fun _ => ?_)
  refine u_aload_n F dX2_init_19 rfl 1 rfl ?_
  refine u_get F 0 rfl rfl uw_X2 0 (by decide) rfl rfl wf_X2_11 dX2_init_20 ?_
  refine u_iload_n F dX2_init_23 rfl 0 rfl ?_
  refine u_new F (ci := 0) tyX0 tyX0_ok uw_X0 wcl_X2_9 win_X0 wini_X0 rfl (fs := [.null, .null, .int 0, .int 0, .int 0]) (fun j hj => by rcases (show j = 0 ∨ j = 1 ∨ j = 2 ∨ j = 3 ∨ j = 4 by omega) with rfl | rfl | rfl | rfl | rfl <;> rfl) (Nat.le_of_ble_eq_true rfl) (Nat.le_of_ble_eq_true rfl) dX2_init_24 (fun q2 => ?_)
  refine u_dup F dX2_init_27 rfl ?_
  refine u_initN F (n := 0) (As := []) (rest := [.ref _, .int _, .ref _]) rfl (n_X0 (D := D) (ca := ca) (base := base) (l := l)) wc_X0_init wml_X2_17 wi_X0_init wini_X0 rfl (by decide +kernel) rfl ⟨rfl, rfl, Nat.le_of_ble_eq_true rfl, Nat.le_of_ble_eq_true rfl, Nat.le_of_ble_eq_true rfl, Nat.le_of_ble_eq_true rfl, Nat.le_of_ble_eq_true rfl⟩ dX2_init_28 (fun bw hbw => ?_)
  obtain ⟨q3, q4, q5, q6, rfl⟩ := hbw
  refine u_widen (k := 6) (n := 30) (Nat.le_of_ble_eq_true rfl) (Nat.le_of_ble_eq_true rfl) ?_
  refine u_aast F 1 1 2 0 rfl rfl rfl rfl ⟨by decide, by decide, by decide⟩ dX2_init_31 (w' := [(h, .inr (2, [.ref q1, .null, .int 0, .int 0, .int 0])), (q1, .inl (ca 1, 4, .inr (.inr (.inr (.inr (va_up (fun _ => none) 0 (some q2))))))), (q2, .inr (0, [.ref q3, .ref q6, .int 0, .int 0, .int 0])), (q3, .inr (1, [.ref q4, .ref q5, .int 1])), (q4, .inl (ca 0, 8, .inl (fun _ => 0))), (q5, .inl (ca 0, 8, .inl (fun _ => 0))), (q6, .inl (ca 0, 2, .inl (hndL)))]) rfl ?_
  refine u_iinc F (k := 0) 1 dX2_init_32 rfl (by decide) (by decide) (lv' := [(1, .int _), (0, .ref _)]) rfl ?_
  refine u_goto F (tgt := 14) dX2_init_35 (by decide) ?_
  refine u_iload_n F dX2_init_14 rfl 0 rfl ?_
  refine u_iconst F (v := 4) dX2_init_15 (by decide) ?_
  refine u_icmp_ge F (tgt := 38) dX2_init_16 (by decide) (fun h => absurd h (by decide)) (fun _ => ?_)
  refine u_aload_n F dX2_init_19 rfl 1 rfl ?_
  refine u_get F 0 rfl rfl uw_X2 0 (by decide) rfl rfl wf_X2_11 dX2_init_20 ?_
  refine u_iload_n F dX2_init_23 rfl 0 rfl ?_
  refine u_new F (ci := 0) tyX0 tyX0_ok uw_X0 wcl_X2_9 win_X0 wini_X0 rfl (fs := [.null, .null, .int 0, .int 0, .int 0]) (fun j hj => by rcases (show j = 0 ∨ j = 1 ∨ j = 2 ∨ j = 3 ∨ j = 4 by omega) with rfl | rfl | rfl | rfl | rfl <;> rfl) (Nat.le_of_ble_eq_true rfl) (Nat.le_of_ble_eq_true rfl) dX2_init_24 (fun q7 => ?_)
  refine u_dup F dX2_init_27 rfl ?_
  refine u_initN F (n := 0) (As := []) (rest := [.ref _, .int _, .ref _]) rfl (n_X0 (D := D) (ca := ca) (base := base) (l := l)) wc_X0_init wml_X2_17 wi_X0_init wini_X0 rfl (by decide +kernel) rfl ⟨rfl, rfl, Nat.le_of_ble_eq_true rfl, Nat.le_of_ble_eq_true rfl, Nat.le_of_ble_eq_true rfl, Nat.le_of_ble_eq_true rfl, Nat.le_of_ble_eq_true rfl⟩ dX2_init_28 (fun bw hbw => ?_)
  obtain ⟨q8, q9, q10, q11, rfl⟩ := hbw
  refine u_widen (k := 11) (n := 56) (Nat.le_of_ble_eq_true rfl) (Nat.le_of_ble_eq_true rfl) ?_
  refine u_aast F 1 1 7 1 rfl rfl rfl rfl ⟨by decide, by decide, by decide⟩ dX2_init_31 (w' := [(h, .inr (2, [.ref q1, .null, .int 0, .int 0, .int 0])), (q1, .inl (ca 1, 4, .inr (.inr (.inr (.inr (va_up (va_up (fun _ => none) 0 (some q2)) 1 (some q7))))))), (q2, .inr (0, [.ref q3, .ref q6, .int 0, .int 0, .int 0])), (q3, .inr (1, [.ref q4, .ref q5, .int 1])), (q4, .inl (ca 0, 8, .inl (fun _ => 0))), (q5, .inl (ca 0, 8, .inl (fun _ => 0))), (q6, .inl (ca 0, 2, .inl (hndL))), (q7, .inr (0, [.ref q8, .ref q11, .int 0, .int 0, .int 0])), (q8, .inr (1, [.ref q9, .ref q10, .int 1])), (q9, .inl (ca 0, 8, .inl (fun _ => 0))), (q10, .inl (ca 0, 8, .inl (fun _ => 0))), (q11, .inl (ca 0, 2, .inl (hndL)))]) rfl ?_
  refine u_iinc F (k := 0) 2 dX2_init_32 rfl (by decide) (by decide) (lv' := [(1, .int _), (0, .ref _)]) rfl ?_
  refine u_goto F (tgt := 14) dX2_init_35 (by decide) ?_
  refine u_iload_n F dX2_init_14 rfl 0 rfl ?_
  refine u_iconst F (v := 4) dX2_init_15 (by decide) ?_
  refine u_icmp_ge F (tgt := 38) dX2_init_16 (by decide) (fun h => absurd h (by decide)) (fun _ => ?_)
  refine u_aload_n F dX2_init_19 rfl 1 rfl ?_
  refine u_get F 0 rfl rfl uw_X2 0 (by decide) rfl rfl wf_X2_11 dX2_init_20 ?_
  refine u_iload_n F dX2_init_23 rfl 0 rfl ?_
  refine u_new F (ci := 0) tyX0 tyX0_ok uw_X0 wcl_X2_9 win_X0 wini_X0 rfl (fs := [.null, .null, .int 0, .int 0, .int 0]) (fun j hj => by rcases (show j = 0 ∨ j = 1 ∨ j = 2 ∨ j = 3 ∨ j = 4 by omega) with rfl | rfl | rfl | rfl | rfl <;> rfl) (Nat.le_of_ble_eq_true rfl) (Nat.le_of_ble_eq_true rfl) dX2_init_24 (fun q12 => ?_)
  refine u_dup F dX2_init_27 rfl ?_
  refine u_initN F (n := 0) (As := []) (rest := [.ref _, .int _, .ref _]) rfl (n_X0 (D := D) (ca := ca) (base := base) (l := l)) wc_X0_init wml_X2_17 wi_X0_init wini_X0 rfl (by decide +kernel) rfl ⟨rfl, rfl, Nat.le_of_ble_eq_true rfl, Nat.le_of_ble_eq_true rfl, Nat.le_of_ble_eq_true rfl, Nat.le_of_ble_eq_true rfl, Nat.le_of_ble_eq_true rfl⟩ dX2_init_28 (fun bw hbw => ?_)
  obtain ⟨q13, q14, q15, q16, rfl⟩ := hbw
  refine u_widen (k := 16) (n := 82) (Nat.le_of_ble_eq_true rfl) (Nat.le_of_ble_eq_true rfl) ?_
  refine u_aast F 1 1 12 2 rfl rfl rfl rfl ⟨by decide, by decide, by decide⟩ dX2_init_31 (w' := [(h, .inr (2, [.ref q1, .null, .int 0, .int 0, .int 0])), (q1, .inl (ca 1, 4, .inr (.inr (.inr (.inr (va_up (va_up (va_up (fun _ => none) 0 (some q2)) 1 (some q7)) 2 (some q12))))))), (q2, .inr (0, [.ref q3, .ref q6, .int 0, .int 0, .int 0])), (q3, .inr (1, [.ref q4, .ref q5, .int 1])), (q4, .inl (ca 0, 8, .inl (fun _ => 0))), (q5, .inl (ca 0, 8, .inl (fun _ => 0))), (q6, .inl (ca 0, 2, .inl (hndL))), (q7, .inr (0, [.ref q8, .ref q11, .int 0, .int 0, .int 0])), (q8, .inr (1, [.ref q9, .ref q10, .int 1])), (q9, .inl (ca 0, 8, .inl (fun _ => 0))), (q10, .inl (ca 0, 8, .inl (fun _ => 0))), (q11, .inl (ca 0, 2, .inl (hndL))), (q12, .inr (0, [.ref q13, .ref q16, .int 0, .int 0, .int 0])), (q13, .inr (1, [.ref q14, .ref q15, .int 1])), (q14, .inl (ca 0, 8, .inl (fun _ => 0))), (q15, .inl (ca 0, 8, .inl (fun _ => 0))), (q16, .inl (ca 0, 2, .inl (hndL)))]) rfl ?_
  refine u_iinc F (k := 0) 3 dX2_init_32 rfl (by decide) (by decide) (lv' := [(1, .int _), (0, .ref _)]) rfl ?_
  refine u_goto F (tgt := 14) dX2_init_35 (by decide) ?_
  refine u_iload_n F dX2_init_14 rfl 0 rfl ?_
  refine u_iconst F (v := 4) dX2_init_15 (by decide) ?_
  refine u_icmp_ge F (tgt := 38) dX2_init_16 (by decide) (fun h => absurd h (by decide)) (fun _ => ?_)
  refine u_aload_n F dX2_init_19 rfl 1 rfl ?_
  refine u_get F 0 rfl rfl uw_X2 0 (by decide) rfl rfl wf_X2_11 dX2_init_20 ?_
  refine u_iload_n F dX2_init_23 rfl 0 rfl ?_
  refine u_new F (ci := 0) tyX0 tyX0_ok uw_X0 wcl_X2_9 win_X0 wini_X0 rfl (fs := [.null, .null, .int 0, .int 0, .int 0]) (fun j hj => by rcases (show j = 0 ∨ j = 1 ∨ j = 2 ∨ j = 3 ∨ j = 4 by omega) with rfl | rfl | rfl | rfl | rfl <;> rfl) (Nat.le_of_ble_eq_true rfl) (Nat.le_of_ble_eq_true rfl) dX2_init_24 (fun q17 => ?_)
  refine u_dup F dX2_init_27 rfl ?_
  refine u_initN F (n := 0) (As := []) (rest := [.ref _, .int _, .ref _]) rfl (n_X0 (D := D) (ca := ca) (base := base) (l := l)) wc_X0_init wml_X2_17 wi_X0_init wini_X0 rfl (by decide +kernel) rfl ⟨rfl, rfl, Nat.le_of_ble_eq_true rfl, Nat.le_of_ble_eq_true rfl, Nat.le_of_ble_eq_true rfl, Nat.le_of_ble_eq_true rfl, Nat.le_of_ble_eq_true rfl⟩ dX2_init_28 (fun bw hbw => ?_)
  obtain ⟨q18, q19, q20, q21, rfl⟩ := hbw
  refine u_widen (k := 21) (n := 108) (Nat.le_of_ble_eq_true rfl) (Nat.le_of_ble_eq_true rfl) ?_
  refine u_aast F 1 1 17 3 rfl rfl rfl rfl ⟨by decide, by decide, by decide⟩ dX2_init_31 (w' := [(h, .inr (2, [.ref q1, .null, .int 0, .int 0, .int 0])), (q1, .inl (ca 1, 4, .inr (.inr (.inr (.inr (va_up (va_up (va_up (va_up (fun _ => none) 0 (some q2)) 1 (some q7)) 2 (some q12)) 3 (some q17))))))), (q2, .inr (0, [.ref q3, .ref q6, .int 0, .int 0, .int 0])), (q3, .inr (1, [.ref q4, .ref q5, .int 1])), (q4, .inl (ca 0, 8, .inl (fun _ => 0))), (q5, .inl (ca 0, 8, .inl (fun _ => 0))), (q6, .inl (ca 0, 2, .inl (hndL))), (q7, .inr (0, [.ref q8, .ref q11, .int 0, .int 0, .int 0])), (q8, .inr (1, [.ref q9, .ref q10, .int 1])), (q9, .inl (ca 0, 8, .inl (fun _ => 0))), (q10, .inl (ca 0, 8, .inl (fun _ => 0))), (q11, .inl (ca 0, 2, .inl (hndL))), (q12, .inr (0, [.ref q13, .ref q16, .int 0, .int 0, .int 0])), (q13, .inr (1, [.ref q14, .ref q15, .int 1])), (q14, .inl (ca 0, 8, .inl (fun _ => 0))), (q15, .inl (ca 0, 8, .inl (fun _ => 0))), (q16, .inl (ca 0, 2, .inl (hndL))), (q17, .inr (0, [.ref q18, .ref q21, .int 0, .int 0, .int 0])), (q18, .inr (1, [.ref q19, .ref q20, .int 1])), (q19, .inl (ca 0, 8, .inl (fun _ => 0))), (q20, .inl (ca 0, 8, .inl (fun _ => 0))), (q21, .inl (ca 0, 2, .inl (hndL)))]) rfl ?_
  refine u_iinc F (k := 0) 4 dX2_init_32 rfl (by decide) (by decide) (lv' := [(1, .int _), (0, .ref _)]) rfl ?_
  refine u_goto F (tgt := 14) dX2_init_35 (by decide) ?_
  refine u_iload_n F dX2_init_14 rfl 0 rfl ?_
  refine u_iconst F (v := 4) dX2_init_15 (by decide) ?_
  refine u_icmp_ge F (tgt := 38) dX2_init_16 (by decide) (fun _ => ?_) (fun h => absurd (by decide) h)
  refine u_aload_n F dX2_init_38 rfl 1 rfl ?_
  refine u_bipush F (v := 12) dX2_init_39 (by decide) ?_
  refine u_newqT F 12 wcl_X2_18 (by decide) (by decide) (by decide) (Nat.le_of_ble_eq_true rfl) (Nat.le_of_ble_eq_true rfl) dX2_init_41 (fun q22 => ?_)
  refine u_putF F hin tyX2 tyX2_ok nmX2 0 rfl rfl uw_X2 1 (by decide) rfl rfl rfl rfl (Nat.le_of_ble_eq_true rfl) wf_X2_20 dX2_init_44 (w' := [(h, .inr (2, [.ref q1, .ref q22, .int 0, .int 0, .int 0])), (q1, .inl (ca 1, 4, .inr (.inr (.inr (.inr (va_up (va_up (va_up (va_up (fun _ => none) 0 (some q2)) 1 (some q7)) 2 (some q12)) 3 (some q17))))))), (q2, .inr (0, [.ref q3, .ref q6, .int 0, .int 0, .int 0])), (q3, .inr (1, [.ref q4, .ref q5, .int 1])), (q4, .inl (ca 0, 8, .inl (fun _ => 0))), (q5, .inl (ca 0, 8, .inl (fun _ => 0))), (q6, .inl (ca 0, 2, .inl (hndL))), (q7, .inr (0, [.ref q8, .ref q11, .int 0, .int 0, .int 0])), (q8, .inr (1, [.ref q9, .ref q10, .int 1])), (q9, .inl (ca 0, 8, .inl (fun _ => 0))), (q10, .inl (ca 0, 8, .inl (fun _ => 0))), (q11, .inl (ca 0, 2, .inl (hndL))), (q12, .inr (0, [.ref q13, .ref q16, .int 0, .int 0, .int 0])), (q13, .inr (1, [.ref q14, .ref q15, .int 1])), (q14, .inl (ca 0, 8, .inl (fun _ => 0))), (q15, .inl (ca 0, 8, .inl (fun _ => 0))), (q16, .inl (ca 0, 2, .inl (hndL))), (q17, .inr (0, [.ref q18, .ref q21, .int 0, .int 0, .int 0])), (q18, .inr (1, [.ref q19, .ref q20, .int 1])), (q19, .inl (ca 0, 8, .inl (fun _ => 0))), (q20, .inl (ca 0, 8, .inl (fun _ => 0))), (q21, .inl (ca 0, 2, .inl (hndL))), (q22, .inl (ca 2, 12, .inr (.inr (.inr (.inr (fun _ => none))))))]) rfl ?_
  refine u_iconst F (v := 0) dX2_init_47 (by decide) ?_
  refine u_istore_n F dX2_init_48 rfl (by decide) (lv' := [(1, .int _), (0, .ref _)]) rfl ?_
  refine u_iload_n F dX2_init_49 rfl 0 rfl ?_
  refine u_bipush F (v := 12) dX2_init_50 (by decide) ?_
  refine u_icmp_ge F (tgt := 74) dX2_init_52 (by decide) (fun h => absurd h (by decide)) (fun _ => ?_)
  refine u_aload_n F dX2_init_55 rfl 1 rfl ?_
  refine u_get F 0 rfl rfl uw_X2 1 (by decide) rfl rfl wf_X2_20 dX2_init_56 ?_
  refine u_iload_n F dX2_init_59 rfl 0 rfl ?_
  refine u_new F (ci := 3) tyX3 tyX3_ok uw_X3 wcl_X2_18 win_X3 wini_X3 rfl (fs := [.int 0, .int 0, .int 0, .int 0, .int 0, .int 0, .int 0, .int 0]) (fun j hj => by rcases (show j = 0 ∨ j = 1 ∨ j = 2 ∨ j = 3 ∨ j = 4 ∨ j = 5 ∨ j = 6 ∨ j = 7 by omega) with rfl | rfl | rfl | rfl | rfl | rfl | rfl | rfl <;> rfl) (Nat.le_of_ble_eq_true rfl) (Nat.le_of_ble_eq_true rfl) dX2_init_60 (fun q23 => ?_)
  refine u_dup F dX2_init_63 rfl ?_
  refine u_initN F (n := 0) (As := []) (rest := [.ref _, .int _, .ref _]) rfl (n_X3 (D := D) (ca := ca) (base := base) (l := l)) wc_X3_init wml_X2_24 wi_X3_init wini_X3 rfl (by decide +kernel) rfl ⟨rfl, rfl, Nat.le_of_ble_eq_true rfl, Nat.le_of_ble_eq_true rfl, Nat.le_of_ble_eq_true rfl, Nat.le_of_ble_eq_true rfl, Nat.le_of_ble_eq_true rfl⟩ dX2_init_64 (fun bw hbw => ?_)
  subst hbw
  refine u_widen (k := 23) (n := 128) (Nat.le_of_ble_eq_true rfl) (Nat.le_of_ble_eq_true rfl) ?_
  refine u_aast F 22 2 23 0 rfl rfl rfl rfl ⟨by decide, by decide, by decide⟩ dX2_init_67 (w' := [(h, .inr (2, [.ref q1, .ref q22, .int 0, .int 0, .int 0])), (q1, .inl (ca 1, 4, .inr (.inr (.inr (.inr (va_up (va_up (va_up (va_up (fun _ => none) 0 (some q2)) 1 (some q7)) 2 (some q12)) 3 (some q17))))))), (q2, .inr (0, [.ref q3, .ref q6, .int 0, .int 0, .int 0])), (q3, .inr (1, [.ref q4, .ref q5, .int 1])), (q4, .inl (ca 0, 8, .inl (fun _ => 0))), (q5, .inl (ca 0, 8, .inl (fun _ => 0))), (q6, .inl (ca 0, 2, .inl (hndL))), (q7, .inr (0, [.ref q8, .ref q11, .int 0, .int 0, .int 0])), (q8, .inr (1, [.ref q9, .ref q10, .int 1])), (q9, .inl (ca 0, 8, .inl (fun _ => 0))), (q10, .inl (ca 0, 8, .inl (fun _ => 0))), (q11, .inl (ca 0, 2, .inl (hndL))), (q12, .inr (0, [.ref q13, .ref q16, .int 0, .int 0, .int 0])), (q13, .inr (1, [.ref q14, .ref q15, .int 1])), (q14, .inl (ca 0, 8, .inl (fun _ => 0))), (q15, .inl (ca 0, 8, .inl (fun _ => 0))), (q16, .inl (ca 0, 2, .inl (hndL))), (q17, .inr (0, [.ref q18, .ref q21, .int 0, .int 0, .int 0])), (q18, .inr (1, [.ref q19, .ref q20, .int 1])), (q19, .inl (ca 0, 8, .inl (fun _ => 0))), (q20, .inl (ca 0, 8, .inl (fun _ => 0))), (q21, .inl (ca 0, 2, .inl (hndL))), (q22, .inl (ca 2, 12, .inr (.inr (.inr (.inr (va_up (fun _ => none) 0 (some q23))))))), (q23, .inr (3, [.int 0, .int 0, .int (-1), .int (-1), .int 0, .int 0, .int 0, .int 0]))]) rfl ?_
  refine u_iinc F (k := 0) 1 dX2_init_68 rfl (by decide) (by decide) (lv' := [(1, .int _), (0, .ref _)]) rfl ?_
  refine u_goto F (tgt := 49) dX2_init_71 (by decide) ?_
  refine u_iload_n F dX2_init_49 rfl 0 rfl ?_
  refine u_bipush F (v := 12) dX2_init_50 (by decide) ?_
  refine u_icmp_ge F (tgt := 74) dX2_init_52 (by decide) (fun h => absurd h (by decide)) (fun _ => ?_)
  refine u_aload_n F dX2_init_55 rfl 1 rfl ?_
  refine u_get F 0 rfl rfl uw_X2 1 (by decide) rfl rfl wf_X2_20 dX2_init_56 ?_
  refine u_iload_n F dX2_init_59 rfl 0 rfl ?_
  refine u_new F (ci := 3) tyX3 tyX3_ok uw_X3 wcl_X2_18 win_X3 wini_X3 rfl (fs := [.int 0, .int 0, .int 0, .int 0, .int 0, .int 0, .int 0, .int 0]) (fun j hj => by rcases (show j = 0 ∨ j = 1 ∨ j = 2 ∨ j = 3 ∨ j = 4 ∨ j = 5 ∨ j = 6 ∨ j = 7 by omega) with rfl | rfl | rfl | rfl | rfl | rfl | rfl | rfl <;> rfl) (Nat.le_of_ble_eq_true rfl) (Nat.le_of_ble_eq_true rfl) dX2_init_60 (fun q24 => ?_)
  refine u_dup F dX2_init_63 rfl ?_
  refine u_initN F (n := 0) (As := []) (rest := [.ref _, .int _, .ref _]) rfl (n_X3 (D := D) (ca := ca) (base := base) (l := l)) wc_X3_init wml_X2_24 wi_X3_init wini_X3 rfl (by decide +kernel) rfl ⟨rfl, rfl, Nat.le_of_ble_eq_true rfl, Nat.le_of_ble_eq_true rfl, Nat.le_of_ble_eq_true rfl, Nat.le_of_ble_eq_true rfl, Nat.le_of_ble_eq_true rfl⟩ dX2_init_64 (fun bw hbw => ?_)
  subst hbw
  refine u_widen (k := 24) (n := 136) (Nat.le_of_ble_eq_true rfl) (Nat.le_of_ble_eq_true rfl) ?_
  refine u_aast F 22 2 24 1 rfl rfl rfl rfl ⟨by decide, by decide, by decide⟩ dX2_init_67 (w' := [(h, .inr (2, [.ref q1, .ref q22, .int 0, .int 0, .int 0])), (q1, .inl (ca 1, 4, .inr (.inr (.inr (.inr (va_up (va_up (va_up (va_up (fun _ => none) 0 (some q2)) 1 (some q7)) 2 (some q12)) 3 (some q17))))))), (q2, .inr (0, [.ref q3, .ref q6, .int 0, .int 0, .int 0])), (q3, .inr (1, [.ref q4, .ref q5, .int 1])), (q4, .inl (ca 0, 8, .inl (fun _ => 0))), (q5, .inl (ca 0, 8, .inl (fun _ => 0))), (q6, .inl (ca 0, 2, .inl (hndL))), (q7, .inr (0, [.ref q8, .ref q11, .int 0, .int 0, .int 0])), (q8, .inr (1, [.ref q9, .ref q10, .int 1])), (q9, .inl (ca 0, 8, .inl (fun _ => 0))), (q10, .inl (ca 0, 8, .inl (fun _ => 0))), (q11, .inl (ca 0, 2, .inl (hndL))), (q12, .inr (0, [.ref q13, .ref q16, .int 0, .int 0, .int 0])), (q13, .inr (1, [.ref q14, .ref q15, .int 1])), (q14, .inl (ca 0, 8, .inl (fun _ => 0))), (q15, .inl (ca 0, 8, .inl (fun _ => 0))), (q16, .inl (ca 0, 2, .inl (hndL))), (q17, .inr (0, [.ref q18, .ref q21, .int 0, .int 0, .int 0])), (q18, .inr (1, [.ref q19, .ref q20, .int 1])), (q19, .inl (ca 0, 8, .inl (fun _ => 0))), (q20, .inl (ca 0, 8, .inl (fun _ => 0))), (q21, .inl (ca 0, 2, .inl (hndL))), (q22, .inl (ca 2, 12, .inr (.inr (.inr (.inr (va_up (va_up (fun _ => none) 0 (some q23)) 1 (some q24))))))), (q23, .inr (3, [.int 0, .int 0, .int (-1), .int (-1), .int 0, .int 0, .int 0, .int 0])), (q24, .inr (3, [.int 0, .int 0, .int (-1), .int (-1), .int 0, .int 0, .int 0, .int 0]))]) rfl ?_
  refine u_iinc F (k := 0) 2 dX2_init_68 rfl (by decide) (by decide) (lv' := [(1, .int _), (0, .ref _)]) rfl ?_
  refine u_goto F (tgt := 49) dX2_init_71 (by decide) ?_
  refine u_iload_n F dX2_init_49 rfl 0 rfl ?_
  refine u_bipush F (v := 12) dX2_init_50 (by decide) ?_
  refine u_icmp_ge F (tgt := 74) dX2_init_52 (by decide) (fun h => absurd h (by decide)) (fun _ => ?_)
  refine u_aload_n F dX2_init_55 rfl 1 rfl ?_
  refine u_get F 0 rfl rfl uw_X2 1 (by decide) rfl rfl wf_X2_20 dX2_init_56 ?_
  refine u_iload_n F dX2_init_59 rfl 0 rfl ?_
  refine u_new F (ci := 3) tyX3 tyX3_ok uw_X3 wcl_X2_18 win_X3 wini_X3 rfl (fs := [.int 0, .int 0, .int 0, .int 0, .int 0, .int 0, .int 0, .int 0]) (fun j hj => by rcases (show j = 0 ∨ j = 1 ∨ j = 2 ∨ j = 3 ∨ j = 4 ∨ j = 5 ∨ j = 6 ∨ j = 7 by omega) with rfl | rfl | rfl | rfl | rfl | rfl | rfl | rfl <;> rfl) (Nat.le_of_ble_eq_true rfl) (Nat.le_of_ble_eq_true rfl) dX2_init_60 (fun q25 => ?_)
  refine u_dup F dX2_init_63 rfl ?_
  refine u_initN F (n := 0) (As := []) (rest := [.ref _, .int _, .ref _]) rfl (n_X3 (D := D) (ca := ca) (base := base) (l := l)) wc_X3_init wml_X2_24 wi_X3_init wini_X3 rfl (by decide +kernel) rfl ⟨rfl, rfl, Nat.le_of_ble_eq_true rfl, Nat.le_of_ble_eq_true rfl, Nat.le_of_ble_eq_true rfl, Nat.le_of_ble_eq_true rfl, Nat.le_of_ble_eq_true rfl⟩ dX2_init_64 (fun bw hbw => ?_)
  subst hbw
  refine u_widen (k := 25) (n := 144) (Nat.le_of_ble_eq_true rfl) (Nat.le_of_ble_eq_true rfl) ?_
  refine u_aast F 22 2 25 2 rfl rfl rfl rfl ⟨by decide, by decide, by decide⟩ dX2_init_67 (w' := [(h, .inr (2, [.ref q1, .ref q22, .int 0, .int 0, .int 0])), (q1, .inl (ca 1, 4, .inr (.inr (.inr (.inr (va_up (va_up (va_up (va_up (fun _ => none) 0 (some q2)) 1 (some q7)) 2 (some q12)) 3 (some q17))))))), (q2, .inr (0, [.ref q3, .ref q6, .int 0, .int 0, .int 0])), (q3, .inr (1, [.ref q4, .ref q5, .int 1])), (q4, .inl (ca 0, 8, .inl (fun _ => 0))), (q5, .inl (ca 0, 8, .inl (fun _ => 0))), (q6, .inl (ca 0, 2, .inl (hndL))), (q7, .inr (0, [.ref q8, .ref q11, .int 0, .int 0, .int 0])), (q8, .inr (1, [.ref q9, .ref q10, .int 1])), (q9, .inl (ca 0, 8, .inl (fun _ => 0))), (q10, .inl (ca 0, 8, .inl (fun _ => 0))), (q11, .inl (ca 0, 2, .inl (hndL))), (q12, .inr (0, [.ref q13, .ref q16, .int 0, .int 0, .int 0])), (q13, .inr (1, [.ref q14, .ref q15, .int 1])), (q14, .inl (ca 0, 8, .inl (fun _ => 0))), (q15, .inl (ca 0, 8, .inl (fun _ => 0))), (q16, .inl (ca 0, 2, .inl (hndL))), (q17, .inr (0, [.ref q18, .ref q21, .int 0, .int 0, .int 0])), (q18, .inr (1, [.ref q19, .ref q20, .int 1])), (q19, .inl (ca 0, 8, .inl (fun _ => 0))), (q20, .inl (ca 0, 8, .inl (fun _ => 0))), (q21, .inl (ca 0, 2, .inl (hndL))), (q22, .inl (ca 2, 12, .inr (.inr (.inr (.inr (va_up (va_up (va_up (fun _ => none) 0 (some q23)) 1 (some q24)) 2 (some q25))))))), (q23, .inr (3, [.int 0, .int 0, .int (-1), .int (-1), .int 0, .int 0, .int 0, .int 0])), (q24, .inr (3, [.int 0, .int 0, .int (-1), .int (-1), .int 0, .int 0, .int 0, .int 0])), (q25, .inr (3, [.int 0, .int 0, .int (-1), .int (-1), .int 0, .int 0, .int 0, .int 0]))]) rfl ?_
  refine u_iinc F (k := 0) 3 dX2_init_68 rfl (by decide) (by decide) (lv' := [(1, .int _), (0, .ref _)]) rfl ?_
  refine u_goto F (tgt := 49) dX2_init_71 (by decide) ?_
  refine u_iload_n F dX2_init_49 rfl 0 rfl ?_
  refine u_bipush F (v := 12) dX2_init_50 (by decide) ?_
  refine u_icmp_ge F (tgt := 74) dX2_init_52 (by decide) (fun h => absurd h (by decide)) (fun _ => ?_)
  refine u_aload_n F dX2_init_55 rfl 1 rfl ?_
  refine u_get F 0 rfl rfl uw_X2 1 (by decide) rfl rfl wf_X2_20 dX2_init_56 ?_
  refine u_iload_n F dX2_init_59 rfl 0 rfl ?_
  refine u_new F (ci := 3) tyX3 tyX3_ok uw_X3 wcl_X2_18 win_X3 wini_X3 rfl (fs := [.int 0, .int 0, .int 0, .int 0, .int 0, .int 0, .int 0, .int 0]) (fun j hj => by rcases (show j = 0 ∨ j = 1 ∨ j = 2 ∨ j = 3 ∨ j = 4 ∨ j = 5 ∨ j = 6 ∨ j = 7 by omega) with rfl | rfl | rfl | rfl | rfl | rfl | rfl | rfl <;> rfl) (Nat.le_of_ble_eq_true rfl) (Nat.le_of_ble_eq_true rfl) dX2_init_60 (fun q26 => ?_)
  refine u_dup F dX2_init_63 rfl ?_
  refine u_initN F (n := 0) (As := []) (rest := [.ref _, .int _, .ref _]) rfl (n_X3 (D := D) (ca := ca) (base := base) (l := l)) wc_X3_init wml_X2_24 wi_X3_init wini_X3 rfl (by decide +kernel) rfl ⟨rfl, rfl, Nat.le_of_ble_eq_true rfl, Nat.le_of_ble_eq_true rfl, Nat.le_of_ble_eq_true rfl, Nat.le_of_ble_eq_true rfl, Nat.le_of_ble_eq_true rfl⟩ dX2_init_64 (fun bw hbw => ?_)
  subst hbw
  refine u_widen (k := 26) (n := 152) (Nat.le_of_ble_eq_true rfl) (Nat.le_of_ble_eq_true rfl) ?_
  refine u_aast F 22 2 26 3 rfl rfl rfl rfl ⟨by decide, by decide, by decide⟩ dX2_init_67 (w' := [(h, .inr (2, [.ref q1, .ref q22, .int 0, .int 0, .int 0])), (q1, .inl (ca 1, 4, .inr (.inr (.inr (.inr (va_up (va_up (va_up (va_up (fun _ => none) 0 (some q2)) 1 (some q7)) 2 (some q12)) 3 (some q17))))))), (q2, .inr (0, [.ref q3, .ref q6, .int 0, .int 0, .int 0])), (q3, .inr (1, [.ref q4, .ref q5, .int 1])), (q4, .inl (ca 0, 8, .inl (fun _ => 0))), (q5, .inl (ca 0, 8, .inl (fun _ => 0))), (q6, .inl (ca 0, 2, .inl (hndL))), (q7, .inr (0, [.ref q8, .ref q11, .int 0, .int 0, .int 0])), (q8, .inr (1, [.ref q9, .ref q10, .int 1])), (q9, .inl (ca 0, 8, .inl (fun _ => 0))), (q10, .inl (ca 0, 8, .inl (fun _ => 0))), (q11, .inl (ca 0, 2, .inl (hndL))), (q12, .inr (0, [.ref q13, .ref q16, .int 0, .int 0, .int 0])), (q13, .inr (1, [.ref q14, .ref q15, .int 1])), (q14, .inl (ca 0, 8, .inl (fun _ => 0))), (q15, .inl (ca 0, 8, .inl (fun _ => 0))), (q16, .inl (ca 0, 2, .inl (hndL))), (q17, .inr (0, [.ref q18, .ref q21, .int 0, .int 0, .int 0])), (q18, .inr (1, [.ref q19, .ref q20, .int 1])), (q19, .inl (ca 0, 8, .inl (fun _ => 0))), (q20, .inl (ca 0, 8, .inl (fun _ => 0))), (q21, .inl (ca 0, 2, .inl (hndL))), (q22, .inl (ca 2, 12, .inr (.inr (.inr (.inr (va_up (va_up (va_up (va_up (fun _ => none) 0 (some q23)) 1 (some q24)) 2 (some q25)) 3 (some q26))))))), (q23, .inr (3, [.int 0, .int 0, .int (-1), .int (-1), .int 0, .int 0, .int 0, .int 0])), (q24, .inr (3, [.int 0, .int 0, .int (-1), .int (-1), .int 0, .int 0, .int 0, .int 0])), (q25, .inr (3, [.int 0, .int 0, .int (-1), .int (-1), .int 0, .int 0, .int 0, .int 0])), (q26, .inr (3, [.int 0, .int 0, .int (-1), .int (-1), .int 0, .int 0, .int 0, .int 0]))]) rfl ?_
  refine u_iinc F (k := 0) 4 dX2_init_68 rfl (by decide) (by decide) (lv' := [(1, .int _), (0, .ref _)]) rfl ?_
  refine u_goto F (tgt := 49) dX2_init_71 (by decide) ?_
  refine u_iload_n F dX2_init_49 rfl 0 rfl ?_
  refine u_bipush F (v := 12) dX2_init_50 (by decide) ?_
  refine u_icmp_ge F (tgt := 74) dX2_init_52 (by decide) (fun h => absurd h (by decide)) (fun _ => ?_)
  refine u_aload_n F dX2_init_55 rfl 1 rfl ?_
  refine u_get F 0 rfl rfl uw_X2 1 (by decide) rfl rfl wf_X2_20 dX2_init_56 ?_
  refine u_iload_n F dX2_init_59 rfl 0 rfl ?_
  refine u_new F (ci := 3) tyX3 tyX3_ok uw_X3 wcl_X2_18 win_X3 wini_X3 rfl (fs := [.int 0, .int 0, .int 0, .int 0, .int 0, .int 0, .int 0, .int 0]) (fun j hj => by rcases (show j = 0 ∨ j = 1 ∨ j = 2 ∨ j = 3 ∨ j = 4 ∨ j = 5 ∨ j = 6 ∨ j = 7 by omega) with rfl | rfl | rfl | rfl | rfl | rfl | rfl | rfl <;> rfl) (Nat.le_of_ble_eq_true rfl) (Nat.le_of_ble_eq_true rfl) dX2_init_60 (fun q27 => ?_)
  refine u_dup F dX2_init_63 rfl ?_
  refine u_initN F (n := 0) (As := []) (rest := [.ref _, .int _, .ref _]) rfl (n_X3 (D := D) (ca := ca) (base := base) (l := l)) wc_X3_init wml_X2_24 wi_X3_init wini_X3 rfl (by decide +kernel) rfl ⟨rfl, rfl, Nat.le_of_ble_eq_true rfl, Nat.le_of_ble_eq_true rfl, Nat.le_of_ble_eq_true rfl, Nat.le_of_ble_eq_true rfl, Nat.le_of_ble_eq_true rfl⟩ dX2_init_64 (fun bw hbw => ?_)
  subst hbw
  refine u_widen (k := 27) (n := 160) (Nat.le_of_ble_eq_true rfl) (Nat.le_of_ble_eq_true rfl) ?_
  refine u_aast F 22 2 27 4 rfl rfl rfl rfl ⟨by decide, by decide, by decide⟩ dX2_init_67 (w' := [(h, .inr (2, [.ref q1, .ref q22, .int 0, .int 0, .int 0])), (q1, .inl (ca 1, 4, .inr (.inr (.inr (.inr (va_up (va_up (va_up (va_up (fun _ => none) 0 (some q2)) 1 (some q7)) 2 (some q12)) 3 (some q17))))))), (q2, .inr (0, [.ref q3, .ref q6, .int 0, .int 0, .int 0])), (q3, .inr (1, [.ref q4, .ref q5, .int 1])), (q4, .inl (ca 0, 8, .inl (fun _ => 0))), (q5, .inl (ca 0, 8, .inl (fun _ => 0))), (q6, .inl (ca 0, 2, .inl (hndL))), (q7, .inr (0, [.ref q8, .ref q11, .int 0, .int 0, .int 0])), (q8, .inr (1, [.ref q9, .ref q10, .int 1])), (q9, .inl (ca 0, 8, .inl (fun _ => 0))), (q10, .inl (ca 0, 8, .inl (fun _ => 0))), (q11, .inl (ca 0, 2, .inl (hndL))), (q12, .inr (0, [.ref q13, .ref q16, .int 0, .int 0, .int 0])), (q13, .inr (1, [.ref q14, .ref q15, .int 1])), (q14, .inl (ca 0, 8, .inl (fun _ => 0))), (q15, .inl (ca 0, 8, .inl (fun _ => 0))), (q16, .inl (ca 0, 2, .inl (hndL))), (q17, .inr (0, [.ref q18, .ref q21, .int 0, .int 0, .int 0])), (q18, .inr (1, [.ref q19, .ref q20, .int 1])), (q19, .inl (ca 0, 8, .inl (fun _ => 0))), (q20, .inl (ca 0, 8, .inl (fun _ => 0))), (q21, .inl (ca 0, 2, .inl (hndL))), (q22, .inl (ca 2, 12, .inr (.inr (.inr (.inr (va_up (va_up (va_up (va_up (va_up (fun _ => none) 0 (some q23)) 1 (some q24)) 2 (some q25)) 3 (some q26)) 4 (some q27))))))), (q23, .inr (3, [.int 0, .int 0, .int (-1), .int (-1), .int 0, .int 0, .int 0, .int 0])), (q24, .inr (3, [.int 0, .int 0, .int (-1), .int (-1), .int 0, .int 0, .int 0, .int 0])), (q25, .inr (3, [.int 0, .int 0, .int (-1), .int (-1), .int 0, .int 0, .int 0, .int 0])), (q26, .inr (3, [.int 0, .int 0, .int (-1), .int (-1), .int 0, .int 0, .int 0, .int 0])), (q27, .inr (3, [.int 0, .int 0, .int (-1), .int (-1), .int 0, .int 0, .int 0, .int 0]))]) rfl ?_
  refine u_iinc F (k := 0) 5 dX2_init_68 rfl (by decide) (by decide) (lv' := [(1, .int _), (0, .ref _)]) rfl ?_
  refine u_goto F (tgt := 49) dX2_init_71 (by decide) ?_
  refine u_iload_n F dX2_init_49 rfl 0 rfl ?_
  refine u_bipush F (v := 12) dX2_init_50 (by decide) ?_
  refine u_icmp_ge F (tgt := 74) dX2_init_52 (by decide) (fun h => absurd h (by decide)) (fun _ => ?_)
  refine u_aload_n F dX2_init_55 rfl 1 rfl ?_
  refine u_get F 0 rfl rfl uw_X2 1 (by decide) rfl rfl wf_X2_20 dX2_init_56 ?_
  refine u_iload_n F dX2_init_59 rfl 0 rfl ?_
  refine u_new F (ci := 3) tyX3 tyX3_ok uw_X3 wcl_X2_18 win_X3 wini_X3 rfl (fs := [.int 0, .int 0, .int 0, .int 0, .int 0, .int 0, .int 0, .int 0]) (fun j hj => by rcases (show j = 0 ∨ j = 1 ∨ j = 2 ∨ j = 3 ∨ j = 4 ∨ j = 5 ∨ j = 6 ∨ j = 7 by omega) with rfl | rfl | rfl | rfl | rfl | rfl | rfl | rfl <;> rfl) (Nat.le_of_ble_eq_true rfl) (Nat.le_of_ble_eq_true rfl) dX2_init_60 (fun q28 => ?_)
  refine u_dup F dX2_init_63 rfl ?_
  refine u_initN F (n := 0) (As := []) (rest := [.ref _, .int _, .ref _]) rfl (n_X3 (D := D) (ca := ca) (base := base) (l := l)) wc_X3_init wml_X2_24 wi_X3_init wini_X3 rfl (by decide +kernel) rfl ⟨rfl, rfl, Nat.le_of_ble_eq_true rfl, Nat.le_of_ble_eq_true rfl, Nat.le_of_ble_eq_true rfl, Nat.le_of_ble_eq_true rfl, Nat.le_of_ble_eq_true rfl⟩ dX2_init_64 (fun bw hbw => ?_)
  subst hbw
  refine u_widen (k := 28) (n := 168) (Nat.le_of_ble_eq_true rfl) (Nat.le_of_ble_eq_true rfl) ?_
  refine u_aast F 22 2 28 5 rfl rfl rfl rfl ⟨by decide, by decide, by decide⟩ dX2_init_67 (w' := [(h, .inr (2, [.ref q1, .ref q22, .int 0, .int 0, .int 0])), (q1, .inl (ca 1, 4, .inr (.inr (.inr (.inr (va_up (va_up (va_up (va_up (fun _ => none) 0 (some q2)) 1 (some q7)) 2 (some q12)) 3 (some q17))))))), (q2, .inr (0, [.ref q3, .ref q6, .int 0, .int 0, .int 0])), (q3, .inr (1, [.ref q4, .ref q5, .int 1])), (q4, .inl (ca 0, 8, .inl (fun _ => 0))), (q5, .inl (ca 0, 8, .inl (fun _ => 0))), (q6, .inl (ca 0, 2, .inl (hndL))), (q7, .inr (0, [.ref q8, .ref q11, .int 0, .int 0, .int 0])), (q8, .inr (1, [.ref q9, .ref q10, .int 1])), (q9, .inl (ca 0, 8, .inl (fun _ => 0))), (q10, .inl (ca 0, 8, .inl (fun _ => 0))), (q11, .inl (ca 0, 2, .inl (hndL))), (q12, .inr (0, [.ref q13, .ref q16, .int 0, .int 0, .int 0])), (q13, .inr (1, [.ref q14, .ref q15, .int 1])), (q14, .inl (ca 0, 8, .inl (fun _ => 0))), (q15, .inl (ca 0, 8, .inl (fun _ => 0))), (q16, .inl (ca 0, 2, .inl (hndL))), (q17, .inr (0, [.ref q18, .ref q21, .int 0, .int 0, .int 0])), (q18, .inr (1, [.ref q19, .ref q20, .int 1])), (q19, .inl (ca 0, 8, .inl (fun _ => 0))), (q20, .inl (ca 0, 8, .inl (fun _ => 0))), (q21, .inl (ca 0, 2, .inl (hndL))), (q22, .inl (ca 2, 12, .inr (.inr (.inr (.inr (va_up (va_up (va_up (va_up (va_up (va_up (fun _ => none) 0 (some q23)) 1 (some q24)) 2 (some q25)) 3 (some q26)) 4 (some q27)) 5 (some q28))))))), (q23, .inr (3, [.int 0, .int 0, .int (-1), .int (-1), .int 0, .int 0, .int 0, .int 0])), (q24, .inr (3, [.int 0, .int 0, .int (-1), .int (-1), .int 0, .int 0, .int 0, .int 0])), (q25, .inr (3, [.int 0, .int 0, .int (-1), .int (-1), .int 0, .int 0, .int 0, .int 0])), (q26, .inr (3, [.int 0, .int 0, .int (-1), .int (-1), .int 0, .int 0, .int 0, .int 0])), (q27, .inr (3, [.int 0, .int 0, .int (-1), .int (-1), .int 0, .int 0, .int 0, .int 0])), (q28, .inr (3, [.int 0, .int 0, .int (-1), .int (-1), .int 0, .int 0, .int 0, .int 0]))]) rfl ?_
  refine u_iinc F (k := 0) 6 dX2_init_68 rfl (by decide) (by decide) (lv' := [(1, .int _), (0, .ref _)]) rfl ?_
  refine u_goto F (tgt := 49) dX2_init_71 (by decide) ?_
  refine u_iload_n F dX2_init_49 rfl 0 rfl ?_
  refine u_bipush F (v := 12) dX2_init_50 (by decide) ?_
  refine u_icmp_ge F (tgt := 74) dX2_init_52 (by decide) (fun h => absurd h (by decide)) (fun _ => ?_)
  refine u_aload_n F dX2_init_55 rfl 1 rfl ?_
  refine u_get F 0 rfl rfl uw_X2 1 (by decide) rfl rfl wf_X2_20 dX2_init_56 ?_
  refine u_iload_n F dX2_init_59 rfl 0 rfl ?_
  refine u_new F (ci := 3) tyX3 tyX3_ok uw_X3 wcl_X2_18 win_X3 wini_X3 rfl (fs := [.int 0, .int 0, .int 0, .int 0, .int 0, .int 0, .int 0, .int 0]) (fun j hj => by rcases (show j = 0 ∨ j = 1 ∨ j = 2 ∨ j = 3 ∨ j = 4 ∨ j = 5 ∨ j = 6 ∨ j = 7 by omega) with rfl | rfl | rfl | rfl | rfl | rfl | rfl | rfl <;> rfl) (Nat.le_of_ble_eq_true rfl) (Nat.le_of_ble_eq_true rfl) dX2_init_60 (fun q29 => ?_)
  refine u_dup F dX2_init_63 rfl ?_
  refine u_initN F (n := 0) (As := []) (rest := [.ref _, .int _, .ref _]) rfl (n_X3 (D := D) (ca := ca) (base := base) (l := l)) wc_X3_init wml_X2_24 wi_X3_init wini_X3 rfl (by decide +kernel) rfl ⟨rfl, rfl, Nat.le_of_ble_eq_true rfl, Nat.le_of_ble_eq_true rfl, Nat.le_of_ble_eq_true rfl, Nat.le_of_ble_eq_true rfl, Nat.le_of_ble_eq_true rfl⟩ dX2_init_64 (fun bw hbw => ?_)
  subst hbw
  refine u_widen (k := 29) (n := 176) (Nat.le_of_ble_eq_true rfl) (Nat.le_of_ble_eq_true rfl) ?_
  refine u_aast F 22 2 29 6 rfl rfl rfl rfl ⟨by decide, by decide, by decide⟩ dX2_init_67 (w' := [(h, .inr (2, [.ref q1, .ref q22, .int 0, .int 0, .int 0])), (q1, .inl (ca 1, 4, .inr (.inr (.inr (.inr (va_up (va_up (va_up (va_up (fun _ => none) 0 (some q2)) 1 (some q7)) 2 (some q12)) 3 (some q17))))))), (q2, .inr (0, [.ref q3, .ref q6, .int 0, .int 0, .int 0])), (q3, .inr (1, [.ref q4, .ref q5, .int 1])), (q4, .inl (ca 0, 8, .inl (fun _ => 0))), (q5, .inl (ca 0, 8, .inl (fun _ => 0))), (q6, .inl (ca 0, 2, .inl (hndL))), (q7, .inr (0, [.ref q8, .ref q11, .int 0, .int 0, .int 0])), (q8, .inr (1, [.ref q9, .ref q10, .int 1])), (q9, .inl (ca 0, 8, .inl (fun _ => 0))), (q10, .inl (ca 0, 8, .inl (fun _ => 0))), (q11, .inl (ca 0, 2, .inl (hndL))), (q12, .inr (0, [.ref q13, .ref q16, .int 0, .int 0, .int 0])), (q13, .inr (1, [.ref q14, .ref q15, .int 1])), (q14, .inl (ca 0, 8, .inl (fun _ => 0))), (q15, .inl (ca 0, 8, .inl (fun _ => 0))), (q16, .inl (ca 0, 2, .inl (hndL))), (q17, .inr (0, [.ref q18, .ref q21, .int 0, .int 0, .int 0])), (q18, .inr (1, [.ref q19, .ref q20, .int 1])), (q19, .inl (ca 0, 8, .inl (fun _ => 0))), (q20, .inl (ca 0, 8, .inl (fun _ => 0))), (q21, .inl (ca 0, 2, .inl (hndL))), (q22, .inl (ca 2, 12, .inr (.inr (.inr (.inr (va_up (va_up (va_up (va_up (va_up (va_up (va_up (fun _ => none) 0 (some q23)) 1 (some q24)) 2 (some q25)) 3 (some q26)) 4 (some q27)) 5 (some q28)) 6 (some q29))))))), (q23, .inr (3, [.int 0, .int 0, .int (-1), .int (-1), .int 0, .int 0, .int 0, .int 0])), (q24, .inr (3, [.int 0, .int 0, .int (-1), .int (-1), .int 0, .int 0, .int 0, .int 0])), (q25, .inr (3, [.int 0, .int 0, .int (-1), .int (-1), .int 0, .int 0, .int 0, .int 0])), (q26, .inr (3, [.int 0, .int 0, .int (-1), .int (-1), .int 0, .int 0, .int 0, .int 0])), (q27, .inr (3, [.int 0, .int 0, .int (-1), .int (-1), .int 0, .int 0, .int 0, .int 0])), (q28, .inr (3, [.int 0, .int 0, .int (-1), .int (-1), .int 0, .int 0, .int 0, .int 0])), (q29, .inr (3, [.int 0, .int 0, .int (-1), .int (-1), .int 0, .int 0, .int 0, .int 0]))]) rfl ?_
  refine u_iinc F (k := 0) 7 dX2_init_68 rfl (by decide) (by decide) (lv' := [(1, .int _), (0, .ref _)]) rfl ?_
  refine u_goto F (tgt := 49) dX2_init_71 (by decide) ?_
  refine u_iload_n F dX2_init_49 rfl 0 rfl ?_
  refine u_bipush F (v := 12) dX2_init_50 (by decide) ?_
  refine u_icmp_ge F (tgt := 74) dX2_init_52 (by decide) (fun h => absurd h (by decide)) (fun _ => ?_)
  refine u_aload_n F dX2_init_55 rfl 1 rfl ?_
  refine u_get F 0 rfl rfl uw_X2 1 (by decide) rfl rfl wf_X2_20 dX2_init_56 ?_
  refine u_iload_n F dX2_init_59 rfl 0 rfl ?_
  refine u_new F (ci := 3) tyX3 tyX3_ok uw_X3 wcl_X2_18 win_X3 wini_X3 rfl (fs := [.int 0, .int 0, .int 0, .int 0, .int 0, .int 0, .int 0, .int 0]) (fun j hj => by rcases (show j = 0 ∨ j = 1 ∨ j = 2 ∨ j = 3 ∨ j = 4 ∨ j = 5 ∨ j = 6 ∨ j = 7 by omega) with rfl | rfl | rfl | rfl | rfl | rfl | rfl | rfl <;> rfl) (Nat.le_of_ble_eq_true rfl) (Nat.le_of_ble_eq_true rfl) dX2_init_60 (fun q30 => ?_)
  refine u_dup F dX2_init_63 rfl ?_
  refine u_initN F (n := 0) (As := []) (rest := [.ref _, .int _, .ref _]) rfl (n_X3 (D := D) (ca := ca) (base := base) (l := l)) wc_X3_init wml_X2_24 wi_X3_init wini_X3 rfl (by decide +kernel) rfl ⟨rfl, rfl, Nat.le_of_ble_eq_true rfl, Nat.le_of_ble_eq_true rfl, Nat.le_of_ble_eq_true rfl, Nat.le_of_ble_eq_true rfl, Nat.le_of_ble_eq_true rfl⟩ dX2_init_64 (fun bw hbw => ?_)
  subst hbw
  refine u_widen (k := 30) (n := 184) (Nat.le_of_ble_eq_true rfl) (Nat.le_of_ble_eq_true rfl) ?_
  refine u_aast F 22 2 30 7 rfl rfl rfl rfl ⟨by decide, by decide, by decide⟩ dX2_init_67 (w' := [(h, .inr (2, [.ref q1, .ref q22, .int 0, .int 0, .int 0])), (q1, .inl (ca 1, 4, .inr (.inr (.inr (.inr (va_up (va_up (va_up (va_up (fun _ => none) 0 (some q2)) 1 (some q7)) 2 (some q12)) 3 (some q17))))))), (q2, .inr (0, [.ref q3, .ref q6, .int 0, .int 0, .int 0])), (q3, .inr (1, [.ref q4, .ref q5, .int 1])), (q4, .inl (ca 0, 8, .inl (fun _ => 0))), (q5, .inl (ca 0, 8, .inl (fun _ => 0))), (q6, .inl (ca 0, 2, .inl (hndL))), (q7, .inr (0, [.ref q8, .ref q11, .int 0, .int 0, .int 0])), (q8, .inr (1, [.ref q9, .ref q10, .int 1])), (q9, .inl (ca 0, 8, .inl (fun _ => 0))), (q10, .inl (ca 0, 8, .inl (fun _ => 0))), (q11, .inl (ca 0, 2, .inl (hndL))), (q12, .inr (0, [.ref q13, .ref q16, .int 0, .int 0, .int 0])), (q13, .inr (1, [.ref q14, .ref q15, .int 1])), (q14, .inl (ca 0, 8, .inl (fun _ => 0))), (q15, .inl (ca 0, 8, .inl (fun _ => 0))), (q16, .inl (ca 0, 2, .inl (hndL))), (q17, .inr (0, [.ref q18, .ref q21, .int 0, .int 0, .int 0])), (q18, .inr (1, [.ref q19, .ref q20, .int 1])), (q19, .inl (ca 0, 8, .inl (fun _ => 0))), (q20, .inl (ca 0, 8, .inl (fun _ => 0))), (q21, .inl (ca 0, 2, .inl (hndL))), (q22, .inl (ca 2, 12, .inr (.inr (.inr (.inr (va_up (va_up (va_up (va_up (va_up (va_up (va_up (va_up (fun _ => none) 0 (some q23)) 1 (some q24)) 2 (some q25)) 3 (some q26)) 4 (some q27)) 5 (some q28)) 6 (some q29)) 7 (some q30))))))), (q23, .inr (3, [.int 0, .int 0, .int (-1), .int (-1), .int 0, .int 0, .int 0, .int 0])), (q24, .inr (3, [.int 0, .int 0, .int (-1), .int (-1), .int 0, .int 0, .int 0, .int 0])), (q25, .inr (3, [.int 0, .int 0, .int (-1), .int (-1), .int 0, .int 0, .int 0, .int 0])), (q26, .inr (3, [.int 0, .int 0, .int (-1), .int (-1), .int 0, .int 0, .int 0, .int 0])), (q27, .inr (3, [.int 0, .int 0, .int (-1), .int (-1), .int 0, .int 0, .int 0, .int 0])), (q28, .inr (3, [.int 0, .int 0, .int (-1), .int (-1), .int 0, .int 0, .int 0, .int 0])), (q29, .inr (3, [.int 0, .int 0, .int (-1), .int (-1), .int 0, .int 0, .int 0, .int 0])), (q30, .inr (3, [.int 0, .int 0, .int (-1), .int (-1), .int 0, .int 0, .int 0, .int 0]))]) rfl ?_
  refine u_iinc F (k := 0) 8 dX2_init_68 rfl (by decide) (by decide) (lv' := [(1, .int _), (0, .ref _)]) rfl ?_
  refine u_goto F (tgt := 49) dX2_init_71 (by decide) ?_
  refine u_iload_n F dX2_init_49 rfl 0 rfl ?_
  refine u_bipush F (v := 12) dX2_init_50 (by decide) ?_
  refine u_icmp_ge F (tgt := 74) dX2_init_52 (by decide) (fun h => absurd h (by decide)) (fun _ => ?_)
  refine u_aload_n F dX2_init_55 rfl 1 rfl ?_
  refine u_get F 0 rfl rfl uw_X2 1 (by decide) rfl rfl wf_X2_20 dX2_init_56 ?_
  refine u_iload_n F dX2_init_59 rfl 0 rfl ?_
  refine u_new F (ci := 3) tyX3 tyX3_ok uw_X3 wcl_X2_18 win_X3 wini_X3 rfl (fs := [.int 0, .int 0, .int 0, .int 0, .int 0, .int 0, .int 0, .int 0]) (fun j hj => by rcases (show j = 0 ∨ j = 1 ∨ j = 2 ∨ j = 3 ∨ j = 4 ∨ j = 5 ∨ j = 6 ∨ j = 7 by omega) with rfl | rfl | rfl | rfl | rfl | rfl | rfl | rfl <;> rfl) (Nat.le_of_ble_eq_true rfl) (Nat.le_of_ble_eq_true rfl) dX2_init_60 (fun q31 => ?_)
  refine u_dup F dX2_init_63 rfl ?_
  refine u_initN F (n := 0) (As := []) (rest := [.ref _, .int _, .ref _]) rfl (n_X3 (D := D) (ca := ca) (base := base) (l := l)) wc_X3_init wml_X2_24 wi_X3_init wini_X3 rfl (by decide +kernel) rfl ⟨rfl, rfl, Nat.le_of_ble_eq_true rfl, Nat.le_of_ble_eq_true rfl, Nat.le_of_ble_eq_true rfl, Nat.le_of_ble_eq_true rfl, Nat.le_of_ble_eq_true rfl⟩ dX2_init_64 (fun bw hbw => ?_)
  subst hbw
  refine u_widen (k := 31) (n := 192) (Nat.le_of_ble_eq_true rfl) (Nat.le_of_ble_eq_true rfl) ?_
  refine u_aast F 22 2 31 8 rfl rfl rfl rfl ⟨by decide, by decide, by decide⟩ dX2_init_67 (w' := [(h, .inr (2, [.ref q1, .ref q22, .int 0, .int 0, .int 0])), (q1, .inl (ca 1, 4, .inr (.inr (.inr (.inr (va_up (va_up (va_up (va_up (fun _ => none) 0 (some q2)) 1 (some q7)) 2 (some q12)) 3 (some q17))))))), (q2, .inr (0, [.ref q3, .ref q6, .int 0, .int 0, .int 0])), (q3, .inr (1, [.ref q4, .ref q5, .int 1])), (q4, .inl (ca 0, 8, .inl (fun _ => 0))), (q5, .inl (ca 0, 8, .inl (fun _ => 0))), (q6, .inl (ca 0, 2, .inl (hndL))), (q7, .inr (0, [.ref q8, .ref q11, .int 0, .int 0, .int 0])), (q8, .inr (1, [.ref q9, .ref q10, .int 1])), (q9, .inl (ca 0, 8, .inl (fun _ => 0))), (q10, .inl (ca 0, 8, .inl (fun _ => 0))), (q11, .inl (ca 0, 2, .inl (hndL))), (q12, .inr (0, [.ref q13, .ref q16, .int 0, .int 0, .int 0])), (q13, .inr (1, [.ref q14, .ref q15, .int 1])), (q14, .inl (ca 0, 8, .inl (fun _ => 0))), (q15, .inl (ca 0, 8, .inl (fun _ => 0))), (q16, .inl (ca 0, 2, .inl (hndL))), (q17, .inr (0, [.ref q18, .ref q21, .int 0, .int 0, .int 0])), (q18, .inr (1, [.ref q19, .ref q20, .int 1])), (q19, .inl (ca 0, 8, .inl (fun _ => 0))), (q20, .inl (ca 0, 8, .inl (fun _ => 0))), (q21, .inl (ca 0, 2, .inl (hndL))), (q22, .inl (ca 2, 12, .inr (.inr (.inr (.inr (va_up (va_up (va_up (va_up (va_up (va_up (va_up (va_up (va_up (fun _ => none) 0 (some q23)) 1 (some q24)) 2 (some q25)) 3 (some q26)) 4 (some q27)) 5 (some q28)) 6 (some q29)) 7 (some q30)) 8 (some q31))))))), (q23, .inr (3, [.int 0, .int 0, .int (-1), .int (-1), .int 0, .int 0, .int 0, .int 0])), (q24, .inr (3, [.int 0, .int 0, .int (-1), .int (-1), .int 0, .int 0, .int 0, .int 0])), (q25, .inr (3, [.int 0, .int 0, .int (-1), .int (-1), .int 0, .int 0, .int 0, .int 0])), (q26, .inr (3, [.int 0, .int 0, .int (-1), .int (-1), .int 0, .int 0, .int 0, .int 0])), (q27, .inr (3, [.int 0, .int 0, .int (-1), .int (-1), .int 0, .int 0, .int 0, .int 0])), (q28, .inr (3, [.int 0, .int 0, .int (-1), .int (-1), .int 0, .int 0, .int 0, .int 0])), (q29, .inr (3, [.int 0, .int 0, .int (-1), .int (-1), .int 0, .int 0, .int 0, .int 0])), (q30, .inr (3, [.int 0, .int 0, .int (-1), .int (-1), .int 0, .int 0, .int 0, .int 0])), (q31, .inr (3, [.int 0, .int 0, .int (-1), .int (-1), .int 0, .int 0, .int 0, .int 0]))]) rfl ?_
  refine u_iinc F (k := 0) 9 dX2_init_68 rfl (by decide) (by decide) (lv' := [(1, .int _), (0, .ref _)]) rfl ?_
  refine u_goto F (tgt := 49) dX2_init_71 (by decide) ?_
  refine u_iload_n F dX2_init_49 rfl 0 rfl ?_
  refine u_bipush F (v := 12) dX2_init_50 (by decide) ?_
  refine u_icmp_ge F (tgt := 74) dX2_init_52 (by decide) (fun h => absurd h (by decide)) (fun _ => ?_)
  refine u_aload_n F dX2_init_55 rfl 1 rfl ?_
  refine u_get F 0 rfl rfl uw_X2 1 (by decide) rfl rfl wf_X2_20 dX2_init_56 ?_
  refine u_iload_n F dX2_init_59 rfl 0 rfl ?_
  refine u_new F (ci := 3) tyX3 tyX3_ok uw_X3 wcl_X2_18 win_X3 wini_X3 rfl (fs := [.int 0, .int 0, .int 0, .int 0, .int 0, .int 0, .int 0, .int 0]) (fun j hj => by rcases (show j = 0 ∨ j = 1 ∨ j = 2 ∨ j = 3 ∨ j = 4 ∨ j = 5 ∨ j = 6 ∨ j = 7 by omega) with rfl | rfl | rfl | rfl | rfl | rfl | rfl | rfl <;> rfl) (Nat.le_of_ble_eq_true rfl) (Nat.le_of_ble_eq_true rfl) dX2_init_60 (fun q32 => ?_)
  refine u_dup F dX2_init_63 rfl ?_
  refine u_initN F (n := 0) (As := []) (rest := [.ref _, .int _, .ref _]) rfl (n_X3 (D := D) (ca := ca) (base := base) (l := l)) wc_X3_init wml_X2_24 wi_X3_init wini_X3 rfl (by decide +kernel) rfl ⟨rfl, rfl, Nat.le_of_ble_eq_true rfl, Nat.le_of_ble_eq_true rfl, Nat.le_of_ble_eq_true rfl, Nat.le_of_ble_eq_true rfl, Nat.le_of_ble_eq_true rfl⟩ dX2_init_64 (fun bw hbw => ?_)
  subst hbw
  refine u_widen (k := 32) (n := 200) (Nat.le_of_ble_eq_true rfl) (Nat.le_of_ble_eq_true rfl) ?_
  refine u_aast F 22 2 32 9 rfl rfl rfl rfl ⟨by decide, by decide, by decide⟩ dX2_init_67 (w' := [(h, .inr (2, [.ref q1, .ref q22, .int 0, .int 0, .int 0])), (q1, .inl (ca 1, 4, .inr (.inr (.inr (.inr (va_up (va_up (va_up (va_up (fun _ => none) 0 (some q2)) 1 (some q7)) 2 (some q12)) 3 (some q17))))))), (q2, .inr (0, [.ref q3, .ref q6, .int 0, .int 0, .int 0])), (q3, .inr (1, [.ref q4, .ref q5, .int 1])), (q4, .inl (ca 0, 8, .inl (fun _ => 0))), (q5, .inl (ca 0, 8, .inl (fun _ => 0))), (q6, .inl (ca 0, 2, .inl (hndL))), (q7, .inr (0, [.ref q8, .ref q11, .int 0, .int 0, .int 0])), (q8, .inr (1, [.ref q9, .ref q10, .int 1])), (q9, .inl (ca 0, 8, .inl (fun _ => 0))), (q10, .inl (ca 0, 8, .inl (fun _ => 0))), (q11, .inl (ca 0, 2, .inl (hndL))), (q12, .inr (0, [.ref q13, .ref q16, .int 0, .int 0, .int 0])), (q13, .inr (1, [.ref q14, .ref q15, .int 1])), (q14, .inl (ca 0, 8, .inl (fun _ => 0))), (q15, .inl (ca 0, 8, .inl (fun _ => 0))), (q16, .inl (ca 0, 2, .inl (hndL))), (q17, .inr (0, [.ref q18, .ref q21, .int 0, .int 0, .int 0])), (q18, .inr (1, [.ref q19, .ref q20, .int 1])), (q19, .inl (ca 0, 8, .inl (fun _ => 0))), (q20, .inl (ca 0, 8, .inl (fun _ => 0))), (q21, .inl (ca 0, 2, .inl (hndL))), (q22, .inl (ca 2, 12, .inr (.inr (.inr (.inr (va_up (va_up (va_up (va_up (va_up (va_up (va_up (va_up (va_up (va_up (fun _ => none) 0 (some q23)) 1 (some q24)) 2 (some q25)) 3 (some q26)) 4 (some q27)) 5 (some q28)) 6 (some q29)) 7 (some q30)) 8 (some q31)) 9 (some q32))))))), (q23, .inr (3, [.int 0, .int 0, .int (-1), .int (-1), .int 0, .int 0, .int 0, .int 0])), (q24, .inr (3, [.int 0, .int 0, .int (-1), .int (-1), .int 0, .int 0, .int 0, .int 0])), (q25, .inr (3, [.int 0, .int 0, .int (-1), .int (-1), .int 0, .int 0, .int 0, .int 0])), (q26, .inr (3, [.int 0, .int 0, .int (-1), .int (-1), .int 0, .int 0, .int 0, .int 0])), (q27, .inr (3, [.int 0, .int 0, .int (-1), .int (-1), .int 0, .int 0, .int 0, .int 0])), (q28, .inr (3, [.int 0, .int 0, .int (-1), .int (-1), .int 0, .int 0, .int 0, .int 0])), (q29, .inr (3, [.int 0, .int 0, .int (-1), .int (-1), .int 0, .int 0, .int 0, .int 0])), (q30, .inr (3, [.int 0, .int 0, .int (-1), .int (-1), .int 0, .int 0, .int 0, .int 0])), (q31, .inr (3, [.int 0, .int 0, .int (-1), .int (-1), .int 0, .int 0, .int 0, .int 0])), (q32, .inr (3, [.int 0, .int 0, .int (-1), .int (-1), .int 0, .int 0, .int 0, .int 0]))]) rfl ?_
  refine u_iinc F (k := 0) 10 dX2_init_68 rfl (by decide) (by decide) (lv' := [(1, .int _), (0, .ref _)]) rfl ?_
  refine u_goto F (tgt := 49) dX2_init_71 (by decide) ?_
  refine u_iload_n F dX2_init_49 rfl 0 rfl ?_
  refine u_bipush F (v := 12) dX2_init_50 (by decide) ?_
  refine u_icmp_ge F (tgt := 74) dX2_init_52 (by decide) (fun h => absurd h (by decide)) (fun _ => ?_)
  refine u_aload_n F dX2_init_55 rfl 1 rfl ?_
  refine u_get F 0 rfl rfl uw_X2 1 (by decide) rfl rfl wf_X2_20 dX2_init_56 ?_
  refine u_iload_n F dX2_init_59 rfl 0 rfl ?_
  refine u_new F (ci := 3) tyX3 tyX3_ok uw_X3 wcl_X2_18 win_X3 wini_X3 rfl (fs := [.int 0, .int 0, .int 0, .int 0, .int 0, .int 0, .int 0, .int 0]) (fun j hj => by rcases (show j = 0 ∨ j = 1 ∨ j = 2 ∨ j = 3 ∨ j = 4 ∨ j = 5 ∨ j = 6 ∨ j = 7 by omega) with rfl | rfl | rfl | rfl | rfl | rfl | rfl | rfl <;> rfl) (Nat.le_of_ble_eq_true rfl) (Nat.le_of_ble_eq_true rfl) dX2_init_60 (fun q33 => ?_)
  refine u_dup F dX2_init_63 rfl ?_
  refine u_initN F (n := 0) (As := []) (rest := [.ref _, .int _, .ref _]) rfl (n_X3 (D := D) (ca := ca) (base := base) (l := l)) wc_X3_init wml_X2_24 wi_X3_init wini_X3 rfl (by decide +kernel) rfl ⟨rfl, rfl, Nat.le_of_ble_eq_true rfl, Nat.le_of_ble_eq_true rfl, Nat.le_of_ble_eq_true rfl, Nat.le_of_ble_eq_true rfl, Nat.le_of_ble_eq_true rfl⟩ dX2_init_64 (fun bw hbw => ?_)
  subst hbw
  refine u_widen (k := 33) (n := 208) (Nat.le_of_ble_eq_true rfl) (Nat.le_of_ble_eq_true rfl) ?_
  refine u_aast F 22 2 33 10 rfl rfl rfl rfl ⟨by decide, by decide, by decide⟩ dX2_init_67 (w' := [(h, .inr (2, [.ref q1, .ref q22, .int 0, .int 0, .int 0])), (q1, .inl (ca 1, 4, .inr (.inr (.inr (.inr (va_up (va_up (va_up (va_up (fun _ => none) 0 (some q2)) 1 (some q7)) 2 (some q12)) 3 (some q17))))))), (q2, .inr (0, [.ref q3, .ref q6, .int 0, .int 0, .int 0])), (q3, .inr (1, [.ref q4, .ref q5, .int 1])), (q4, .inl (ca 0, 8, .inl (fun _ => 0))), (q5, .inl (ca 0, 8, .inl (fun _ => 0))), (q6, .inl (ca 0, 2, .inl (hndL))), (q7, .inr (0, [.ref q8, .ref q11, .int 0, .int 0, .int 0])), (q8, .inr (1, [.ref q9, .ref q10, .int 1])), (q9, .inl (ca 0, 8, .inl (fun _ => 0))), (q10, .inl (ca 0, 8, .inl (fun _ => 0))), (q11, .inl (ca 0, 2, .inl (hndL))), (q12, .inr (0, [.ref q13, .ref q16, .int 0, .int 0, .int 0])), (q13, .inr (1, [.ref q14, .ref q15, .int 1])), (q14, .inl (ca 0, 8, .inl (fun _ => 0))), (q15, .inl (ca 0, 8, .inl (fun _ => 0))), (q16, .inl (ca 0, 2, .inl (hndL))), (q17, .inr (0, [.ref q18, .ref q21, .int 0, .int 0, .int 0])), (q18, .inr (1, [.ref q19, .ref q20, .int 1])), (q19, .inl (ca 0, 8, .inl (fun _ => 0))), (q20, .inl (ca 0, 8, .inl (fun _ => 0))), (q21, .inl (ca 0, 2, .inl (hndL))), (q22, .inl (ca 2, 12, .inr (.inr (.inr (.inr (va_up (va_up (va_up (va_up (va_up (va_up (va_up (va_up (va_up (va_up (va_up (fun _ => none) 0 (some q23)) 1 (some q24)) 2 (some q25)) 3 (some q26)) 4 (some q27)) 5 (some q28)) 6 (some q29)) 7 (some q30)) 8 (some q31)) 9 (some q32)) 10 (some q33))))))), (q23, .inr (3, [.int 0, .int 0, .int (-1), .int (-1), .int 0, .int 0, .int 0, .int 0])), (q24, .inr (3, [.int 0, .int 0, .int (-1), .int (-1), .int 0, .int 0, .int 0, .int 0])), (q25, .inr (3, [.int 0, .int 0, .int (-1), .int (-1), .int 0, .int 0, .int 0, .int 0])), (q26, .inr (3, [.int 0, .int 0, .int (-1), .int (-1), .int 0, .int 0, .int 0, .int 0])), (q27, .inr (3, [.int 0, .int 0, .int (-1), .int (-1), .int 0, .int 0, .int 0, .int 0])), (q28, .inr (3, [.int 0, .int 0, .int (-1), .int (-1), .int 0, .int 0, .int 0, .int 0])), (q29, .inr (3, [.int 0, .int 0, .int (-1), .int (-1), .int 0, .int 0, .int 0, .int 0])), (q30, .inr (3, [.int 0, .int 0, .int (-1), .int (-1), .int 0, .int 0, .int 0, .int 0])), (q31, .inr (3, [.int 0, .int 0, .int (-1), .int (-1), .int 0, .int 0, .int 0, .int 0])), (q32, .inr (3, [.int 0, .int 0, .int (-1), .int (-1), .int 0, .int 0, .int 0, .int 0])), (q33, .inr (3, [.int 0, .int 0, .int (-1), .int (-1), .int 0, .int 0, .int 0, .int 0]))]) rfl ?_
  refine u_iinc F (k := 0) 11 dX2_init_68 rfl (by decide) (by decide) (lv' := [(1, .int _), (0, .ref _)]) rfl ?_
  refine u_goto F (tgt := 49) dX2_init_71 (by decide) ?_
  refine u_iload_n F dX2_init_49 rfl 0 rfl ?_
  refine u_bipush F (v := 12) dX2_init_50 (by decide) ?_
  refine u_icmp_ge F (tgt := 74) dX2_init_52 (by decide) (fun h => absurd h (by decide)) (fun _ => ?_)
  refine u_aload_n F dX2_init_55 rfl 1 rfl ?_
  refine u_get F 0 rfl rfl uw_X2 1 (by decide) rfl rfl wf_X2_20 dX2_init_56 ?_
  refine u_iload_n F dX2_init_59 rfl 0 rfl ?_
  refine u_new F (ci := 3) tyX3 tyX3_ok uw_X3 wcl_X2_18 win_X3 wini_X3 rfl (fs := [.int 0, .int 0, .int 0, .int 0, .int 0, .int 0, .int 0, .int 0]) (fun j hj => by rcases (show j = 0 ∨ j = 1 ∨ j = 2 ∨ j = 3 ∨ j = 4 ∨ j = 5 ∨ j = 6 ∨ j = 7 by omega) with rfl | rfl | rfl | rfl | rfl | rfl | rfl | rfl <;> rfl) (Nat.le_of_ble_eq_true rfl) (Nat.le_of_ble_eq_true rfl) dX2_init_60 (fun q34 => ?_)
  refine u_dup F dX2_init_63 rfl ?_
  refine u_initN F (n := 0) (As := []) (rest := [.ref _, .int _, .ref _]) rfl (n_X3 (D := D) (ca := ca) (base := base) (l := l)) wc_X3_init wml_X2_24 wi_X3_init wini_X3 rfl (by decide +kernel) rfl ⟨rfl, rfl, Nat.le_of_ble_eq_true rfl, Nat.le_of_ble_eq_true rfl, Nat.le_of_ble_eq_true rfl, Nat.le_of_ble_eq_true rfl, Nat.le_of_ble_eq_true rfl⟩ dX2_init_64 (fun bw hbw => ?_)
  subst hbw
  refine u_widen (k := 34) (n := 216) (Nat.le_of_ble_eq_true rfl) (Nat.le_of_ble_eq_true rfl) ?_
  refine u_aast F 22 2 34 11 rfl rfl rfl rfl ⟨by decide, by decide, by decide⟩ dX2_init_67 (w' := [(h, .inr (2, [.ref q1, .ref q22, .int 0, .int 0, .int 0])), (q1, .inl (ca 1, 4, .inr (.inr (.inr (.inr (va_up (va_up (va_up (va_up (fun _ => none) 0 (some q2)) 1 (some q7)) 2 (some q12)) 3 (some q17))))))), (q2, .inr (0, [.ref q3, .ref q6, .int 0, .int 0, .int 0])), (q3, .inr (1, [.ref q4, .ref q5, .int 1])), (q4, .inl (ca 0, 8, .inl (fun _ => 0))), (q5, .inl (ca 0, 8, .inl (fun _ => 0))), (q6, .inl (ca 0, 2, .inl (hndL))), (q7, .inr (0, [.ref q8, .ref q11, .int 0, .int 0, .int 0])), (q8, .inr (1, [.ref q9, .ref q10, .int 1])), (q9, .inl (ca 0, 8, .inl (fun _ => 0))), (q10, .inl (ca 0, 8, .inl (fun _ => 0))), (q11, .inl (ca 0, 2, .inl (hndL))), (q12, .inr (0, [.ref q13, .ref q16, .int 0, .int 0, .int 0])), (q13, .inr (1, [.ref q14, .ref q15, .int 1])), (q14, .inl (ca 0, 8, .inl (fun _ => 0))), (q15, .inl (ca 0, 8, .inl (fun _ => 0))), (q16, .inl (ca 0, 2, .inl (hndL))), (q17, .inr (0, [.ref q18, .ref q21, .int 0, .int 0, .int 0])), (q18, .inr (1, [.ref q19, .ref q20, .int 1])), (q19, .inl (ca 0, 8, .inl (fun _ => 0))), (q20, .inl (ca 0, 8, .inl (fun _ => 0))), (q21, .inl (ca 0, 2, .inl (hndL))), (q22, .inl (ca 2, 12, .inr (.inr (.inr (.inr (va_up (va_up (va_up (va_up (va_up (va_up (va_up (va_up (va_up (va_up (va_up (va_up (fun _ => none) 0 (some q23)) 1 (some q24)) 2 (some q25)) 3 (some q26)) 4 (some q27)) 5 (some q28)) 6 (some q29)) 7 (some q30)) 8 (some q31)) 9 (some q32)) 10 (some q33)) 11 (some q34))))))), (q23, .inr (3, [.int 0, .int 0, .int (-1), .int (-1), .int 0, .int 0, .int 0, .int 0])), (q24, .inr (3, [.int 0, .int 0, .int (-1), .int (-1), .int 0, .int 0, .int 0, .int 0])), (q25, .inr (3, [.int 0, .int 0, .int (-1), .int (-1), .int 0, .int 0, .int 0, .int 0])), (q26, .inr (3, [.int 0, .int 0, .int (-1), .int (-1), .int 0, .int 0, .int 0, .int 0])), (q27, .inr (3, [.int 0, .int 0, .int (-1), .int (-1), .int 0, .int 0, .int 0, .int 0])), (q28, .inr (3, [.int 0, .int 0, .int (-1), .int (-1), .int 0, .int 0, .int 0, .int 0])), (q29, .inr (3, [.int 0, .int 0, .int (-1), .int (-1), .int 0, .int 0, .int 0, .int 0])), (q30, .inr (3, [.int 0, .int 0, .int (-1), .int (-1), .int 0, .int 0, .int 0, .int 0])), (q31, .inr (3, [.int 0, .int 0, .int (-1), .int (-1), .int 0, .int 0, .int 0, .int 0])), (q32, .inr (3, [.int 0, .int 0, .int (-1), .int (-1), .int 0, .int 0, .int 0, .int 0])), (q33, .inr (3, [.int 0, .int 0, .int (-1), .int (-1), .int 0, .int 0, .int 0, .int 0])), (q34, .inr (3, [.int 0, .int 0, .int (-1), .int (-1), .int 0, .int 0, .int 0, .int 0]))]) rfl ?_
  refine u_iinc F (k := 0) 12 dX2_init_68 rfl (by decide) (by decide) (lv' := [(1, .int _), (0, .ref _)]) rfl ?_
  refine u_goto F (tgt := 49) dX2_init_71 (by decide) ?_
  refine u_iload_n F dX2_init_49 rfl 0 rfl ?_
  refine u_bipush F (v := 12) dX2_init_50 (by decide) ?_
  refine u_icmp_ge F (tgt := 74) dX2_init_52 (by decide) (fun _ => ?_) (fun h => absurd (by decide) h)
  obtain ⟨a, ha⟩ : ∃ a : Nat → Nat → Nat, a = (fun k i => match k, i with | 0, _ => h | 1, _ => q1 | 7, _ => q22 | 2, 0 => q2 | 2, 1 => q7 | 2, 2 => q12 | 2, 3 => q17 | 3, 0 => q3 | 3, 1 => q8 | 3, 2 => q13 | 3, 3 => q18 | 4, 0 => q4 | 4, 1 => q9 | 4, 2 => q14 | 4, 3 => q19 | 5, 0 => q5 | 5, 1 => q10 | 5, 2 => q15 | 5, 3 => q20 | 6, 0 => q6 | 6, 1 => q11 | 6, 2 => q16 | 6, 3 => q21 | 8, 0 => q23 | 8, 1 => q24 | 8, 2 => q25 | 8, 3 => q26 | 8, 4 => q27 | 8, 5 => q28 | 8, 6 => q29 | 8, 7 => q30 | 8, 8 => q31 | 8, 9 => q32 | 8, 10 => q33 | 8, 11 => q34 | _, _ => 0) := ⟨_, rfl⟩
  refine u_ext 1 (g := fun j => some (a 2 j)) rfl (fun j hj => by rcases (show j = 0 ∨ j = 1 ∨ j = 2 ∨ j = 3 by omega) with rfl | rfl | rfl | rfl <;> (rw [ha]; rfl)) (w' := [(h, .inr (2, [.ref q1, .ref q22, .int 0, .int 0, .int 0])), (q1, .inl (ca 1, 4, .inr (.inr (.inr (.inr (fun j => some (a 2 j))))))), (q2, .inr (0, [.ref q3, .ref q6, .int 0, .int 0, .int 0])), (q3, .inr (1, [.ref q4, .ref q5, .int 1])), (q4, .inl (ca 0, 8, .inl (fun _ => 0))), (q5, .inl (ca 0, 8, .inl (fun _ => 0))), (q6, .inl (ca 0, 2, .inl (hndL))), (q7, .inr (0, [.ref q8, .ref q11, .int 0, .int 0, .int 0])), (q8, .inr (1, [.ref q9, .ref q10, .int 1])), (q9, .inl (ca 0, 8, .inl (fun _ => 0))), (q10, .inl (ca 0, 8, .inl (fun _ => 0))), (q11, .inl (ca 0, 2, .inl (hndL))), (q12, .inr (0, [.ref q13, .ref q16, .int 0, .int 0, .int 0])), (q13, .inr (1, [.ref q14, .ref q15, .int 1])), (q14, .inl (ca 0, 8, .inl (fun _ => 0))), (q15, .inl (ca 0, 8, .inl (fun _ => 0))), (q16, .inl (ca 0, 2, .inl (hndL))), (q17, .inr (0, [.ref q18, .ref q21, .int 0, .int 0, .int 0])), (q18, .inr (1, [.ref q19, .ref q20, .int 1])), (q19, .inl (ca 0, 8, .inl (fun _ => 0))), (q20, .inl (ca 0, 8, .inl (fun _ => 0))), (q21, .inl (ca 0, 2, .inl (hndL))), (q22, .inl (ca 2, 12, .inr (.inr (.inr (.inr (va_up (va_up (va_up (va_up (va_up (va_up (va_up (va_up (va_up (va_up (va_up (va_up (fun _ => none) 0 (some q23)) 1 (some q24)) 2 (some q25)) 3 (some q26)) 4 (some q27)) 5 (some q28)) 6 (some q29)) 7 (some q30)) 8 (some q31)) 9 (some q32)) 10 (some q33)) 11 (some q34))))))), (q23, .inr (3, [.int 0, .int 0, .int (-1), .int (-1), .int 0, .int 0, .int 0, .int 0])), (q24, .inr (3, [.int 0, .int 0, .int (-1), .int (-1), .int 0, .int 0, .int 0, .int 0])), (q25, .inr (3, [.int 0, .int 0, .int (-1), .int (-1), .int 0, .int 0, .int 0, .int 0])), (q26, .inr (3, [.int 0, .int 0, .int (-1), .int (-1), .int 0, .int 0, .int 0, .int 0])), (q27, .inr (3, [.int 0, .int 0, .int (-1), .int (-1), .int 0, .int 0, .int 0, .int 0])), (q28, .inr (3, [.int 0, .int 0, .int (-1), .int (-1), .int 0, .int 0, .int 0, .int 0])), (q29, .inr (3, [.int 0, .int 0, .int (-1), .int (-1), .int 0, .int 0, .int 0, .int 0])), (q30, .inr (3, [.int 0, .int 0, .int (-1), .int (-1), .int 0, .int 0, .int 0, .int 0])), (q31, .inr (3, [.int 0, .int 0, .int (-1), .int (-1), .int 0, .int 0, .int 0, .int 0])), (q32, .inr (3, [.int 0, .int 0, .int (-1), .int (-1), .int 0, .int 0, .int 0, .int 0])), (q33, .inr (3, [.int 0, .int 0, .int (-1), .int (-1), .int 0, .int 0, .int 0, .int 0])), (q34, .inr (3, [.int 0, .int 0, .int (-1), .int (-1), .int 0, .int 0, .int 0, .int 0]))]) rfl ?_
  refine u_ext 22 (g := fun j => some (a 8 j)) rfl (fun j hj => by rcases (show j = 0 ∨ j = 1 ∨ j = 2 ∨ j = 3 ∨ j = 4 ∨ j = 5 ∨ j = 6 ∨ j = 7 ∨ j = 8 ∨ j = 9 ∨ j = 10 ∨ j = 11 by omega) with rfl | rfl | rfl | rfl | rfl | rfl | rfl | rfl | rfl | rfl | rfl | rfl <;> (rw [ha]; rfl)) (w' := [(h, .inr (2, [.ref q1, .ref q22, .int 0, .int 0, .int 0])), (q1, .inl (ca 1, 4, .inr (.inr (.inr (.inr (fun j => some (a 2 j))))))), (q2, .inr (0, [.ref q3, .ref q6, .int 0, .int 0, .int 0])), (q3, .inr (1, [.ref q4, .ref q5, .int 1])), (q4, .inl (ca 0, 8, .inl (fun _ => 0))), (q5, .inl (ca 0, 8, .inl (fun _ => 0))), (q6, .inl (ca 0, 2, .inl (hndL))), (q7, .inr (0, [.ref q8, .ref q11, .int 0, .int 0, .int 0])), (q8, .inr (1, [.ref q9, .ref q10, .int 1])), (q9, .inl (ca 0, 8, .inl (fun _ => 0))), (q10, .inl (ca 0, 8, .inl (fun _ => 0))), (q11, .inl (ca 0, 2, .inl (hndL))), (q12, .inr (0, [.ref q13, .ref q16, .int 0, .int 0, .int 0])), (q13, .inr (1, [.ref q14, .ref q15, .int 1])), (q14, .inl (ca 0, 8, .inl (fun _ => 0))), (q15, .inl (ca 0, 8, .inl (fun _ => 0))), (q16, .inl (ca 0, 2, .inl (hndL))), (q17, .inr (0, [.ref q18, .ref q21, .int 0, .int 0, .int 0])), (q18, .inr (1, [.ref q19, .ref q20, .int 1])), (q19, .inl (ca 0, 8, .inl (fun _ => 0))), (q20, .inl (ca 0, 8, .inl (fun _ => 0))), (q21, .inl (ca 0, 2, .inl (hndL))), (q22, .inl (ca 2, 12, .inr (.inr (.inr (.inr (fun j => some (a 8 j))))))), (q23, .inr (3, [.int 0, .int 0, .int (-1), .int (-1), .int 0, .int 0, .int 0, .int 0])), (q24, .inr (3, [.int 0, .int 0, .int (-1), .int (-1), .int 0, .int 0, .int 0, .int 0])), (q25, .inr (3, [.int 0, .int 0, .int (-1), .int (-1), .int 0, .int 0, .int 0, .int 0])), (q26, .inr (3, [.int 0, .int 0, .int (-1), .int (-1), .int 0, .int 0, .int 0, .int 0])), (q27, .inr (3, [.int 0, .int 0, .int (-1), .int (-1), .int 0, .int 0, .int 0, .int 0])), (q28, .inr (3, [.int 0, .int 0, .int (-1), .int (-1), .int 0, .int 0, .int 0, .int 0])), (q29, .inr (3, [.int 0, .int 0, .int (-1), .int (-1), .int 0, .int 0, .int 0, .int 0])), (q30, .inr (3, [.int 0, .int 0, .int (-1), .int (-1), .int 0, .int 0, .int 0, .int 0])), (q31, .inr (3, [.int 0, .int 0, .int (-1), .int (-1), .int 0, .int 0, .int 0, .int 0])), (q32, .inr (3, [.int 0, .int 0, .int (-1), .int (-1), .int 0, .int 0, .int 0, .int 0])), (q33, .inr (3, [.int 0, .int 0, .int (-1), .int (-1), .int 0, .int 0, .int 0, .int 0])), (q34, .inr (3, [.int 0, .int 0, .int (-1), .int (-1), .int 0, .int 0, .int 0, .int 0]))]) rfl ?_
  refine u_sub (w' := wR a ca σR) [0, 1, 22, 2, 3, 4, 5, 6, 7, 8, 9, 10, 11, 12, 13, 14, 15, 16, 17, 18, 19, 20, 21, 23, 24, 25, 26, 27, 28, 29, 30, 31, 32, 33, 34] (by decide) (by rw [ha]; rfl) ?_
  exact u_vret F hr dX2_init_74 ⟨a, by rw [ha]; rfl, rfl⟩
abbrev rm_X4_init : Room := { frames := 4, cells := 70, slots := 442, locals := 82 }
set_option maxHeartbeats 4000000 in
set_option maxRecDepth 100000 in
theorem n_X4 {D : va_G} {ca : Nat → ClassId} {base : Nat} {l : Launch} : CN D ca base l yX4_init (wsc yX4_init cX4_init 1 none) rm_X4_init (.inr (4, [.null, .null])) [] (BX4 ca) 70 442 := by
  refine CN_of (fun h => [(0, .ref h)]) (by decide) rfl (fun h => Nat.le_of_ble_eq_true rfl) (fun h => rfl) (fun h p e s m args below meth c F hin hr => ?_)
  have F : FU p s m args meth c cX4_init 1 RX4 D ca base (fA h s.heap.size) := F
  refine u_aload_n F dX4_init_0 rfl 0 rfl ?_
  refine u_objInit F wob_X4 dX4_init_1 (Nat.le_of_ble_eq_true rfl) (Nat.le_of_ble_eq_true rfl) ?_
  refine u_aload_n F dX4_init_4 rfl 0 rfl ?_
  refine u_new F (ci := 2) tyX2 tyX2_ok uw_X2 wcl_X4_7 win_X2 wini_X2 rfl (fs := [.null, .null, .int 0, .int 0, .int 0]) (fun j hj => by rcases (show j = 0 ∨ j = 1 ∨ j = 2 ∨ j = 3 ∨ j = 4 by omega) with rfl | rfl | rfl | rfl | rfl <;> rfl) (Nat.le_of_ble_eq_true rfl) (Nat.le_of_ble_eq_true rfl) dX4_init_5 (fun q1 => ?_)
  refine u_dup F dX4_init_8 rfl ?_
  refine u_initN F (n := 0) (As := []) (rest := [.ref _, .ref _]) rfl (n_X2 (D := D) (ca := ca) (base := base) (l := l)) wc_X2_init wml_X4_9 wi_X2_init wini_X2 rfl (by decide +kernel) rfl ⟨rfl, rfl, Nat.le_of_ble_eq_true rfl, Nat.le_of_ble_eq_true rfl, Nat.le_of_ble_eq_true rfl, Nat.le_of_ble_eq_true rfl, Nat.le_of_ble_eq_true rfl⟩ dX4_init_9 (fun bw hbw => ?_)
  obtain ⟨a, rfl, rfl⟩ := hbw
  refine u_widen (k := 35) (n := 221) (Nat.le_of_ble_eq_true rfl) (Nat.le_of_ble_eq_true rfl) ?_
  refine u_putF F hin tyX4 tyX4_ok nmX4 0 rfl rfl uw_X4 0 (by decide) rfl rfl rfl rfl (Nat.le_of_ble_eq_true rfl) wf_X4_10 dX4_init_12 (w' := ([(h, .inr (4, [.ref (a 0 0), .null]))] ++ wR a ca σR)) rfl ?_
  refine u_aload_n F dX4_init_15 rfl 0 rfl ?_
  refine u_new F (ci := 2) tyX2 tyX2_ok uw_X2 wcl_X4_7 win_X2 wini_X2 rfl (fs := [.null, .null, .int 0, .int 0, .int 0]) (fun j hj => by rcases (show j = 0 ∨ j = 1 ∨ j = 2 ∨ j = 3 ∨ j = 4 by omega) with rfl | rfl | rfl | rfl | rfl <;> rfl) (Nat.le_of_ble_eq_true rfl) (Nat.le_of_ble_eq_true rfl) dX4_init_16 (fun q2 => ?_)
  refine u_dup F dX4_init_19 rfl ?_
  refine u_initN F (n := 0) (As := []) (rest := [.ref _, .ref _]) rfl (n_X2 (D := D) (ca := ca) (base := base) (l := l)) wc_X2_init wml_X4_9 wi_X2_init wini_X2 rfl (by decide +kernel) rfl ⟨rfl, rfl, Nat.le_of_ble_eq_true rfl, Nat.le_of_ble_eq_true rfl, Nat.le_of_ble_eq_true rfl, Nat.le_of_ble_eq_true rfl, Nat.le_of_ble_eq_true rfl⟩ dX4_init_20 (fun bw hbw => ?_)
  obtain ⟨b, rfl, rfl⟩ := hbw
  refine u_widen (k := 70) (n := 442) (Nat.le_of_ble_eq_true rfl) (Nat.le_of_ble_eq_true rfl) ?_
  refine u_putF F hin tyX4 tyX4_ok nmX4 0 rfl rfl uw_X4 1 (by decide) rfl rfl rfl rfl (Nat.le_of_ble_eq_true rfl) wf_X4_16 dX4_init_23 (w' := (([(h, .inr (4, [.ref (a 0 0), .ref (b 0 0)]))] ++ wR a ca σR) ++ wR b ca σR)) rfl ?_
  exact u_vret F hr dX4_init_26 ⟨a, b, rfl⟩