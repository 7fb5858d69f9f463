/-! ===== the law: its entry ===== -/
section LV
variable {p : Program} {l : Launch} {e : Env} {R : Room} {s : State} {m : MethodId} {args : Array Value} {below : List Frame} {meth : Method} {c : Code} {Q : State → Prop} {X : Cx} {nL : Nat} {ex : va_W} {M : Mem} {lf : Lf} {cells slots pc : Nat} {lv : List (Nat × Value)} {st : List Value} {cc : ByteArray} {own : String}
theorem v_sld (F : Fx p l s m args meth c cc nL own X) {b L : Nat} {xs : Nat → Int32} (hX : va_X b L xs s s.heap) (hbl : b < s.heap.size) (hbase : X.2.2.2 = s.heap.size) {x : Int32} (j : Nat) (hx : Ix x j L) (hdg : decode cc pc = .ok (.iaload, 1)) (K : V p l e R s m args below meth c Q X nL ex M lf cells slots (pc + 1) lv (.int (xs j) :: st)) : V p l e R s m args below meth c Q X nL ex M lf cells slots pc lv (.int x :: .ref b :: st) := by
  intro H locs ls hP hE hS hl
  have hbA : ¬ xA X s.heap.size b := fun z => absurd (xA_B F.2.2.1 (Nat.le_of_eq hbase) b z) (by show ¬ X.2.2.2 ≤ b; rw [hbase]; omega)
  have hK := K H locs ls hP hE hS hl
  rw [← hx.2.1] at hK
  exact va_sld F.1.1 F.1.2.1 hX hbl hbA hS (Ix_in hx) hdg hK
theorem v_slen (F : Fx p l s m args meth c cc nL own X) {b L : Nat} {xs : Nat → Int32} (hX : va_X b L xs s s.heap) (hbl : b < s.heap.size) (hbase : X.2.2.2 = s.heap.size) (hdg : decode cc pc = .ok (.arraylength, 1)) (K : V p l e R s m args below meth c Q X nL ex M lf cells slots (pc + 1) lv (.int (nI L) :: st)) : V p l e R s m args below meth c Q X nL ex M lf cells slots pc lv (.ref b :: st) := by
  intro H locs ls hP hE hS hl
  have hbA : ¬ xA X s.heap.size b := fun z => absurd (xA_B F.2.2.1 (Nat.le_of_eq hbase) b z) (by show ¬ X.2.2.2 ≤ b; rw [hbase]; omega)
  exact va_slen F.1.1 F.1.2.1 hX hbl hbA hS hdg (K H locs ls hP hE hS hl)
theorem u_toV {D : va_G} {ca : Nat → ClassId} {base : Nat} (F : FU p s m args meth c cc nL own D ca base (fun q => s.heap.size ≤ q)) {a b : Nat → Nat → Nat} {A3 : Nat → Nat → Nat → Nat} {h o : Nat} (hb : base = s.heap.size)
    (K : Cxok (mkX D ca base a b A3 h o) → V p l e R s m args below meth c Q (mkX D ca base a b A3 h o) nL [] M0 lf0 cells slots pc lv st) : UU p l e R s m args below meth c Q D (fun q => s.heap.size ≤ q) nL (wl (mkX D ca base a b A3 h o) M0 lf0) cells slots pc lv st := by
  intro H locs ls hP hD hS hl
  have hok := mk_ok (fun q hq => F.2.2.2.2 q hq) hD
  refine K hok H locs ls (by rw [List.append_nil]; exact hP) exOk_nil ?_ hl
  have e1 : ∀ q, xA (mkX D ca base a b A3 h o) s.heap.size q → s.heap.size ≤ q := fun q z => by
    have := xA_B hok (Nat.le_of_eq hb) q z
    rw [← hb]; exact this
  exact ⟨hS.1, fun q h1 h2 => hS.2.1 q h1 (fun z => h2 (Or.inr z)), fun q hq => Or.inr (hS.2.2 q hq)⟩
end LV
set_option maxHeartbeats 4000000 in
set_option maxRecDepth 100000 in
theorem law_enter {p : Program} {e : Env} {s : State} {m : MethodId} {below : List Frame} {meth : Method} {c : Code} (l : Launch) (hflags : l.flags = flags0) {b L : Nat} {xs : Nat → Int32} (C0 : lw_At p s m meth c b L xs) {Q : State → Prop}
    (K : ∀ X : Cx, X.2.2.2 = s.heap.size → Fx p l s m #[Value.ref b] meth c cL_law 9 RL X → V p l e room_1 s m #[Value.ref b] below meth c Q X 9 [] M0 lf0 98 737 23 [(4, .int (nI 0)), (3, .ref (X.2.1 6 0 0)), (2, .ref (X.2.1 2 0 0)), (1, .ref (X.2.1 5 0 0)), (0, .ref b)] []) : W p l e room_1 s m #[Value.ref b] below meth c s.heap [] 0 0 Q (entryFrame m ([Value.ref b] : List Value).toArray 9) := by
  obtain ⟨D, ca, hKC⟩ := law_KC C0
  obtain ⟨hx, hb, hr, hml, hown, hts, hX, hbl, hlocks, hgv⟩ := C0
  have hst : l.stackTraces = false := by
    unfold Launch.stackTraces
    rw [hflags]
    decide +kernel
  have F : FU p s m #[Value.ref b] meth c cL_law 9 RL D ca s.heap.size (fun q => s.heap.size ≤ q) := ⟨⟨hx, hb, hml, hown, fun w hw => hts w (List.mem_filter.mp hw).1⟩, hKC, hlocks, fun q h => h, fun q h => h⟩
  have hl := lv_entry ([.ref b]) (n := 9) (Nat.le_of_ble_eq_true rfl)
  rw [lg_entry_eq]
  have U : UU p l e room_1 s m #[Value.ref b] below meth c Q D (fun q => s.heap.size ≤ q) 9 [] 0 0 0 [(0, .ref b)] [] := by
    refine u_new F (ci := 4) tyX4 tyX4_ok uw_X4 wcl_L_8 win_X4 wini_X4 rfl (fs := [.null, .null]) (fun j hj => by rcases (show j = 0 ∨ j = 1 by omega) with rfl | rfl <;> rfl) (Nat.le_of_ble_eq_true rfl) (Nat.le_of_ble_eq_true rfl) dL_law_0 (fun qX4 => ?_)
    refine u_dup F dL_law_3 rfl ?_
    refine u_initI F (n := 0) (As := []) (rest := [.ref _]) rfl (n_X4 (D := D) (ca := ca) (base := s.heap.size) (l := l)) wc_X4_init wml_L_64 wi_X4_init wini_X4 rfl (by decide +kernel) rfl ⟨rfl, rfl, Nat.le_of_ble_eq_true rfl, Nat.le_of_ble_eq_true rfl, Nat.le_of_ble_eq_true rfl, Nat.le_of_ble_eq_true rfl, Nat.le_of_ble_eq_true rfl⟩ dL_law_4 (fun bw hbw => ?_)
    obtain ⟨aN, aT, rfl⟩ := hbw
    refine u_astore_n F dL_law_7 rfl (by decide) (lv' := [(1, .ref _), (0, .ref _)]) rfl ?_
    refine u_new F (ci := 6) tyX6 tyX6_ok uw_X6 wcl_L_65 win_X6 wini_X6 rfl (fs := [.int 0, .int 0, .int 0, .null, .null, .null, .null, .null, .null, .null]) (fun j hj => by rcases (show j = 0 ∨ j = 1 ∨ j = 2 ∨ j = 3 ∨ j = 4 ∨ j = 5 ∨ j = 6 ∨ j = 7 ∨ j = 8 ∨ j = 9 by omega) with rfl | rfl | rfl | rfl | rfl | rfl | rfl | rfl | rfl | rfl <;> rfl) (Nat.le_of_ble_eq_true rfl) (Nat.le_of_ble_eq_true rfl) dL_law_8 (fun qX6 => ?_)
    refine u_dup F dL_law_11 rfl ?_
    refine u_initI F (n := 0) (As := []) (rest := [.ref _]) rfl (n_X6 (D := D) (ca := ca) (base := s.heap.size) (l := l)) wc_X6_init wml_L_67 wi_X6_init wini_X6 rfl (by decide +kernel) rfl ⟨rfl, rfl, Nat.le_of_ble_eq_true rfl, Nat.le_of_ble_eq_true rfl, Nat.le_of_ble_eq_true rfl, Nat.le_of_ble_eq_true rfl, Nat.le_of_ble_eq_true rfl⟩ dL_law_12 (fun bw hbw => ?_)
    obtain ⟨A3, rfl, rfl⟩ := hbw
    refine u_astore_n F dL_law_15 rfl (by decide) (lv' := [(2, .ref _), (1, .ref _), (0, .ref _)]) rfl ?_
    refine u_iconst F (v := 1) dL_law_16 (by decide) ?_
    refine u_newl F 1 (by decide) (by decide) (by decide) (Nat.le_of_ble_eq_true rfl) (Nat.le_of_ble_eq_true rfl) dL_law_17 (fun o => ?_)
    refine u_astore_n F dL_law_19 rfl (by decide) (lv' := [(3, .ref _), (2, .ref _), (1, .ref _), (0, .ref _)]) rfl ?_
    refine u_iconst F (v := nI 0) dL_law_20 (by decide) ?_
    refine u_istore F dL_law_21 (by decide) (lv' := [(4, .int _), (3, .ref _), (2, .ref _), (1, .ref _), (0, .ref _)]) rfl ?_
    refine u_re (w' := (([] ++ [(qX4, .inr (4, [.ref (aN 0 0), .ref (aT 0 0)]))]) ++ (wR aN ca σR ++ (wR aT ca σR ++ (wQ A3 ca (fun _ _ _ => 0) ++ (wS (fun z => A3 3 z 0) (A3 2 0 0) ca (fun _ _ _ => 0) ++ wS (fun z => A3 4 z 0) (A3 2 0 0) ca (fun _ _ _ => 0)))))) ++ [(o, .inl (ca 3, 1, .inr (.inl (fun _ => 0))))]) (by simp only [List.nil_append, List.cons_append, List.append_assoc]) ?_
    refine u_re (w' := (([] ++ [(qX4, .inr (4, [.ref (aN 0 0), .ref (aT 0 0)]))]) ++ ((wR aN ca σR ++ (wR aT ca σR ++ (wQ A3 ca (fun _ _ _ => 0) ++ (wS (fun z => A3 3 z 0) (A3 2 0 0) ca (fun _ _ _ => 0) ++ wS (fun z => A3 4 z 0) (A3 2 0 0) ca (fun _ _ _ => 0))))) ++ [(o, .inl (ca 3, 1, .inr (.inl (fun _ => 0))))]))) (by simp only [List.nil_append, List.cons_append, List.append_assoc]) ?_
    refine u_swap ?_
    refine u_re (w' := ((wR aN ca σR ++ (wR aT ca σR ++ (wQ A3 ca (fun _ _ _ => 0) ++ (wS (fun z => A3 3 z 0) (A3 2 0 0) ca (fun _ _ _ => 0) ++ wS (fun z => A3 4 z 0) (A3 2 0 0) ca (fun _ _ _ => 0))))) ++ [(o, .inl (ca 3, 1, .inr (.inl (fun _ => 0))))]) ++ [(qX4, .inr (4, [.ref (aN 0 0), .ref (aT 0 0)]))]) (by simp only [List.nil_append, List.cons_append, List.append_assoc]) ?_
    refine u_swap ?_
    refine u_re (w' := wl (mkX D ca s.heap.size aN aT A3 qX4 o) M0 lf0) (by rw [mk_wl]; simp only [List.nil_append, List.cons_append, List.append_assoc]) ?_
    refine u_toV F rfl (fun hok => ?_)
    exact K (mkX D ca s.heap.size aN aT A3 qX4 o) rfl ⟨F.1, hKC.1, hok, hlocks, hst⟩
  exact U s.heap [] _ (fun k q h => by simp at h) ⟨fun i j p q h => by simp at h, fun k q h => by simp at h⟩ va_S.rf hl
