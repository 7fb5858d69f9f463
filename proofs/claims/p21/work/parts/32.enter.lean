/-! ===== the law: its entry ===== -/
section LE
variable {p : Program} {l : Launch} {e : Env} {R : Room} {s : State} {m : MethodId} {args : Array Value} {below : List Frame} {meth : Method} {c : Code} {Q : State → Prop}
theorem hov_of {b : Nat} (hts : ∀ w ∈ lw_tbl, w.before #[Value.ref b] s = true) : va_AOA .int s := aoa_any (hts _ (List.mem_of_getElem? (i := 538) (by decide +kernel)))
set_option maxHeartbeats 4000000 in
set_option maxRecDepth 100000 in
theorem law_enter (hflags : l.flags = flags0) {b L : Nat} {xs : Nat → Int32} (hL : L < 2 ^ 31) (C0 : lw_At p s m meth c b L xs)
    (K : ∀ (X : Cx) (M : Mem) (lf : Lf), X.2.2.2 = s.heap.size → Fx p l s m #[Value.ref b] meth c cL_law 28 RL X → LI M 36 → V p l e room_1 s m #[Value.ref b] below meth c Q X 28 [] M lf 83 516 4 [(0, .ref b)] [.ref (X.2.1 5 0 0)]) : W p l e room_1 s m #[Value.ref b] below meth c s.heap [] 0 0 Q (entryFrame m ([Value.ref b] : List Value).toArray 28) := by
  obtain ⟨D, ca, hKC⟩ := law_KC C0
  obtain ⟨hx, hb, hr, hml, hown, hts, hX, hbl, hlocks, hgv⟩ := C0
  have hst : l.stackTraces = false := by
    unfold Launch.stackTraces
    rw [hflags]
    decide +kernel
  have F : CallFix p m c cL_law 28 s #[Value.ref b] wAll RL := ⟨hx, hb, hml, hown, fun w hw => hts w (List.mem_filter.mp hw).1⟩
  have hl := lv_entry ([.ref b]) (n := 28) (Nat.le_of_ble_eq_true rfl)
  rw [lg_entry_eq]
  refine lv_aload_n F.1 F.2.1 dL_law_0 rfl (lv_at hl 0 rfl) ?_
  have hM := c_L_ring (l := l) (D := D) (ca := ca) (b := b) (L := L) (xs := xs) hst hL s.heap.size
  refine va_callr (A0 := fun q => s.heap.size ≤ q) (H0 := s.heap) (va_runS (As := [.ref b]) (rest := []) F hM ⟨callB_of 1 F.2.2.2.2 (good_c wc_L_ring) rfl rfl rfl (F.2.2.2.2 _ wini_L) (F.2.2.2.2 _ wml_L_50) (by decide +kernel) ⟨Nat.le_of_ble_eq_true rfl, Nat.le_of_ble_eq_true rfl⟩, F.2.2.2.2 _ wst_L_ring⟩ ⟨fun a U g mk q => ⟨q.1, q.2.1, KC_same (u := U) rfl rfl q.2.2.1, va_X_same (u := U) rfl rfl q.2.2.2.1, q.2.2.2.2⟩, fun U hU hW => ?_⟩ rfl rfl hl.1 rfl (lv_room (Nat.le_of_ble_eq_true rfl)) dL_law_1 ⟨Nat.le_of_ble_eq_true rfl, Nat.le_of_ble_eq_true rfl⟩) va_S.rf (fun q _ h => h) (fun q h => h) (fun u ra t H1 locs1 ht hvm hu hB hz hk hS1 => ?_)
  · refine ⟨rfl, by rw [hU], KC_pass (A := fun q => s.heap.size ≤ q) (locs := []) (fun q h => h) hW (by rw [hU]; exact va_S.rf) hKC, ?_, hbl⟩
    rw [hU]
    exact va_X.moved hW.alike hX
  · obtain ⟨⟨D1, f1, ca1, base1⟩, M, lf⟩ := u
    obtain ⟨hok, hD2, hca, hbase, hI⟩ := hu
    obtain ⟨hra, hB2⟩ := hB
    rw [ht] at hB2
    cases hD2
    cases hca
    cases hbase
    rw [hra]
    have hKz : Kz (D1, f1, ca1, s.heap.size) s := hKC.1
    refine K (D1, f1, ca1, s.heap.size) M lf rfl ⟨F, hKz, hok, hlocks, hst⟩ hI H1 locs1 _ (by rw [List.append_nil]; exact hB2) exOk_nil ?_ hl
    have e1 : ∀ q, xA (D1, f1, ca1, s.heap.size) s.heap.size q → s.heap.size ≤ q := fun q z => xA_B hok (Nat.le_refl _) q z
    exact ⟨hS1.1, fun q h1 h2 => hS1.2.1 q h1 (fun z => h2 (Or.inr z)), fun q hq => Or.inr (hS1.2.2 q hq)⟩
end LE
