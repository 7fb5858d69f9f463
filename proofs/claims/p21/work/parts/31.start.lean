/-! ===== what stands at the law's start ===== -/
theorem nestW_tbl : nestW.all (fun w => decide (w ∈ lw_tbl)) = true := by
  refine List.all_eq_true.mpr (fun w hw => decide_eq_true ?_)
  exact List.mem_append_right _ (List.mem_filter.mp hw).1
theorem strW_tbl : strW.all (fun q => decide (Cond.stringRef RX4 q.1 q.2 ∈ tables_1)) = true := by decide +kernel
theorem ncW_flat : ncW.all (fun q => decide (Cond.not (.castable q.1 q.2) ∈ flatC (Jvm.Cond.and given_1 narrow_1))) = true := by decide +kernel
theorem law_KC {p : Program} {s : State} {m : MethodId} {meth : Method} {c : Code} {b L : Nat} {xs : Nat → Int32} (C0 : lw_At p s m meth c b L xs) : ∃ (D : va_G) (ca : Nat → ClassId), KC D ca s.heap.size s := by
  obtain ⟨hx, hb, hr, hml, hown, hts, hX, hbl, hlocks, hgv⟩ := C0
  have ht : ∀ w, w ∈ wAll → w.before #[Value.ref b] s = true := fun w hw => hts w (List.mem_filter.mp hw).1
  have hfl := flat_of_before _ hgv
  obtain ⟨c0, i0, k0⟩ := u_known (C := RX0) (T := TX0) (N := 5) (n := 5) ht uw_X0 (ht _ win_X0)
  obtain ⟨c1, i1, k1⟩ := u_known (C := RX1) (T := TX1) (N := 3) (n := 3) ht uw_X1 (ht _ win_X1)
  obtain ⟨c2, i2, k2⟩ := u_known (C := RX2) (T := TX2) (N := 5) (n := 5) ht uw_X2 (ht _ win_X2)
  obtain ⟨c3, i3, k3⟩ := u_known (C := RX3) (T := TX3) (N := 8) (n := 8) ht uw_X3 (ht _ win_X3)
  obtain ⟨c4, i4, k4⟩ := u_known (C := RX4) (T := TX4) (N := 2) (n := 2) ht uw_X4 (ht _ win_X4)
  obtain ⟨a0, ka0, p0, f0, g0, h0⟩ := Cond.arrayClass_spec (ht _ war_int)
  have hJ : (Cond.arrayOver (.object "HammerEggs$Juggler")).before #[Value.ref b] s = true := hts _ (List.mem_of_getElem? (i := 402) (by decide +kernel))
  have hT : (Cond.arrayOver (.object "HammerEggs$Thing")).before #[Value.ref b] s = true := hts _ (List.mem_of_getElem? (i := 453) (by decide +kernel))
  have hA : (Cond.arrayOver (.array .int)).before #[Value.ref b] s = true := hts _ (List.mem_of_getElem? (i := 538) (by decide +kernel))
  obtain ⟨p1, a1, ka1, q1, -, f1, g1, h1⟩ := Cond.arrayOver_spec hJ
  obtain ⟨p2, a2, ka2, q2, -, f2, g2, h2⟩ := Cond.arrayOver_spec hT
  obtain ⟨p3, a3, ka3, q3, -, f3, g3, h3⟩ := arrayOverA_spec hA
  refine ⟨(fun k => match k with | 0 => c0 | 1 => c1 | 2 => c2 | 3 => c3 | _ => c4, fun k => match k with | 0 => i0 | 1 => i1 | 2 => i2 | 3 => i3 | _ => i4), (fun k => match k with | 0 => a0 | 1 => a1 | 2 => a2 | _ => a3), ⟨Nat.le_refl _, ⟨fun k q hq => ?_, fun k q hq => ?_⟩, fun w hw => ?_, fun q hq => ?_, fun w hw => ?_, fun q hq => ?_, ?_, ?_⟩, va_AO.of hJ, va_AO.of hT⟩
  · match k, hq with
    | 0, hq => cases hq; exact k0
    | 1, hq => cases hq; exact k1
    | 2, hq => cases hq; exact k2
    | 3, hq => cases hq; exact k3
    | 4, hq => cases hq; exact k4
    | k + 5, hq => simp [vwCl] at hq
  · match k, hq with
    | 0, hq => cases hq; exact ⟨fun n z => ⟨fun k h => (by cases h), ka0, g0, p0, h0⟩, f0⟩
    | 1, hq => cases hq; exact ⟨fun n z => ⟨fun k h => (by cases h), ka1, f1, p1, g1⟩, ka1, p1, f1, g1, q1, h1⟩
    | 2, hq => cases hq; exact ⟨fun n z => ⟨fun k h => (by cases h), ka2, f2, p2, g2⟩, ka2, p2, f2, g2, q2, h2⟩
    | 3, hq => cases hq; exact ⟨fun n z => ⟨fun k h => (by cases h), ka3, f3, p3, g3⟩, h3⟩
    | k + 4, hq => simp [tysX] at hq
  · exact va_Nw.of (nest_tab (List.mem_filter.mp hw).2) (hts w (of_decide_eq_true (List.all_eq_true.mp nestW_tbl w hw)))
  · have h9 : (Cond.stringRef RX4 q.1 q.2).before #[Value.ref b] s = true := hts _ (List.mem_append_right _ (of_decide_eq_true (List.all_eq_true.mp strW_tbl q hq)))
    obtain ⟨-, -, -, sa, -, -, -, -, -, hev⟩ := Cond.stringRef_spec k4.2.1 h9
    exact ⟨sa, vk_R.of h9 hev⟩
  · exact va_Nw.of (bad_tab w hw) (hts w (List.mem_append_right _ (List.mem_filter.mp hw).1))
  · exact va_Nc.of (hfl _ (of_decide_eq_true (List.all_eq_true.mp ncW_flat q hq)))
  · exact vx_Zqof (hts _ (List.mem_of_getElem? (i := 82) (by decide +kernel))) (ht _ wini_Throwable) (hfl _ (by decide +kernel)) (fun a ha z => absurd ha (Nat.not_lt.mpr z))
  · exact vx_Zqof (hts _ (List.mem_of_getElem? (i := 84) (by decide +kernel))) (ht _ wini_Throwable) (hfl _ (by decide +kernel)) (fun a ha z => absurd ha (Nat.not_lt.mpr z))
