set_option maxHeartbeats 8000000 in
set_option maxRecDepth 100000 in
theorem law_case_6 {p : Program} {l : Launch} {e : Env} {s : State} {m : MethodId} {below : List Frame} {meth : Method} {c : Code} {b : Nat} {xs : Nat → Int32} {D : va_G} {cI cB cS cZ cW : ClassId} {aL : Nat} {qL : Nat → Nat} {qW : Nat → Nat} {qP : Nat → Nat} {fR : Nat → Int32} {aM : Nat} {qM : Nat → Nat} {mR : Nat → Int32} (C0 : lw_At p s m meth c b 6 xs) (hE : gE D (gT cI cB cS cZ cW) s) : ∀ {H : Heap} {locs : List Loc} {ls : Array Slot}, va_P D vwCl [(aL, .inr (11, [.ref (qL 0), .ref (qL 1), .null, .null, .null, .null, .null])), ((qL 0), .inr (10, [.int 0, .ref (qW 1), .ref (qW 2), .ref (qW 3), .ref (qW 4), .ref (qW 5)])), ((qW 2), .inr (6, [.int 0, .ref (qP 1), .ref (qP 2), .ref (qP 3), .ref (qP 4), .ref (qP 5), .ref (qP 6), .ref (qP 7), .ref (qP 8), .ref (qP 9), .ref (qP 10), .ref (qP 11), .ref (qP 12), .ref (qP 13), .ref (qP 14)])), ((qP 14), .inl (cI, 36, .inl fR)), (aM, oM qM 0 0 0 0 0 0 0 0 0 0 0 0 0 0 0 0 0 0), ((qM 13), .inl (cI, 144, .inl mR))] H → va_D (fun q : Nat => s.heap.size ≤ q) [(aL, .inr (11, [.ref (qL 0), .ref (qL 1), .null, .null, .null, .null, .null])), ((qL 0), .inr (10, [.int 0, .ref (qW 1), .ref (qW 2), .ref (qW 3), .ref (qW 4), .ref (qW 5)])), ((qW 2), .inr (6, [.int 0, .ref (qP 1), .ref (qP 2), .ref (qP 3), .ref (qP 4), .ref (qP 5), .ref (qP 6), .ref (qP 7), .ref (qP 8), .ref (qP 9), .ref (qP 10), .ref (qP 11), .ref (qP 12), .ref (qP 13), .ref (qP 14)])), ((qP 14), .inl (cI, 36, .inl fR)), (aM, oM qM 0 0 0 0 0 0 0 0 0 0 0 0 0 0 0 0 0 0), ((qM 13), .inl (cI, 144, .inl mR))] → va_S (fun q : Nat => s.heap.size ≤ q) s.heap H locs → lv_has ls 4 [(0, .ref b), (1, .ref aL), (2, .ref aM), (3, .int 0)] → W p l e room_1 s m #[Value.ref b] below meth c H locs 136 31006 (lw_Z below #[Value.ref b] s) (F0 m 450 ls []) := by
  obtain ⟨hx, hb, hr, hml, hown, hts0, hX, hbl, hlocks, hgv⟩ := id C0
  have htg : ∀ w ∈ GL, w.before #[Value.ref b] s = true := fun w h => hts0 w (GL_sub w h)
  have hts := hts0
  have hown : s.vm.findClass RL = some m.cls := hown
  have hF : CallFix p m c cL_law 4 s #[Value.ref b] lw_tbl RL := ⟨hx, hb, hml, hown, hts⟩
  have hbA : ¬ (fun q : Nat => s.heap.size ≤ q) b := Nat.not_le.mpr hbl
  obtain ⟨A, hAe⟩ : ∃ A : Nat → Prop, A = (fun q : Nat => s.heap.size ≤ q) := ⟨_, rfl⟩
  have hA : ∀ q, s.heap.size ≤ q → A q := fun q h => by rw [hAe]; exact h
  rw [← hAe]
  rw [← hAe] at hbA
  intro H locs ls hP hD hS hl
  obtain ⟨x1, ex1⟩ : ∃ y : Int32, y = xs (1 : Int32).toNatClampNeg := ⟨_, rfl⟩
  obtain ⟨x2, ex2⟩ : ∃ y : Int32, y = xs (2 : Int32).toNatClampNeg := ⟨_, rfl⟩
  obtain ⟨x3, ex3⟩ : ∃ y : Int32, y = xs (3 : Int32).toNatClampNeg := ⟨_, rfl⟩
  have z1 := t_1
  have z2 := t_2
  have z3 := t_3
  refine lv_aload_n hx hb dL_law_450 rfl (lv_at hl 1 rfl) ?_
  refine lv_aload_n hx hb dL_law_451 rfl (lv_at hl 0 rfl) ?_
  refine lv_iload_n hx hb dL_law_452 rfl (lv_at hl 3 rfl) ?_
  refine lv_iconst (v := 1) hx hb dL_law_453 (by decide +kernel) ?_
  refine lv_iadd hx hb dL_law_454 ?_
  refine g_top 1 (by decide +kernel) ?_
  refine va_sld hx hb hX hbl hbA hS (vp_in_iff.mpr ⟨by decide +kernel, by decide +kernel⟩) dL_law_455 ?_
  refine g_top x1 ex1.symm ?_
  refine lv_aload_n hx hb dL_law_456 rfl (lv_at hl 0 rfl) ?_
  refine lv_iload_n hx hb dL_law_457 rfl (lv_at hl 3 rfl) ?_
  refine lv_iconst (v := 2) hx hb dL_law_458 (by decide +kernel) ?_
  refine lv_iadd hx hb dL_law_459 ?_
  refine g_top 2 (by decide +kernel) ?_
  refine va_sld hx hb hX hbl hbA hS (vp_in_iff.mpr ⟨by decide +kernel, by decide +kernel⟩) dL_law_460 ?_
  refine g_top x2 ex2.symm ?_
  refine lv_aload_n hx hb dL_law_461 rfl (lv_at hl 0 rfl) ?_
  refine lv_iload_n hx hb dL_law_462 rfl (lv_at hl 3 rfl) ?_
  refine lv_iconst (v := 3) hx hb dL_law_463 (by decide +kernel) ?_
  refine lv_iadd hx hb dL_law_464 ?_
  refine g_top 3 (by decide +kernel) ?_
  refine va_sld hx hb hX hbl hbA hS (vp_in_iff.mpr ⟨by decide +kernel, by decide +kernel⟩) dL_law_465 ?_
  refine g_top x3 ex3.symm ?_
  refine g_ai (D := D) (wc := [(aL, .inr (11, [.ref (qL 0), .ref (qL 1), .null, .null, .null, .null, .null])), ((qL 0), .inr (10, [.int 0, .ref (qW 1), .ref (qW 2), .ref (qW 3), .ref (qW 4), .ref (qW 5)])), ((qW 2), .inr (6, [.int 0, .ref (qP 1), .ref (qP 2), .ref (qP 3), .ref (qP 4), .ref (qP 5), .ref (qP 6), .ref (qP 7), .ref (qP 8), .ref (qP 9), .ref (qP 10), .ref (qP 11), .ref (qP 12), .ref (qP 13), .ref (qP 14)])), ((qP 14), .inl (cI, 36, .inl fR))]) (wr := [(aM, oM qM 0 0 0 0 0 0 0 0 0 0 0 0 0 0 0 0 0 0), ((qM 13), .inl (cI, 144, .inl mR))]) hP hD hS hA [0, 1, 2, 3] [4, 5] rfl rfl rfl rfl (by decide) (fun hPc hDc => va_runV (As := [.int x1, .int x2, .int x3]) (rest := []) hF (c_X11_road (l := l) (D := D) (cI := cI) (cB := cB) (cS := cS) (cZ := cZ) (cW := cW) (aL := aL) (y0 := x1) (y1 := x2) (y2 := x3) (qL := qL) (qW := qW) (qP := qP) (fR := fR)) (cwV 3 hts (gGV GL_sub wm_689 wm_690 wm_691 wm_151 wm_692) rfl rfl rfl (by decide +kernel) ⟨Nat.le_of_ble_eq_true rfl, Nat.le_of_ble_eq_true rfl⟩) (g_preV (q := (RX11, TX11, 7)) (ci := 11) (q0 := 0) hE hPc hDc rfl rfl) rfl rfl hl.1 rfl (lv_room (Nat.le_of_ble_eq_true rfl)) dL_law_466 ⟨Nat.le_of_ble_eq_true rfl, Nat.le_of_ble_eq_true rfl⟩) (fun r1 u2 H locs p3 hP hD hS => ?_)
  have hP : va_P D vwCl [(aM, oM qM 0 0 0 0 0 0 0 0 0 0 0 0 0 0 0 0 0 0), ((qM 13), .inl (cI, 144, .inl mR))] H := hP
  have hD : va_D A [(aM, oM qM 0 0 0 0 0 0 0 0 0 0 0 0 0 0 0 0 0 0), ((qM 13), .inl (cI, 144, .inl mR))] := hD
  refine lv_aload_n hx hb dL_law_469 rfl (lv_at hl 2 rfl) ?_
  refine lv_aload_n hx hb dL_law_470 rfl (lv_at hl 0 rfl) ?_
  refine lv_iload_n hx hb dL_law_471 rfl (lv_at hl 3 rfl) ?_
  refine lv_iconst (v := 1) hx hb dL_law_472 (by decide +kernel) ?_
  refine lv_iadd hx hb dL_law_473 ?_
  refine g_top 1 (by decide +kernel) ?_
  refine va_sld hx hb hX hbl hbA hS (vp_in_iff.mpr ⟨by decide +kernel, by decide +kernel⟩) dL_law_474 ?_
  refine g_top x1 ex1.symm ?_
  refine lv_aload_n hx hb dL_law_475 rfl (lv_at hl 0 rfl) ?_
  refine lv_iload_n hx hb dL_law_476 rfl (lv_at hl 3 rfl) ?_
  refine lv_iconst (v := 2) hx hb dL_law_477 (by decide +kernel) ?_
  refine lv_iadd hx hb dL_law_478 ?_
  refine g_top 2 (by decide +kernel) ?_
  refine va_sld hx hb hX hbl hbA hS (vp_in_iff.mpr ⟨by decide +kernel, by decide +kernel⟩) dL_law_479 ?_
  refine g_top x2 ex2.symm ?_
  refine lv_aload_n hx hb dL_law_480 rfl (lv_at hl 0 rfl) ?_
  refine lv_iload_n hx hb dL_law_481 rfl (lv_at hl 3 rfl) ?_
  refine lv_iconst (v := 3) hx hb dL_law_482 (by decide +kernel) ?_
  refine lv_iadd hx hb dL_law_483 ?_
  refine g_top 3 (by decide +kernel) ?_
  refine va_sld hx hb hX hbl hbA hS (vp_in_iff.mpr ⟨by decide +kernel, by decide +kernel⟩) dL_law_484 ?_
  refine g_top x3 ex3.symm ?_
  refine g_ai (D := D) (wc := [(aM, oM qM 0 0 0 0 0 0 0 0 0 0 0 0 0 0 0 0 0 0), ((qM 13), .inl (cI, 144, .inl mR))]) (wr := []) hP hD hS hA [0, 1] [] rfl rfl rfl rfl (by decide) (fun hPc hDc => va_runV (As := [.int x1, .int x2, .int x3]) (rest := [.int r1]) hF (c_X12_road (l := l) (D := D) (cI := cI) (cB := cB) (cS := cS) (cZ := cZ) (cW := cW) (aM := aM) (y0 := x1) (y1 := x2) (y2 := x3) (qM := qM) (mR := mR)) (cwV 3 hts (gGV GL_sub wm_693 wm_694 wm_695 wm_550 wm_696) rfl rfl rfl (by decide +kernel) ⟨Nat.le_of_ble_eq_true rfl, Nat.le_of_ble_eq_true rfl⟩) (g_preV (q := (RX12, TX12, 97)) (ci := 12) (q0 := 0) hE hPc hDc rfl rfl) rfl rfl hl.1 rfl (lv_room (Nat.le_of_ble_eq_true rfl)) dL_law_485 ⟨Nat.le_of_ble_eq_true rfl, Nat.le_of_ble_eq_true rfl⟩) (fun r4 u5 H locs p6 hP hD hS => ?_)
  have hP : va_P D vwCl [] H := hP
  have hD : va_D A [] := hD
  refine lv_icmp_eq (tgt := 1880) hx hb dL_law_488 (by decide) (fun _ => ?_) (fun c9 => absurd (p3.trans p6.symm) c9)
  rw [hAe] at hS
  exact law_tail C0 hS (lv_sub hl [0, 3] rfl) (Nat.le_of_ble_eq_true rfl) (Nat.le_of_ble_eq_true rfl)
set_option maxHeartbeats 8000000 in
set_option maxRecDepth 100000 in
theorem law_case_7 {p : Program} {l : Launch} {e : Env} {s : State} {m : MethodId} {below : List Frame} {meth : Method} {c : Code} {b : Nat} {xs : Nat → Int32} {D : va_G} {cI cB cS cZ cW : ClassId} {aL : Nat} {qL : Nat → Nat} {qW : Nat → Nat} {qT : Nat → Nat} {aM : Nat} {qM : Nat → Nat} (C0 : lw_At p s m meth c b 6 xs) (hE : gE D (gT cI cB cS cZ cW) s) : ∀ {H : Heap} {locs : List Loc} {ls : Array Slot}, va_P D vwCl [(aL, .inr (11, [.ref (qL 0), .ref (qL 1), .null, .null, .null, .null, .null])), ((qL 0), .inr (10, [.int 0, .ref (qW 1), .ref (qW 2), .ref (qW 3), .ref (qW 4), .ref (qW 5)])), ((qW 1), .inr (9, [.int 0, .ref (qT 1), .ref (qT 2), .ref (qT 3), .ref (qT 4), .ref (qT 5), .ref (qT 6), .ref (qT 7), .ref (qT 8)])), (aM, oM qM 0 0 0 0 0 0 0 0 0 0 0 0 0 0 0 0 0 0), ((qM 6), .inl (cI, 4, .inl (fun _ => 0))), ((qM 14), .inl (cI, 4, .inl (fun _ => 0)))] H → va_D (fun q : Nat => s.heap.size ≤ q) [(aL, .inr (11, [.ref (qL 0), .ref (qL 1), .null, .null, .null, .null, .null])), ((qL 0), .inr (10, [.int 0, .ref (qW 1), .ref (qW 2), .ref (qW 3), .ref (qW 4), .ref (qW 5)])), ((qW 1), .inr (9, [.int 0, .ref (qT 1), .ref (qT 2), .ref (qT 3), .ref (qT 4), .ref (qT 5), .ref (qT 6), .ref (qT 7), .ref (qT 8)])), (aM, oM qM 0 0 0 0 0 0 0 0 0 0 0 0 0 0 0 0 0 0), ((qM 6), .inl (cI, 4, .inl (fun _ => 0))), ((qM 14), .inl (cI, 4, .inl (fun _ => 0)))] → va_S (fun q : Nat => s.heap.size ≤ q) s.heap H locs → lv_has ls 4 [(0, .ref b), (1, .ref aL), (2, .ref aM), (3, .int 0)] → W p l e room_1 s m #[Value.ref b] below meth c H locs 136 31006 (lw_Z below #[Value.ref b] s) (F0 m 493 ls []) := by
  obtain ⟨hx, hb, hr, hml, hown, hts0, hX, hbl, hlocks, hgv⟩ := id C0
  have htg : ∀ w ∈ GL, w.before #[Value.ref b] s = true := fun w h => hts0 w (GL_sub w h)
  have hts := hts0
  have hown : s.vm.findClass RL = some m.cls := hown
  have hF : CallFix p m c cL_law 4 s #[Value.ref b] lw_tbl RL := ⟨hx, hb, hml, hown, hts⟩
  have hbA : ¬ (fun q : Nat => s.heap.size ≤ q) b := Nat.not_le.mpr hbl
  obtain ⟨A, hAe⟩ : ∃ A : Nat → Prop, A = (fun q : Nat => s.heap.size ≤ q) := ⟨_, rfl⟩
  have hA : ∀ q, s.heap.size ≤ q → A q := fun q h => by rw [hAe]; exact h
  rw [← hAe]
  rw [← hAe] at hbA
  intro H locs ls hP hD hS hl
  obtain ⟨x1, ex1⟩ : ∃ y : Int32, y = xs (1 : Int32).toNatClampNeg := ⟨_, rfl⟩
  obtain ⟨x2, ex2⟩ : ∃ y : Int32, y = xs (2 : Int32).toNatClampNeg := ⟨_, rfl⟩
  obtain ⟨x3, ex3⟩ : ∃ y : Int32, y = xs (3 : Int32).toNatClampNeg := ⟨_, rfl⟩
  obtain ⟨x4, ex4⟩ : ∃ y : Int32, y = xs (4 : Int32).toNatClampNeg := ⟨_, rfl⟩
  have zm1 := tm_1
  have z1 := t_1
  have z2 := t_2
  have z3 := t_3
  have z4 := t_4
  refine lv_aload_n hx hb dL_law_493 rfl (lv_at hl 1 rfl) ?_
  refine lv_aload_n hx hb dL_law_494 rfl (lv_at hl 0 rfl) ?_
  refine lv_iload_n hx hb dL_law_495 rfl (lv_at hl 3 rfl) ?_
  refine lv_iconst (v := 1) hx hb dL_law_496 (by decide +kernel) ?_
  refine lv_iadd hx hb dL_law_497 ?_
  refine g_top 1 (by decide +kernel) ?_
  refine va_sld hx hb hX hbl hbA hS (vp_in_iff.mpr ⟨by decide +kernel, by decide +kernel⟩) dL_law_498 ?_
  refine g_top x1 ex1.symm ?_
  refine lv_aload_n hx hb dL_law_499 rfl (lv_at hl 0 rfl) ?_
  refine lv_iload_n hx hb dL_law_500 rfl (lv_at hl 3 rfl) ?_
  refine lv_iconst (v := 2) hx hb dL_law_501 (by decide +kernel) ?_
  refine lv_iadd hx hb dL_law_502 ?_
  refine g_top 2 (by decide +kernel) ?_
  refine va_sld hx hb hX hbl hbA hS (vp_in_iff.mpr ⟨by decide +kernel, by decide +kernel⟩) dL_law_503 ?_
  refine g_top x2 ex2.symm ?_
  refine lv_aload_n hx hb dL_law_504 rfl (lv_at hl 0 rfl) ?_
  refine lv_iload_n hx hb dL_law_505 rfl (lv_at hl 3 rfl) ?_
  refine lv_iconst (v := 3) hx hb dL_law_506 (by decide +kernel) ?_
  refine lv_iadd hx hb dL_law_507 ?_
  refine g_top 3 (by decide +kernel) ?_
  refine va_sld hx hb hX hbl hbA hS (vp_in_iff.mpr ⟨by decide +kernel, by decide +kernel⟩) dL_law_508 ?_
  refine g_top x3 ex3.symm ?_
  refine lv_aload_n hx hb dL_law_509 rfl (lv_at hl 0 rfl) ?_
  refine lv_iload_n hx hb dL_law_510 rfl (lv_at hl 3 rfl) ?_
  refine lv_iconst (v := 4) hx hb dL_law_511 (by decide +kernel) ?_
  refine lv_iadd hx hb dL_law_512 ?_
  refine g_top 4 (by decide +kernel) ?_
  refine va_sld hx hb hX hbl hbA hS (vp_in_iff.mpr ⟨by decide +kernel, by decide +kernel⟩) dL_law_513 ?_
  refine g_top x4 ex4.symm ?_
  refine g_ai (D := D) (wc := [(aL, .inr (11, [.ref (qL 0), .ref (qL 1), .null, .null, .null, .null, .null])), ((qL 0), .inr (10, [.int 0, .ref (qW 1), .ref (qW 2), .ref (qW 3), .ref (qW 4), .ref (qW 5)])), ((qW 1), .inr (9, [.int 0, .ref (qT 1), .ref (qT 2), .ref (qT 3), .ref (qT 4), .ref (qT 5), .ref (qT 6), .ref (qT 7), .ref (qT 8)]))]) (wr := [(aM, oM qM 0 0 0 0 0 0 0 0 0 0 0 0 0 0 0 0 0 0), ((qM 6), .inl (cI, 4, .inl (fun _ => 0))), ((qM 14), .inl (cI, 4, .inl (fun _ => 0)))]) hP hD hS hA [0, 1, 2] [3, 4, 5] rfl rfl rfl rfl (by decide) (fun hPc hDc => va_runV (As := [.int x1, .int x2, .int x3, .int x4]) (rest := []) hF (c_X11_person (l := l) (D := D) (cI := cI) (cB := cB) (cS := cS) (cZ := cZ) (cW := cW) (aL := aL) (y0 := x1) (y1 := x2) (y2 := x3) (y3 := x4) (qL := qL) (qW := qW) (qT := qT)) (cwV 4 hts (gGV GL_sub wm_697 wm_698 wm_699 wm_151 wm_700) rfl rfl rfl (by decide +kernel) ⟨Nat.le_of_ble_eq_true rfl, Nat.le_of_ble_eq_true rfl⟩) (g_preV (q := (RX11, TX11, 7)) (ci := 11) (q0 := 0) hE hPc hDc rfl rfl) rfl rfl hl.1 rfl (lv_room (Nat.le_of_ble_eq_true rfl)) dL_law_514 ⟨Nat.le_of_ble_eq_true rfl, Nat.le_of_ble_eq_true rfl⟩) (fun r1 u2 H locs p3 hP hD hS => ?_)
  have hP : va_P D vwCl [(aM, oM qM 0 0 0 0 0 0 0 0 0 0 0 0 0 0 0 0 0 0), ((qM 6), .inl (cI, 4, .inl (fun _ => 0))), ((qM 14), .inl (cI, 4, .inl (fun _ => 0)))] H := hP
  have hD : va_D A [(aM, oM qM 0 0 0 0 0 0 0 0 0 0 0 0 0 0 0 0 0 0), ((qM 6), .inl (cI, 4, .inl (fun _ => 0))), ((qM 14), .inl (cI, 4, .inl (fun _ => 0)))] := hD
  obtain rfl := p3
  refine lv_aload_n hx hb dL_law_517 rfl (lv_at hl 2 rfl) ?_
  refine lv_aload_n hx hb dL_law_518 rfl (lv_at hl 0 rfl) ?_
  refine lv_iload_n hx hb dL_law_519 rfl (lv_at hl 3 rfl) ?_
  refine lv_iconst (v := 1) hx hb dL_law_520 (by decide +kernel) ?_
  refine lv_iadd hx hb dL_law_521 ?_
  refine g_top 1 (by decide +kernel) ?_
  refine va_sld hx hb hX hbl hbA hS (vp_in_iff.mpr ⟨by decide +kernel, by decide +kernel⟩) dL_law_522 ?_
  refine g_top x1 ex1.symm ?_
  refine lv_aload_n hx hb dL_law_523 rfl (lv_at hl 0 rfl) ?_
  refine lv_iload_n hx hb dL_law_524 rfl (lv_at hl 3 rfl) ?_
  refine lv_iconst (v := 2) hx hb dL_law_525 (by decide +kernel) ?_
  refine lv_iadd hx hb dL_law_526 ?_
  refine g_top 2 (by decide +kernel) ?_
  refine va_sld hx hb hX hbl hbA hS (vp_in_iff.mpr ⟨by decide +kernel, by decide +kernel⟩) dL_law_527 ?_
  refine g_top x2 ex2.symm ?_
  refine lv_aload_n hx hb dL_law_528 rfl (lv_at hl 0 rfl) ?_
  refine lv_iload_n hx hb dL_law_529 rfl (lv_at hl 3 rfl) ?_
  refine lv_iconst (v := 3) hx hb dL_law_530 (by decide +kernel) ?_
  refine lv_iadd hx hb dL_law_531 ?_
  refine g_top 3 (by decide +kernel) ?_
  refine va_sld hx hb hX hbl hbA hS (vp_in_iff.mpr ⟨by decide +kernel, by decide +kernel⟩) dL_law_532 ?_
  refine g_top x3 ex3.symm ?_
  refine lv_aload_n hx hb dL_law_533 rfl (lv_at hl 0 rfl) ?_
  refine lv_iload_n hx hb dL_law_534 rfl (lv_at hl 3 rfl) ?_
  refine lv_iconst (v := 4) hx hb dL_law_535 (by decide +kernel) ?_
  refine lv_iadd hx hb dL_law_536 ?_
  refine g_top 4 (by decide +kernel) ?_
  refine va_sld hx hb hX hbl hbA hS (vp_in_iff.mpr ⟨by decide +kernel, by decide +kernel⟩) dL_law_537 ?_
  refine g_top x4 ex4.symm ?_
  refine g_ai (D := D) (wc := [(aM, oM qM 0 0 0 0 0 0 0 0 0 0 0 0 0 0 0 0 0 0), ((qM 6), .inl (cI, 4, .inl (fun _ => 0))), ((qM 14), .inl (cI, 4, .inl (fun _ => 0)))]) (wr := []) hP hD hS hA [0, 1, 2] [] rfl rfl rfl rfl (by decide) (fun hPc hDc => va_runV (As := [.int x1, .int x2, .int x3, .int x4]) (rest := [.int (-1)]) hF (c_X12_person (l := l) (D := D) (cI := cI) (cB := cB) (cS := cS) (cZ := cZ) (cW := cW) (aM := aM) (y0 := x1) (y1 := x2) (y2 := x3) (y3 := x4) (qM := qM)) (cwV 4 hts (gGV GL_sub wm_701 wm_702 wm_703 wm_550 wm_704) rfl rfl rfl (by decide +kernel) ⟨Nat.le_of_ble_eq_true rfl, Nat.le_of_ble_eq_true rfl⟩) (g_preV (q := (RX12, TX12, 97)) (ci := 12) (q0 := 0) hE hPc hDc rfl rfl) rfl rfl hl.1 rfl (lv_room (Nat.le_of_ble_eq_true rfl)) dL_law_538 ⟨Nat.le_of_ble_eq_true rfl, Nat.le_of_ble_eq_true rfl⟩) (fun r4 u5 H locs p6 hP hD hS => ?_)
  have hP : va_P D vwCl [] H := hP
  have hD : va_D A [] := hD
  obtain rfl := p6
  refine lv_icmp_eq (tgt := 1880) hx hb dL_law_541 (by decide) (fun _ => ?_) (fun c9 => absurd rfl c9)
  rw [hAe] at hS
  exact law_tail C0 hS (lv_sub hl [0, 3] rfl) (Nat.le_of_ble_eq_true rfl) (Nat.le_of_ble_eq_true rfl)
set_option maxHeartbeats 8000000 in
set_option maxRecDepth 100000 in
theorem law_case_8 {p : Program} {l : Launch} {e : Env} {s : State} {m : MethodId} {below : List Frame} {meth : Method} {c : Code} {b : Nat} {xs : Nat → Int32} {D : va_G} {cI cB cS cZ cW : ClassId} {aL : Nat} {qL : Nat → Nat} {qW : Nat → Nat} {qP : Nat → Nat} {aM : Nat} {qM : Nat → Nat} (C0 : lw_At p s m meth c b 6 xs) (hE : gE D (gT cI cB cS cZ cW) s) : ∀ {H : Heap} {locs : List Loc} {ls : Array Slot}, va_P D vwCl [(aL, .inr (11, [.ref (qL 0), .ref (qL 1), .null, .null, .null, .null, .null])), ((qL 0), .inr (10, [.int 0, .ref (qW 1), .ref (qW 2), .ref (qW 3), .ref (qW 4), .ref (qW 5)])), ((qW 2), .inr (6, [.int 0, .ref (qP 1), .ref (qP 2), .ref (qP 3), .ref (qP 4), .ref (qP 5), .ref (qP 6), .ref (qP 7), .ref (qP 8), .ref (qP 9), .ref (qP 10), .ref (qP 11), .ref (qP 12), .ref (qP 13), .ref (qP 14)])), (aM, oM qM 0 0 0 0 0 0 0 0 0 0 0 0 0 0 0 0 0 0), ((qM 14), .inl (cI, 4, .inl (fun _ => 0)))] H → va_D (fun q : Nat => s.heap.size ≤ q) [(aL, .inr (11, [.ref (qL 0), .ref (qL 1), .null, .null, .null, .null, .null])), ((qL 0), .inr (10, [.int 0, .ref (qW 1), .ref (qW 2), .ref (qW 3), .ref (qW 4), .ref (qW 5)])), ((qW 2), .inr (6, [.int 0, .ref (qP 1), .ref (qP 2), .ref (qP 3), .ref (qP 4), .ref (qP 5), .ref (qP 6), .ref (qP 7), .ref (qP 8), .ref (qP 9), .ref (qP 10), .ref (qP 11), .ref (qP 12), .ref (qP 13), .ref (qP 14)])), (aM, oM qM 0 0 0 0 0 0 0 0 0 0 0 0 0 0 0 0 0 0), ((qM 14), .inl (cI, 4, .inl (fun _ => 0)))] → va_S (fun q : Nat => s.heap.size ≤ q) s.heap H locs → lv_has ls 4 [(0, .ref b), (1, .ref aL), (2, .ref aM), (3, .int 0)] → W p l e room_1 s m #[Value.ref b] below meth c H locs 136 31006 (lw_Z below #[Value.ref b] s) (F0 m 546 ls []) := by
  obtain ⟨hx, hb, hr, hml, hown, hts0, hX, hbl, hlocks, hgv⟩ := id C0
  have htg : ∀ w ∈ GL, w.before #[Value.ref b] s = true := fun w h => hts0 w (GL_sub w h)
  have hts := hts0
  have hown : s.vm.findClass RL = some m.cls := hown
  have hF : CallFix p m c cL_law 4 s #[Value.ref b] lw_tbl RL := ⟨hx, hb, hml, hown, hts⟩
  have hbA : ¬ (fun q : Nat => s.heap.size ≤ q) b := Nat.not_le.mpr hbl
  obtain ⟨A, hAe⟩ : ∃ A : Nat → Prop, A = (fun q : Nat => s.heap.size ≤ q) := ⟨_, rfl⟩
  have hA : ∀ q, s.heap.size ≤ q → A q := fun q h => by rw [hAe]; exact h
  rw [← hAe]
  rw [← hAe] at hbA
  intro H locs ls hP hD hS hl
  obtain ⟨x1, ex1⟩ : ∃ y : Int32, y = xs (1 : Int32).toNatClampNeg := ⟨_, rfl⟩
  obtain ⟨x2, ex2⟩ : ∃ y : Int32, y = xs (2 : Int32).toNatClampNeg := ⟨_, rfl⟩
  have z0 := t_0
  have z1 := t_1
  have z2 := t_2
  refine lv_aload_n hx hb dL_law_546 rfl (lv_at hl 1 rfl) ?_
  refine lv_aload_n hx hb dL_law_547 rfl (lv_at hl 0 rfl) ?_
  refine lv_iload_n hx hb dL_law_548 rfl (lv_at hl 3 rfl) ?_
  refine lv_iconst (v := 1) hx hb dL_law_549 (by decide +kernel) ?_
  refine lv_iadd hx hb dL_law_550 ?_
  refine g_top 1 (by decide +kernel) ?_
  refine va_sld hx hb hX hbl hbA hS (vp_in_iff.mpr ⟨by decide +kernel, by decide +kernel⟩) dL_law_551 ?_
  refine g_top x1 ex1.symm ?_
  refine lv_aload_n hx hb dL_law_552 rfl (lv_at hl 0 rfl) ?_
  refine lv_iload_n hx hb dL_law_553 rfl (lv_at hl 3 rfl) ?_
  refine lv_iconst (v := 2) hx hb dL_law_554 (by decide +kernel) ?_
  refine lv_iadd hx hb dL_law_555 ?_
  refine g_top 2 (by decide +kernel) ?_
  refine va_sld hx hb hX hbl hbA hS (vp_in_iff.mpr ⟨by decide +kernel, by decide +kernel⟩) dL_law_556 ?_
  refine g_top x2 ex2.symm ?_
  refine g_ai (D := D) (wc := [(aL, .inr (11, [.ref (qL 0), .ref (qL 1), .null, .null, .null, .null, .null])), ((qL 0), .inr (10, [.int 0, .ref (qW 1), .ref (qW 2), .ref (qW 3), .ref (qW 4), .ref (qW 5)])), ((qW 2), .inr (6, [.int 0, .ref (qP 1), .ref (qP 2), .ref (qP 3), .ref (qP 4), .ref (qP 5), .ref (qP 6), .ref (qP 7), .ref (qP 8), .ref (qP 9), .ref (qP 10), .ref (qP 11), .ref (qP 12), .ref (qP 13), .ref (qP 14)]))]) (wr := [(aM, oM qM 0 0 0 0 0 0 0 0 0 0 0 0 0 0 0 0 0 0), ((qM 14), .inl (cI, 4, .inl (fun _ => 0)))]) hP hD hS hA [0, 1, 2] [3, 4] rfl rfl rfl rfl (by decide) (fun hPc hDc => va_runV (As := [.int x1, .int x2]) (rest := []) hF (c_X11_have (l := l) (D := D) (cI := cI) (cB := cB) (cS := cS) (cZ := cZ) (cW := cW) (aL := aL) (y0 := x1) (y1 := x2) (qL := qL) (qW := qW) (qP := qP)) (cwV 2 hts (gGV GL_sub wm_705 wm_706 wm_707 wm_151 wm_708) rfl rfl rfl (by decide +kernel) ⟨Nat.le_of_ble_eq_true rfl, Nat.le_of_ble_eq_true rfl⟩) (g_preV (q := (RX11, TX11, 7)) (ci := 11) (q0 := 0) hE hPc hDc rfl rfl) rfl rfl hl.1 rfl (lv_room (Nat.le_of_ble_eq_true rfl)) dL_law_557 ⟨Nat.le_of_ble_eq_true rfl, Nat.le_of_ble_eq_true rfl⟩) (fun r1 u2 H locs p3 hP hD hS => ?_)
  have hP : va_P D vwCl [(aM, oM qM 0 0 0 0 0 0 0 0 0 0 0 0 0 0 0 0 0 0), ((qM 14), .inl (cI, 4, .inl (fun _ => 0)))] H := hP
  have hD : va_D A [(aM, oM qM 0 0 0 0 0 0 0 0 0 0 0 0 0 0 0 0 0 0), ((qM 14), .inl (cI, 4, .inl (fun _ => 0)))] := hD
  obtain rfl := p3
  refine lv_aload_n hx hb dL_law_560 rfl (lv_at hl 2 rfl) ?_
  refine lv_aload_n hx hb dL_law_561 rfl (lv_at hl 0 rfl) ?_
  refine lv_iload_n hx hb dL_law_562 rfl (lv_at hl 3 rfl) ?_
  refine lv_iconst (v := 1) hx hb dL_law_563 (by decide +kernel) ?_
  refine lv_iadd hx hb dL_law_564 ?_
  refine g_top 1 (by decide +kernel) ?_
  refine va_sld hx hb hX hbl hbA hS (vp_in_iff.mpr ⟨by decide +kernel, by decide +kernel⟩) dL_law_565 ?_
  refine g_top x1 ex1.symm ?_
  refine lv_aload_n hx hb dL_law_566 rfl (lv_at hl 0 rfl) ?_
  refine lv_iload_n hx hb dL_law_567 rfl (lv_at hl 3 rfl) ?_
  refine lv_iconst (v := 2) hx hb dL_law_568 (by decide +kernel) ?_
  refine lv_iadd hx hb dL_law_569 ?_
  refine g_top 2 (by decide +kernel) ?_
  refine va_sld hx hb hX hbl hbA hS (vp_in_iff.mpr ⟨by decide +kernel, by decide +kernel⟩) dL_law_570 ?_
  refine g_top x2 ex2.symm ?_
  refine g_ai (D := D) (wc := [(aM, oM qM 0 0 0 0 0 0 0 0 0 0 0 0 0 0 0 0 0 0), ((qM 14), .inl (cI, 4, .inl (fun _ => 0)))]) (wr := []) hP hD hS hA [0, 1] [] rfl rfl rfl rfl (by decide) (fun hPc hDc => va_runV (As := [.int x1, .int x2]) (rest := [.int 0]) hF (c_X12_have (l := l) (D := D) (cI := cI) (cB := cB) (cS := cS) (cZ := cZ) (cW := cW) (aM := aM) (y0 := x1) (y1 := x2) (qM := qM)) (cwV 2 hts (gGV GL_sub wm_709 wm_710 wm_711 wm_550 wm_712) rfl rfl rfl (by decide +kernel) ⟨Nat.le_of_ble_eq_true rfl, Nat.le_of_ble_eq_true rfl⟩) (g_preV (q := (RX12, TX12, 97)) (ci := 12) (q0 := 0) hE hPc hDc rfl rfl) rfl rfl hl.1 rfl (lv_room (Nat.le_of_ble_eq_true rfl)) dL_law_571 ⟨Nat.le_of_ble_eq_true rfl, Nat.le_of_ble_eq_true rfl⟩) (fun r4 u5 H locs p6 hP hD hS => ?_)
  have hP : va_P D vwCl [] H := hP
  have hD : va_D A [] := hD
  obtain rfl := p6
  refine lv_icmp_eq (tgt := 1880) hx hb dL_law_574 (by decide) (fun _ => ?_) (fun c9 => absurd rfl c9)
  rw [hAe] at hS
  exact law_tail C0 hS (lv_sub hl [0, 3] rfl) (Nat.le_of_ble_eq_true rfl) (Nat.le_of_ble_eq_true rfl)
set_option maxHeartbeats 8000000 in
set_option maxRecDepth 100000 in
theorem law_case_9 {p : Program} {l : Launch} {e : Env} {s : State} {m : MethodId} {below : List Frame} {meth : Method} {c : Code} {b : Nat} {xs : Nat → Int32} {D : va_G} {cI cB cS cZ cW : ClassId} {aL : Nat} {qL : Nat → Nat} {qW : Nat → Nat} {qP : Nat → Nat} {aM : Nat} {qM : Nat → Nat} (C0 : lw_At p s m meth c b 6 xs) (hE : gE D (gT cI cB cS cZ cW) s) : ∀ {H : Heap} {locs : List Loc} {ls : Array Slot}, va_P D vwCl [(aL, .inr (11, [.ref (qL 0), .ref (qL 1), .null, .null, .null, .null, .null])), ((qL 0), .inr (10, [.int 0, .ref (qW 1), .ref (qW 2), .ref (qW 3), .ref (qW 4), .ref (qW 5)])), ((qW 2), .inr (6, [.int 0, .ref (qP 1), .ref (qP 2), .ref (qP 3), .ref (qP 4), .ref (qP 5), .ref (qP 6), .ref (qP 7), .ref (qP 8), .ref (qP 9), .ref (qP 10), .ref (qP 11), .ref (qP 12), .ref (qP 13), .ref (qP 14)])), (aM, oM qM 0 0 0 0 0 0 0 0 0 0 0 0 0 0 0 0 0 0), ((qM 14), .inl (cI, 4, .inl (fun _ => 0)))] H → va_D (fun q : Nat => s.heap.size ≤ q) [(aL, .inr (11, [.ref (qL 0), .ref (qL 1), .null, .null, .null, .null, .null])), ((qL 0), .inr (10, [.int 0, .ref (qW 1), .ref (qW 2), .ref (qW 3), .ref (qW 4), .ref (qW 5)])), ((qW 2), .inr (6, [.int 0, .ref (qP 1), .ref (qP 2), .ref (qP 3), .ref (qP 4), .ref (qP 5), .ref (qP 6), .ref (qP 7), .ref (qP 8), .ref (qP 9), .ref (qP 10), .ref (qP 11), .ref (qP 12), .ref (qP 13), .ref (qP 14)])), (aM, oM qM 0 0 0 0 0 0 0 0 0 0 0 0 0 0 0 0 0 0), ((qM 14), .inl (cI, 4, .inl (fun _ => 0)))] → va_S (fun q : Nat => s.heap.size ≤ q) s.heap H locs → lv_has ls 4 [(0, .ref b), (1, .ref aL), (2, .ref aM), (3, .int 0)] → W p l e room_1 s m #[Value.ref b] below meth c H locs 136 31006 (lw_Z below #[Value.ref b] s) (F0 m 579 ls []) := by
  obtain ⟨hx, hb, hr, hml, hown, hts0, hX, hbl, hlocks, hgv⟩ := id C0
  have htg : ∀ w ∈ GL, w.before #[Value.ref b] s = true := fun w h => hts0 w (GL_sub w h)
  have hts := hts0
  have hown : s.vm.findClass RL = some m.cls := hown
  have hF : CallFix p m c cL_law 4 s #[Value.ref b] lw_tbl RL := ⟨hx, hb, hml, hown, hts⟩
  have hbA : ¬ (fun q : Nat => s.heap.size ≤ q) b := Nat.not_le.mpr hbl
  obtain ⟨A, hAe⟩ : ∃ A : Nat → Prop, A = (fun q : Nat => s.heap.size ≤ q) := ⟨_, rfl⟩
  have hA : ∀ q, s.heap.size ≤ q → A q := fun q h => by rw [hAe]; exact h
  rw [← hAe]
  rw [← hAe] at hbA
  intro H locs ls hP hD hS hl
  obtain ⟨x1, ex1⟩ : ∃ y : Int32, y = xs (1 : Int32).toNatClampNeg := ⟨_, rfl⟩
  obtain ⟨x2, ex2⟩ : ∃ y : Int32, y = xs (2 : Int32).toNatClampNeg := ⟨_, rfl⟩
  have z0 := t_0
  have z1 := t_1
  have z2 := t_2
  refine lv_aload_n hx hb dL_law_579 rfl (lv_at hl 1 rfl) ?_
  refine lv_aload_n hx hb dL_law_580 rfl (lv_at hl 0 rfl) ?_
  refine lv_iload_n hx hb dL_law_581 rfl (lv_at hl 3 rfl) ?_
  refine lv_iconst (v := 1) hx hb dL_law_582 (by decide +kernel) ?_
  refine lv_iadd hx hb dL_law_583 ?_
  refine g_top 1 (by decide +kernel) ?_
  refine va_sld hx hb hX hbl hbA hS (vp_in_iff.mpr ⟨by decide +kernel, by decide +kernel⟩) dL_law_584 ?_
  refine g_top x1 ex1.symm ?_
  refine lv_aload_n hx hb dL_law_585 rfl (lv_at hl 0 rfl) ?_
  refine lv_iload_n hx hb dL_law_586 rfl (lv_at hl 3 rfl) ?_
  refine lv_iconst (v := 2) hx hb dL_law_587 (by decide +kernel) ?_
  refine lv_iadd hx hb dL_law_588 ?_
  refine g_top 2 (by decide +kernel) ?_
  refine va_sld hx hb hX hbl hbA hS (vp_in_iff.mpr ⟨by decide +kernel, by decide +kernel⟩) dL_law_589 ?_
  refine g_top x2 ex2.symm ?_
  refine g_ai (D := D) (wc := [(aL, .inr (11, [.ref (qL 0), .ref (qL 1), .null, .null, .null, .null, .null])), ((qL 0), .inr (10, [.int 0, .ref (qW 1), .ref (qW 2), .ref (qW 3), .ref (qW 4), .ref (qW 5)])), ((qW 2), .inr (6, [.int 0, .ref (qP 1), .ref (qP 2), .ref (qP 3), .ref (qP 4), .ref (qP 5), .ref (qP 6), .ref (qP 7), .ref (qP 8), .ref (qP 9), .ref (qP 10), .ref (qP 11), .ref (qP 12), .ref (qP 13), .ref (qP 14)]))]) (wr := [(aM, oM qM 0 0 0 0 0 0 0 0 0 0 0 0 0 0 0 0 0 0), ((qM 14), .inl (cI, 4, .inl (fun _ => 0)))]) hP hD hS hA [0, 1, 2] [3, 4] rfl rfl rfl rfl (by decide) (fun hPc hDc => va_runV (As := [.int x1, .int x2]) (rest := []) hF (c_X11_health (l := l) (D := D) (cI := cI) (cB := cB) (cS := cS) (cZ := cZ) (cW := cW) (aL := aL) (y0 := x1) (y1 := x2) (qL := qL) (qW := qW) (qP := qP)) (cwV 2 hts (gGV GL_sub wm_713 wm_714 wm_715 wm_151 wm_716) rfl rfl rfl (by decide +kernel) ⟨Nat.le_of_ble_eq_true rfl, Nat.le_of_ble_eq_true rfl⟩) (g_preV (q := (RX11, TX11, 7)) (ci := 11) (q0 := 0) hE hPc hDc rfl rfl) rfl rfl hl.1 rfl (lv_room (Nat.le_of_ble_eq_true rfl)) dL_law_590 ⟨Nat.le_of_ble_eq_true rfl, Nat.le_of_ble_eq_true rfl⟩) (fun r1 u2 H locs p3 hP hD hS => ?_)
  have hP : va_P D vwCl [(aM, oM qM 0 0 0 0 0 0 0 0 0 0 0 0 0 0 0 0 0 0), ((qM 14), .inl (cI, 4, .inl (fun _ => 0)))] H := hP
  have hD : va_D A [(aM, oM qM 0 0 0 0 0 0 0 0 0 0 0 0 0 0 0 0 0 0), ((qM 14), .inl (cI, 4, .inl (fun _ => 0)))] := hD
  obtain rfl := p3
  refine lv_aload_n hx hb dL_law_593 rfl (lv_at hl 2 rfl) ?_
  refine lv_aload_n hx hb dL_law_594 rfl (lv_at hl 0 rfl) ?_
  refine lv_iload_n hx hb dL_law_595 rfl (lv_at hl 3 rfl) ?_
  refine lv_iconst (v := 1) hx hb dL_law_596 (by decide +kernel) ?_
  refine lv_iadd hx hb dL_law_597 ?_
  refine g_top 1 (by decide +kernel) ?_
  refine va_sld hx hb hX hbl hbA hS (vp_in_iff.mpr ⟨by decide +kernel, by decide +kernel⟩) dL_law_598 ?_
  refine g_top x1 ex1.symm ?_
  refine lv_aload_n hx hb dL_law_599 rfl (lv_at hl 0 rfl) ?_
  refine lv_iload_n hx hb dL_law_600 rfl (lv_at hl 3 rfl) ?_
  refine lv_iconst (v := 2) hx hb dL_law_601 (by decide +kernel) ?_
  refine lv_iadd hx hb dL_law_602 ?_
  refine g_top 2 (by decide +kernel) ?_
  refine va_sld hx hb hX hbl hbA hS (vp_in_iff.mpr ⟨by decide +kernel, by decide +kernel⟩) dL_law_603 ?_
  refine g_top x2 ex2.symm ?_
  refine g_ai (D := D) (wc := [(aM, oM qM 0 0 0 0 0 0 0 0 0 0 0 0 0 0 0 0 0 0), ((qM 14), .inl (cI, 4, .inl (fun _ => 0)))]) (wr := []) hP hD hS hA [0, 1] [] rfl rfl rfl rfl (by decide) (fun hPc hDc => va_runV (As := [.int x1, .int x2]) (rest := [.int 0]) hF (c_X12_health (l := l) (D := D) (cI := cI) (cB := cB) (cS := cS) (cZ := cZ) (cW := cW) (aM := aM) (y0 := x1) (y1 := x2) (qM := qM)) (cwV 2 hts (gGV GL_sub wm_717 wm_718 wm_719 wm_550 wm_720) rfl rfl rfl (by decide +kernel) ⟨Nat.le_of_ble_eq_true rfl, Nat.le_of_ble_eq_true rfl⟩) (g_preV (q := (RX12, TX12, 97)) (ci := 12) (q0 := 0) hE hPc hDc rfl rfl) rfl rfl hl.1 rfl (lv_room (Nat.le_of_ble_eq_true rfl)) dL_law_604 ⟨Nat.le_of_ble_eq_true rfl, Nat.le_of_ble_eq_true rfl⟩) (fun r4 u5 H locs p6 hP hD hS => ?_)
  have hP : va_P D vwCl [] H := hP
  have hD : va_D A [] := hD
  obtain rfl := p6
  refine lv_icmp_eq (tgt := 1880) hx hb dL_law_607 (by decide) (fun _ => ?_) (fun c9 => absurd rfl c9)
  rw [hAe] at hS
  exact law_tail C0 hS (lv_sub hl [0, 3] rfl) (Nat.le_of_ble_eq_true rfl) (Nat.le_of_ble_eq_true rfl)
set_option maxHeartbeats 8000000 in
set_option maxRecDepth 100000 in
theorem law_case_10 {p : Program} {l : Launch} {e : Env} {s : State} {m : MethodId} {below : List Frame} {meth : Method} {c : Code} {b : Nat} {xs : Nat → Int32} {D : va_G} {cI cB cS cZ cW : ClassId} {aL : Nat} {qL : Nat → Nat} {qW : Nat → Nat} {qP : Nat → Nat} {aM : Nat} {qM : Nat → Nat} (C0 : lw_At p s m meth c b 6 xs) (hE : gE D (gT cI cB cS cZ cW) s) : ∀ {H : Heap} {locs : List Loc} {ls : Array Slot}, va_P D vwCl [(aL, .inr (11, [.ref (qL 0), .ref (qL 1), .null, .null, .null, .null, .null])), ((qL 0), .inr (10, [.int 0, .ref (qW 1), .ref (qW 2), .ref (qW 3), .ref (qW 4), .ref (qW 5)])), ((qW 2), .inr (6, [.int 0, .ref (qP 1), .ref (qP 2), .ref (qP 3), .ref (qP 4), .ref (qP 5), .ref (qP 6), .ref (qP 7), .ref (qP 8), .ref (qP 9), .ref (qP 10), .ref (qP 11), .ref (qP 12), .ref (qP 13), .ref (qP 14)])), (aM, oM qM 0 0 0 0 0 0 0 0 0 0 0 0 0 0 0 0 0 0), ((qM 14), .inl (cI, 4, .inl (fun _ => 0)))] H → va_D (fun q : Nat => s.heap.size ≤ q) [(aL, .inr (11, [.ref (qL 0), .ref (qL 1), .null, .null, .null, .null, .null])), ((qL 0), .inr (10, [.int 0, .ref (qW 1), .ref (qW 2), .ref (qW 3), .ref (qW 4), .ref (qW 5)])), ((qW 2), .inr (6, [.int 0, .ref (qP 1), .ref (qP 2), .ref (qP 3), .ref (qP 4), .ref (qP 5), .ref (qP 6), .ref (qP 7), .ref (qP 8), .ref (qP 9), .ref (qP 10), .ref (qP 11), .ref (qP 12), .ref (qP 13), .ref (qP 14)])), (aM, oM qM 0 0 0 0 0 0 0 0 0 0 0 0 0 0 0 0 0 0), ((qM 14), .inl (cI, 4, .inl (fun _ => 0)))] → va_S (fun q : Nat => s.heap.size ≤ q) s.heap H locs → lv_has ls 4 [(0, .ref b), (1, .ref aL), (2, .ref aM), (3, .int 0)] → W p l e room_1 s m #[Value.ref b] below meth c H locs 136 31006 (lw_Z below #[Value.ref b] s) (F0 m 612 ls []) := by
  obtain ⟨hx, hb, hr, hml, hown, hts0, hX, hbl, hlocks, hgv⟩ := id C0
  have htg : ∀ w ∈ GL, w.before #[Value.ref b] s = true := fun w h => hts0 w (GL_sub w h)
  have hts := hts0
  have hown : s.vm.findClass RL = some m.cls := hown
  have hF : CallFix p m c cL_law 4 s #[Value.ref b] lw_tbl RL := ⟨hx, hb, hml, hown, hts⟩
  have hbA : ¬ (fun q : Nat => s.heap.size ≤ q) b := Nat.not_le.mpr hbl
  obtain ⟨A, hAe⟩ : ∃ A : Nat → Prop, A = (fun q : Nat => s.heap.size ≤ q) := ⟨_, rfl⟩
  have hA : ∀ q, s.heap.size ≤ q → A q := fun q h => by rw [hAe]; exact h
  rw [← hAe]
  rw [← hAe] at hbA
  intro H locs ls hP hD hS hl
  obtain ⟨x1, ex1⟩ : ∃ y : Int32, y = xs (1 : Int32).toNatClampNeg := ⟨_, rfl⟩
  obtain ⟨x2, ex2⟩ : ∃ y : Int32, y = xs (2 : Int32).toNatClampNeg := ⟨_, rfl⟩
  have z0 := t_0
  have z1 := t_1
  have z2 := t_2
  refine lv_aload_n hx hb dL_law_612 rfl (lv_at hl 1 rfl) ?_
  refine lv_aload_n hx hb dL_law_613 rfl (lv_at hl 0 rfl) ?_
  refine lv_iload_n hx hb dL_law_614 rfl (lv_at hl 3 rfl) ?_
  refine lv_iconst (v := 1) hx hb dL_law_615 (by decide +kernel) ?_
  refine lv_iadd hx hb dL_law_616 ?_
  refine g_top 1 (by decide +kernel) ?_
  refine va_sld hx hb hX hbl hbA hS (vp_in_iff.mpr ⟨by decide +kernel, by decide +kernel⟩) dL_law_617 ?_
  refine g_top x1 ex1.symm ?_
  refine lv_aload_n hx hb dL_law_618 rfl (lv_at hl 0 rfl) ?_
  refine lv_iload_n hx hb dL_law_619 rfl (lv_at hl 3 rfl) ?_
  refine lv_iconst (v := 2) hx hb dL_law_620 (by decide +kernel) ?_
  refine lv_iadd hx hb dL_law_621 ?_
  refine g_top 2 (by decide +kernel) ?_
  refine va_sld hx hb hX hbl hbA hS (vp_in_iff.mpr ⟨by decide +kernel, by decide +kernel⟩) dL_law_622 ?_
  refine g_top x2 ex2.symm ?_
  refine g_ai (D := D) (wc := [(aL, .inr (11, [.ref (qL 0), .ref (qL 1), .null, .null, .null, .null, .null])), ((qL 0), .inr (10, [.int 0, .ref (qW 1), .ref (qW 2), .ref (qW 3), .ref (qW 4), .ref (qW 5)])), ((qW 2), .inr (6, [.int 0, .ref (qP 1), .ref (qP 2), .ref (qP 3), .ref (qP 4), .ref (qP 5), .ref (qP 6), .ref (qP 7), .ref (qP 8), .ref (qP 9), .ref (qP 10), .ref (qP 11), .ref (qP 12), .ref (qP 13), .ref (qP 14)]))]) (wr := [(aM, oM qM 0 0 0 0 0 0 0 0 0 0 0 0 0 0 0 0 0 0), ((qM 14), .inl (cI, 4, .inl (fun _ => 0)))]) hP hD hS hA [0, 1, 2] [3, 4] rfl rfl rfl rfl (by decide) (fun hPc hDc => va_runV (As := [.int x1, .int x2]) (rest := []) hF (c_X11_go (l := l) (D := D) (cI := cI) (cB := cB) (cS := cS) (cZ := cZ) (cW := cW) (aL := aL) (y0 := x1) (y1 := x2) (qL := qL) (qW := qW) (qP := qP)) (cwV 2 hts (gGV GL_sub wm_721 wm_722 wm_723 wm_151 wm_724) rfl rfl rfl (by decide +kernel) ⟨Nat.le_of_ble_eq_true rfl, Nat.le_of_ble_eq_true rfl⟩) (g_preV (q := (RX11, TX11, 7)) (ci := 11) (q0 := 0) hE hPc hDc rfl rfl) rfl rfl hl.1 rfl (lv_room (Nat.le_of_ble_eq_true rfl)) dL_law_623 ⟨Nat.le_of_ble_eq_true rfl, Nat.le_of_ble_eq_true rfl⟩) (fun r1 u2 H locs p3 hP hD hS => ?_)
  have hP : va_P D vwCl [(aM, oM qM 0 0 0 0 0 0 0 0 0 0 0 0 0 0 0 0 0 0), ((qM 14), .inl (cI, 4, .inl (fun _ => 0)))] H := hP
  have hD : va_D A [(aM, oM qM 0 0 0 0 0 0 0 0 0 0 0 0 0 0 0 0 0 0), ((qM 14), .inl (cI, 4, .inl (fun _ => 0)))] := hD
  obtain rfl := p3
  refine lv_aload_n hx hb dL_law_626 rfl (lv_at hl 2 rfl) ?_
  refine lv_aload_n hx hb dL_law_627 rfl (lv_at hl 0 rfl) ?_
  refine lv_iload_n hx hb dL_law_628 rfl (lv_at hl 3 rfl) ?_
  refine lv_iconst (v := 1) hx hb dL_law_629 (by decide +kernel) ?_
  refine lv_iadd hx hb dL_law_630 ?_
  refine g_top 1 (by decide +kernel) ?_
  refine va_sld hx hb hX hbl hbA hS (vp_in_iff.mpr ⟨by decide +kernel, by decide +kernel⟩) dL_law_631 ?_
  refine g_top x1 ex1.symm ?_
  refine lv_aload_n hx hb dL_law_632 rfl (lv_at hl 0 rfl) ?_
  refine lv_iload_n hx hb dL_law_633 rfl (lv_at hl 3 rfl) ?_
  refine lv_iconst (v := 2) hx hb dL_law_634 (by decide +kernel) ?_
  refine lv_iadd hx hb dL_law_635 ?_
  refine g_top 2 (by decide +kernel) ?_
  refine va_sld hx hb hX hbl hbA hS (vp_in_iff.mpr ⟨by decide +kernel, by decide +kernel⟩) dL_law_636 ?_
  refine g_top x2 ex2.symm ?_
  refine g_ai (D := D) (wc := [(aM, oM qM 0 0 0 0 0 0 0 0 0 0 0 0 0 0 0 0 0 0), ((qM 14), .inl (cI, 4, .inl (fun _ => 0)))]) (wr := []) hP hD hS hA [0, 1] [] rfl rfl rfl rfl (by decide) (fun hPc hDc => va_runV (As := [.int x1, .int x2]) (rest := [.int 0]) hF (c_X12_go (l := l) (D := D) (cI := cI) (cB := cB) (cS := cS) (cZ := cZ) (cW := cW) (aM := aM) (y0 := x1) (y1 := x2) (qM := qM)) (cwV 2 hts (gGV GL_sub wm_725 wm_726 wm_727 wm_550 wm_728) rfl rfl rfl (by decide +kernel) ⟨Nat.le_of_ble_eq_true rfl, Nat.le_of_ble_eq_true rfl⟩) (g_preV (q := (RX12, TX12, 97)) (ci := 12) (q0 := 0) hE hPc hDc rfl rfl) rfl rfl hl.1 rfl (lv_room (Nat.le_of_ble_eq_true rfl)) dL_law_637 ⟨Nat.le_of_ble_eq_true rfl, Nat.le_of_ble_eq_true rfl⟩) (fun r4 u5 H locs p6 hP hD hS => ?_)
  have hP : va_P D vwCl [] H := hP
  have hD : va_D A [] := hD
  obtain rfl := p6
  refine lv_icmp_eq (tgt := 1880) hx hb dL_law_640 (by decide) (fun _ => ?_) (fun c9 => absurd rfl c9)
  rw [hAe] at hS
  exact law_tail C0 hS (lv_sub hl [0, 3] rfl) (Nat.le_of_ble_eq_true rfl) (Nat.le_of_ble_eq_true rfl)
set_option maxHeartbeats 8000000 in
set_option maxRecDepth 100000 in
theorem law_case_11 {p : Program} {l : Launch} {e : Env} {s : State} {m : MethodId} {below : List Frame} {meth : Method} {c : Code} {b : Nat} {xs : Nat → Int32} {D : va_G} {cI cB cS cZ cW : ClassId} {aL : Nat} {qL : Nat → Nat} {qW : Nat → Nat} {qP : Nat → Nat} {aM : Nat} {qM : Nat → Nat} (C0 : lw_At p s m meth c b 6 xs) (hE : gE D (gT cI cB cS cZ cW) s) : ∀ {H : Heap} {locs : List Loc} {ls : Array Slot}, va_P D vwCl [(aL, .inr (11, [.ref (qL 0), .ref (qL 1), .null, .null, .null, .null, .null])), ((qL 0), .inr (10, [.int 0, .ref (qW 1), .ref (qW 2), .ref (qW 3), .ref (qW 4), .ref (qW 5)])), ((qW 2), .inr (6, [.int 0, .ref (qP 1), .ref (qP 2), .ref (qP 3), .ref (qP 4), .ref (qP 5), .ref (qP 6), .ref (qP 7), .ref (qP 8), .ref (qP 9), .ref (qP 10), .ref (qP 11), .ref (qP 12), .ref (qP 13), .ref (qP 14)])), (aM, oM qM 0 0 0 0 0 0 0 0 0 0 0 0 0 0 0 0 0 0), ((qM 5), .inl (cI, 4, .inl (fun _ => 0))), ((qM 14), .inl (cI, 4, .inl (fun _ => 0)))] H → va_D (fun q : Nat => s.heap.size ≤ q) [(aL, .inr (11, [.ref (qL 0), .ref (qL 1), .null, .null, .null, .null, .null])), ((qL 0), .inr (10, [.int 0, .ref (qW 1), .ref (qW 2), .ref (qW 3), .ref (qW 4), .ref (qW 5)])), ((qW 2), .inr (6, [.int 0, .ref (qP 1), .ref (qP 2), .ref (qP 3), .ref (qP 4), .ref (qP 5), .ref (qP 6), .ref (qP 7), .ref (qP 8), .ref (qP 9), .ref (qP 10), .ref (qP 11), .ref (qP 12), .ref (qP 13), .ref (qP 14)])), (aM, oM qM 0 0 0 0 0 0 0 0 0 0 0 0 0 0 0 0 0 0), ((qM 5), .inl (cI, 4, .inl (fun _ => 0))), ((qM 14), .inl (cI, 4, .inl (fun _ => 0)))] → va_S (fun q : Nat => s.heap.size ≤ q) s.heap H locs → lv_has ls 4 [(0, .ref b), (1, .ref aL), (2, .ref aM), (3, .int 0)] → W p l e room_1 s m #[Value.ref b] below meth c H locs 136 31006 (lw_Z below #[Value.ref b] s) (F0 m 645 ls []) := by
  obtain ⟨hx, hb, hr, hml, hown, hts0, hX, hbl, hlocks, hgv⟩ := id C0
  have htg : ∀ w ∈ GL, w.before #[Value.ref b] s = true := fun w h => hts0 w (GL_sub w h)
  have hts := hts0
  have hown : s.vm.findClass RL = some m.cls := hown
  have hF : CallFix p m c cL_law 4 s #[Value.ref b] lw_tbl RL := ⟨hx, hb, hml, hown, hts⟩
  have hbA : ¬ (fun q : Nat => s.heap.size ≤ q) b := Nat.not_le.mpr hbl
  obtain ⟨A, hAe⟩ : ∃ A : Nat → Prop, A = (fun q : Nat => s.heap.size ≤ q) := ⟨_, rfl⟩
  have hA : ∀ q, s.heap.size ≤ q → A q := fun q h => by rw [hAe]; exact h
  rw [← hAe]
  rw [← hAe] at hbA
  intro H locs ls hP hD hS hl
  have z1 := t_1
  refine lv_aload_n hx hb dL_law_645 rfl (lv_at hl 1 rfl) ?_
  refine g_ai (D := D) (wc := [(aL, .inr (11, [.ref (qL 0), .ref (qL 1), .null, .null, .null, .null, .null])), ((qL 0), .inr (10, [.int 0, .ref (qW 1), .ref (qW 2), .ref (qW 3), .ref (qW 4), .ref (qW 5)])), ((qW 2), .inr (6, [.int 0, .ref (qP 1), .ref (qP 2), .ref (qP 3), .ref (qP 4), .ref (qP 5), .ref (qP 6), .ref (qP 7), .ref (qP 8), .ref (qP 9), .ref (qP 10), .ref (qP 11), .ref (qP 12), .ref (qP 13), .ref (qP 14)]))]) (wr := [(aM, oM qM 0 0 0 0 0 0 0 0 0 0 0 0 0 0 0 0 0 0), ((qM 5), .inl (cI, 4, .inl (fun _ => 0))), ((qM 14), .inl (cI, 4, .inl (fun _ => 0)))]) hP hD hS hA [0, 1, 2] [3, 4, 5] rfl rfl rfl rfl (by decide) (fun hPc hDc => va_runV (As := []) (rest := []) hF (c_X11_day (l := l) (D := D) (cI := cI) (cB := cB) (cS := cS) (cZ := cZ) (cW := cW) (aL := aL) (qL := qL) (qW := qW) (qP := qP)) (cwV 0 hts (gGV GL_sub wm_729 wm_730 wm_731 wm_151 wm_732) rfl rfl rfl (by decide +kernel) ⟨Nat.le_of_ble_eq_true rfl, Nat.le_of_ble_eq_true rfl⟩) (g_preV (q := (RX11, TX11, 7)) (ci := 11) (q0 := 0) hE hPc hDc rfl rfl) rfl rfl hl.1 rfl (lv_room (Nat.le_of_ble_eq_true rfl)) dL_law_646 ⟨Nat.le_of_ble_eq_true rfl, Nat.le_of_ble_eq_true rfl⟩) (fun r1 u2 H locs p3 hP hD hS => ?_)
  have hP : va_P D vwCl [(aM, oM qM 0 0 0 0 0 0 0 0 0 0 0 0 0 0 0 0 0 0), ((qM 5), .inl (cI, 4, .inl (fun _ => 0))), ((qM 14), .inl (cI, 4, .inl (fun _ => 0)))] H := hP
  have hD : va_D A [(aM, oM qM 0 0 0 0 0 0 0 0 0 0 0 0 0 0 0 0 0 0), ((qM 5), .inl (cI, 4, .inl (fun _ => 0))), ((qM 14), .inl (cI, 4, .inl (fun _ => 0)))] := hD
  obtain rfl := p3
  refine lv_aload_n hx hb dL_law_649 rfl (lv_at hl 2 rfl) ?_
  refine g_ai (D := D) (wc := [(aM, oM qM 0 0 0 0 0 0 0 0 0 0 0 0 0 0 0 0 0 0), ((qM 5), .inl (cI, 4, .inl (fun _ => 0))), ((qM 14), .inl (cI, 4, .inl (fun _ => 0)))]) (wr := []) hP hD hS hA [0, 1, 2] [] rfl rfl rfl rfl (by decide) (fun hPc hDc => va_runV (As := []) (rest := [.int 1]) hF (c_X12_day (l := l) (D := D) (cI := cI) (cB := cB) (cS := cS) (cZ := cZ) (cW := cW) (aM := aM) (qM := qM)) (cwV 0 hts (gGV GL_sub wm_733 wm_734 wm_735 wm_550 wm_736) rfl rfl rfl (by decide +kernel) ⟨Nat.le_of_ble_eq_true rfl, Nat.le_of_ble_eq_true rfl⟩) (g_preV (q := (RX12, TX12, 97)) (ci := 12) (q0 := 0) hE hPc hDc rfl rfl) rfl rfl hl.1 rfl (lv_room (Nat.le_of_ble_eq_true rfl)) dL_law_650 ⟨Nat.le_of_ble_eq_true rfl, Nat.le_of_ble_eq_true rfl⟩) (fun r4 u5 H locs p6 hP hD hS => ?_)
  have hP : va_P D vwCl [] H := hP
  have hD : va_D A [] := hD
  obtain rfl := p6
  refine lv_icmp_eq (tgt := 1880) hx hb dL_law_653 (by decide) (fun _ => ?_) (fun c9 => absurd rfl c9)
  rw [hAe] at hS
  exact law_tail C0 hS (lv_sub hl [0, 3] rfl) (Nat.le_of_ble_eq_true rfl) (Nat.le_of_ble_eq_true rfl)
