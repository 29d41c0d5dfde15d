set_option maxHeartbeats 8000000 in
set_option maxRecDepth 100000 in
theorem law_case_12 {p : Program} {l : Launch} {e : Env} {s : State} {m : MethodId} {below : List Frame} {meth : Method} {c : Code} {b : Nat} {xs : Nat → Int32} {D : va_G} {cI cB cS cZ cW : ClassId} {aL : Nat} {qL : Nat → Nat} {qW : Nat → Nat} {qP : Nat → Nat} {aM : Nat} {qM : Nat → Nat} (C0 : lw_At p s m meth c b 6 xs) (hE : gE D (gT cI cB cS cZ cW) s) : ∀ {H : Heap} {locs : List Loc} {ls : Array Slot}, va_P D vwCl [(aL, .inr (11, [.ref (qL 0), .ref (qL 1), .null, .null, .null, .null, .null])), ((qL 0), .inr (10, [.int 0, .ref (qW 1), .ref (qW 2), .ref (qW 3), .ref (qW 4), .ref (qW 5)])), ((qW 2), .inr (6, [.int 0, .ref (qP 1), .ref (qP 2), .ref (qP 3), .ref (qP 4), .ref (qP 5), .ref (qP 6), .ref (qP 7), .ref (qP 8), .ref (qP 9), .ref (qP 10), .ref (qP 11), .ref (qP 12), .ref (qP 13), .ref (qP 14)])), (aM, oM qM 0 0 0 0 0 0 0 0 0 0 0 0 0 0 0 0 0 0), ((qM 14), .inl (cI, 4, .inl (fun _ => 0)))] H → va_D (fun q : Nat => s.heap.size ≤ q) [(aL, .inr (11, [.ref (qL 0), .ref (qL 1), .null, .null, .null, .null, .null])), ((qL 0), .inr (10, [.int 0, .ref (qW 1), .ref (qW 2), .ref (qW 3), .ref (qW 4), .ref (qW 5)])), ((qW 2), .inr (6, [.int 0, .ref (qP 1), .ref (qP 2), .ref (qP 3), .ref (qP 4), .ref (qP 5), .ref (qP 6), .ref (qP 7), .ref (qP 8), .ref (qP 9), .ref (qP 10), .ref (qP 11), .ref (qP 12), .ref (qP 13), .ref (qP 14)])), (aM, oM qM 0 0 0 0 0 0 0 0 0 0 0 0 0 0 0 0 0 0), ((qM 14), .inl (cI, 4, .inl (fun _ => 0)))] → va_S (fun q : Nat => s.heap.size ≤ q) s.heap H locs → lv_has ls 4 [(0, .ref b), (1, .ref aL), (2, .ref aM), (3, .int 0)] → W p l e room_1 s m #[Value.ref b] below meth c H locs 136 31006 (lw_Z below #[Value.ref b] s) (F0 m 658 ls []) := by
  obtain ⟨hx, hb, hr, hml, hown, hts0, hX, hbl, hlocks, hgv⟩ := id C0
  have htg : ∀ w ∈ GL, w.before #[Value.ref b] s = true := fun w h => hts0 w (GL_sub w h)
  have hts := hts0
  have hown : s.vm.findClass RL = some m.cls := hown
  have hF : CallFix p m c cL_law 4 s #[Value.ref b] lw_tbl RL := ⟨hx, hb, hml, hown, hts⟩
  have hbA : ¬ (fun q : Nat => s.heap.size ≤ q) b := Nat.not_le.mpr hbl
  obtain ⟨A, hAe⟩ : ∃ A : Nat → Prop, A = (fun q : Nat => s.heap.size ≤ q) := ⟨_, rfl⟩
  have hA : ∀ q, s.heap.size ≤ q → A q := fun q h => by rw [hAe]; exact h
  rw [← hAe]
  rw [← hAe] at hbA
  intro H locs ls hP hD hS hl
  obtain ⟨x1, ex1⟩ : ∃ y : Int32, y = xs (1 : Int32).toNatClampNeg := ⟨_, rfl⟩
  obtain ⟨x2, ex2⟩ : ∃ y : Int32, y = xs (2 : Int32).toNatClampNeg := ⟨_, rfl⟩
  have zm100 := tm_100
  have z1 := t_1
  have z2 := t_2
  refine lv_aload_n hx hb dL_law_658 rfl (lv_at hl 1 rfl) ?_
  refine lv_aload_n hx hb dL_law_659 rfl (lv_at hl 0 rfl) ?_
  refine lv_iload_n hx hb dL_law_660 rfl (lv_at hl 3 rfl) ?_
  refine lv_iconst (v := 1) hx hb dL_law_661 (by decide +kernel) ?_
  refine lv_iadd hx hb dL_law_662 ?_
  refine g_top 1 (by decide +kernel) ?_
  refine va_sld hx hb hX hbl hbA hS (vp_in_iff.mpr ⟨by decide +kernel, by decide +kernel⟩) dL_law_663 ?_
  refine g_top x1 ex1.symm ?_
  refine lv_aload_n hx hb dL_law_664 rfl (lv_at hl 0 rfl) ?_
  refine lv_iload_n hx hb dL_law_665 rfl (lv_at hl 3 rfl) ?_
  refine lv_iconst (v := 2) hx hb dL_law_666 (by decide +kernel) ?_
  refine lv_iadd hx hb dL_law_667 ?_
  refine g_top 2 (by decide +kernel) ?_
  refine va_sld hx hb hX hbl hbA hS (vp_in_iff.mpr ⟨by decide +kernel, by decide +kernel⟩) dL_law_668 ?_
  refine g_top x2 ex2.symm ?_
  refine g_ai (D := D) (wc := [(aL, .inr (11, [.ref (qL 0), .ref (qL 1), .null, .null, .null, .null, .null])), ((qL 0), .inr (10, [.int 0, .ref (qW 1), .ref (qW 2), .ref (qW 3), .ref (qW 4), .ref (qW 5)])), ((qW 2), .inr (6, [.int 0, .ref (qP 1), .ref (qP 2), .ref (qP 3), .ref (qP 4), .ref (qP 5), .ref (qP 6), .ref (qP 7), .ref (qP 8), .ref (qP 9), .ref (qP 10), .ref (qP 11), .ref (qP 12), .ref (qP 13), .ref (qP 14)]))]) (wr := [(aM, oM qM 0 0 0 0 0 0 0 0 0 0 0 0 0 0 0 0 0 0), ((qM 14), .inl (cI, 4, .inl (fun _ => 0)))]) hP hD hS hA [0, 1, 2] [3, 4] rfl rfl rfl rfl (by decide) (fun hPc hDc => va_runV (As := [.int x1, .int x2]) (rest := []) hF (c_X11_tell (l := l) (D := D) (cI := cI) (cB := cB) (cS := cS) (cZ := cZ) (cW := cW) (aL := aL) (y0 := x1) (y1 := x2) (qL := qL) (qW := qW) (qP := qP)) (cwV 2 hts (gGV GL_sub wm_737 wm_738 wm_739 wm_151 wm_740) rfl rfl rfl (by decide +kernel) ⟨Nat.le_of_ble_eq_true rfl, Nat.le_of_ble_eq_true rfl⟩) (g_preV (q := (RX11, TX11, 7)) (ci := 11) (q0 := 0) hE hPc hDc rfl rfl) rfl rfl hl.1 rfl (lv_room (Nat.le_of_ble_eq_true rfl)) dL_law_669 ⟨Nat.le_of_ble_eq_true rfl, Nat.le_of_ble_eq_true rfl⟩) (fun r1 u2 H locs p3 hP hD hS => ?_)
  have hP : va_P D vwCl [(aM, oM qM 0 0 0 0 0 0 0 0 0 0 0 0 0 0 0 0 0 0), ((qM 14), .inl (cI, 4, .inl (fun _ => 0)))] H := hP
  have hD : va_D A [(aM, oM qM 0 0 0 0 0 0 0 0 0 0 0 0 0 0 0 0 0 0), ((qM 14), .inl (cI, 4, .inl (fun _ => 0)))] := hD
  obtain rfl := p3
  refine lv_aload_n hx hb dL_law_672 rfl (lv_at hl 2 rfl) ?_
  refine lv_aload_n hx hb dL_law_673 rfl (lv_at hl 0 rfl) ?_
  refine lv_iload_n hx hb dL_law_674 rfl (lv_at hl 3 rfl) ?_
  refine lv_iconst (v := 1) hx hb dL_law_675 (by decide +kernel) ?_
  refine lv_iadd hx hb dL_law_676 ?_
  refine g_top 1 (by decide +kernel) ?_
  refine va_sld hx hb hX hbl hbA hS (vp_in_iff.mpr ⟨by decide +kernel, by decide +kernel⟩) dL_law_677 ?_
  refine g_top x1 ex1.symm ?_
  refine lv_aload_n hx hb dL_law_678 rfl (lv_at hl 0 rfl) ?_
  refine lv_iload_n hx hb dL_law_679 rfl (lv_at hl 3 rfl) ?_
  refine lv_iconst (v := 2) hx hb dL_law_680 (by decide +kernel) ?_
  refine lv_iadd hx hb dL_law_681 ?_
  refine g_top 2 (by decide +kernel) ?_
  refine va_sld hx hb hX hbl hbA hS (vp_in_iff.mpr ⟨by decide +kernel, by decide +kernel⟩) dL_law_682 ?_
  refine g_top x2 ex2.symm ?_
  refine g_ai (D := D) (wc := [(aM, oM qM 0 0 0 0 0 0 0 0 0 0 0 0 0 0 0 0 0 0), ((qM 14), .inl (cI, 4, .inl (fun _ => 0)))]) (wr := []) hP hD hS hA [0, 1] [] rfl rfl rfl rfl (by decide) (fun hPc hDc => va_runV (As := [.int x1, .int x2]) (rest := [.int (-100)]) hF (c_X12_tell (l := l) (D := D) (cI := cI) (cB := cB) (cS := cS) (cZ := cZ) (cW := cW) (aM := aM) (y0 := x1) (y1 := x2) (qM := qM)) (cwV 2 hts (gGV GL_sub wm_741 wm_742 wm_743 wm_550 wm_744) rfl rfl rfl (by decide +kernel) ⟨Nat.le_of_ble_eq_true rfl, Nat.le_of_ble_eq_true rfl⟩) (g_preV (q := (RX12, TX12, 97)) (ci := 12) (q0 := 0) hE hPc hDc rfl rfl) rfl rfl hl.1 rfl (lv_room (Nat.le_of_ble_eq_true rfl)) dL_law_683 ⟨Nat.le_of_ble_eq_true rfl, Nat.le_of_ble_eq_true rfl⟩) (fun r4 u5 H locs p6 hP hD hS => ?_)
  have hP : va_P D vwCl [] H := hP
  have hD : va_D A [] := hD
  obtain rfl := p6
  refine lv_icmp_eq (tgt := 1880) hx hb dL_law_686 (by decide) (fun _ => ?_) (fun c9 => absurd rfl c9)
  rw [hAe] at hS
  exact law_tail C0 hS (lv_sub hl [0, 3] rfl) (Nat.le_of_ble_eq_true rfl) (Nat.le_of_ble_eq_true rfl)
set_option maxHeartbeats 8000000 in
set_option maxRecDepth 100000 in
theorem law_case_13 {p : Program} {l : Launch} {e : Env} {s : State} {m : MethodId} {below : List Frame} {meth : Method} {c : Code} {b : Nat} {xs : Nat → Int32} {D : va_G} {cI cB cS cZ cW : ClassId} {aL : Nat} {qL : Nat → Nat} {qW : Nat → Nat} {qC : Nat → Nat} {aM : Nat} {qM : Nat → Nat} (C0 : lw_At p s m meth c b 6 xs) (hE : gE D (gT cI cB cS cZ cW) s) : ∀ {H : Heap} {locs : List Loc} {ls : Array Slot}, va_P D vwCl [(aL, .inr (11, [.ref (qL 0), .ref (qL 1), .null, .null, .null, .null, .null])), ((qL 0), .inr (10, [.int 0, .ref (qW 1), .ref (qW 2), .ref (qW 3), .ref (qW 4), .ref (qW 5)])), ((qW 3), .inr (2, [.ref (qC 0), .int 0, .int 0, .int (-1), .int 0, .ref (qC 5), .ref (qC 6), .ref (qC 7), .ref (qC 8), .ref (qC 9), .ref (qC 10)])), ((qC 0), .inl (cI, 500, .inl (fun _ => 0))), (aM, oM qM 0 0 0 0 0 0 0 0 0 0 0 0 0 0 0 0 0 0), ((qM 1), .inl (cB, 2000, .inl (fun _ => 0))), ((qM 2), .inl (cI, 4, .inl (fun _ => 0)))] H → va_D (fun q : Nat => s.heap.size ≤ q) [(aL, .inr (11, [.ref (qL 0), .ref (qL 1), .null, .null, .null, .null, .null])), ((qL 0), .inr (10, [.int 0, .ref (qW 1), .ref (qW 2), .ref (qW 3), .ref (qW 4), .ref (qW 5)])), ((qW 3), .inr (2, [.ref (qC 0), .int 0, .int 0, .int (-1), .int 0, .ref (qC 5), .ref (qC 6), .ref (qC 7), .ref (qC 8), .ref (qC 9), .ref (qC 10)])), ((qC 0), .inl (cI, 500, .inl (fun _ => 0))), (aM, oM qM 0 0 0 0 0 0 0 0 0 0 0 0 0 0 0 0 0 0), ((qM 1), .inl (cB, 2000, .inl (fun _ => 0))), ((qM 2), .inl (cI, 4, .inl (fun _ => 0)))] → va_S (fun q : Nat => s.heap.size ≤ q) s.heap H locs → lv_has ls 4 [(0, .ref b), (1, .ref aL), (2, .ref aM), (3, .int 0)] → W p l e room_1 s m #[Value.ref b] below meth c H locs 136 31006 (lw_Z below #[Value.ref b] s) (F0 m 691 ls []) := by
  obtain ⟨hx, hb, hr, hml, hown, hts0, hX, hbl, hlocks, hgv⟩ := id C0
  have htg : ∀ w ∈ GL, w.before #[Value.ref b] s = true := fun w h => hts0 w (GL_sub w h)
  have hts := hts0
  have hown : s.vm.findClass RL = some m.cls := hown
  have hF : CallFix p m c cL_law 4 s #[Value.ref b] lw_tbl RL := ⟨hx, hb, hml, hown, hts⟩
  have hbA : ¬ (fun q : Nat => s.heap.size ≤ q) b := Nat.not_le.mpr hbl
  obtain ⟨A, hAe⟩ : ∃ A : Nat → Prop, A = (fun q : Nat => s.heap.size ≤ q) := ⟨_, rfl⟩
  have hA : ∀ q, s.heap.size ≤ q → A q := fun q h => by rw [hAe]; exact h
  rw [← hAe]
  rw [← hAe] at hbA
  intro H locs ls hP hD hS hl
  obtain ⟨x1, ex1⟩ : ∃ y : Int32, y = xs (1 : Int32).toNatClampNeg := ⟨_, rfl⟩
  obtain ⟨x2, ex2⟩ : ∃ y : Int32, y = xs (2 : Int32).toNatClampNeg := ⟨_, rfl⟩
  obtain ⟨x3, ex3⟩ : ∃ y : Int32, y = xs (3 : Int32).toNatClampNeg := ⟨_, rfl⟩
  obtain ⟨x4, ex4⟩ : ∃ y : Int32, y = xs (4 : Int32).toNatClampNeg := ⟨_, rfl⟩
  obtain ⟨x5, ex5⟩ : ∃ y : Int32, y = xs (5 : Int32).toNatClampNeg := ⟨_, rfl⟩
  have z1 := t_1
  have z2 := t_2
  have z3 := t_3
  have z4 := t_4
  have z5 := t_5
  have z20 := t_20
  refine lv_aload_n hx hb dL_law_691 rfl (lv_at hl 1 rfl) ?_
  refine lv_aload_n hx hb dL_law_692 rfl (lv_at hl 0 rfl) ?_
  refine lv_iload_n hx hb dL_law_693 rfl (lv_at hl 3 rfl) ?_
  refine lv_iconst (v := 1) hx hb dL_law_694 (by decide +kernel) ?_
  refine lv_iadd hx hb dL_law_695 ?_
  refine g_top 1 (by decide +kernel) ?_
  refine va_sld hx hb hX hbl hbA hS (vp_in_iff.mpr ⟨by decide +kernel, by decide +kernel⟩) dL_law_696 ?_
  refine g_top x1 ex1.symm ?_
  refine lv_aload_n hx hb dL_law_697 rfl (lv_at hl 0 rfl) ?_
  refine lv_iload_n hx hb dL_law_698 rfl (lv_at hl 3 rfl) ?_
  refine lv_iconst (v := 2) hx hb dL_law_699 (by decide +kernel) ?_
  refine lv_iadd hx hb dL_law_700 ?_
  refine g_top 2 (by decide +kernel) ?_
  refine va_sld hx hb hX hbl hbA hS (vp_in_iff.mpr ⟨by decide +kernel, by decide +kernel⟩) dL_law_701 ?_
  refine g_top x2 ex2.symm ?_
  refine lv_aload_n hx hb dL_law_702 rfl (lv_at hl 0 rfl) ?_
  refine lv_iload_n hx hb dL_law_703 rfl (lv_at hl 3 rfl) ?_
  refine lv_iconst (v := 3) hx hb dL_law_704 (by decide +kernel) ?_
  refine lv_iadd hx hb dL_law_705 ?_
  refine g_top 3 (by decide +kernel) ?_
  refine va_sld hx hb hX hbl hbA hS (vp_in_iff.mpr ⟨by decide +kernel, by decide +kernel⟩) dL_law_706 ?_
  refine g_top x3 ex3.symm ?_
  refine lv_aload_n hx hb dL_law_707 rfl (lv_at hl 0 rfl) ?_
  refine lv_iload_n hx hb dL_law_708 rfl (lv_at hl 3 rfl) ?_
  refine lv_iconst (v := 4) hx hb dL_law_709 (by decide +kernel) ?_
  refine lv_iadd hx hb dL_law_710 ?_
  refine g_top 4 (by decide +kernel) ?_
  refine va_sld hx hb hX hbl hbA hS (vp_in_iff.mpr ⟨by decide +kernel, by decide +kernel⟩) dL_law_711 ?_
  refine g_top x4 ex4.symm ?_
  refine lv_aload_n hx hb dL_law_712 rfl (lv_at hl 0 rfl) ?_
  refine lv_iload_n hx hb dL_law_713 rfl (lv_at hl 3 rfl) ?_
  refine lv_iconst (v := 5) hx hb dL_law_714 (by decide +kernel) ?_
  refine lv_iadd hx hb dL_law_715 ?_
  refine g_top 5 (by decide +kernel) ?_
  refine va_sld hx hb hX hbl hbA hS (vp_in_iff.mpr ⟨by decide +kernel, by decide +kernel⟩) dL_law_716 ?_
  refine g_top x5 ex5.symm ?_
  refine g_ai (D := D) (wc := [(aL, .inr (11, [.ref (qL 0), .ref (qL 1), .null, .null, .null, .null, .null])), ((qL 0), .inr (10, [.int 0, .ref (qW 1), .ref (qW 2), .ref (qW 3), .ref (qW 4), .ref (qW 5)])), ((qW 3), .inr (2, [.ref (qC 0), .int 0, .int 0, .int (-1), .int 0, .ref (qC 5), .ref (qC 6), .ref (qC 7), .ref (qC 8), .ref (qC 9), .ref (qC 10)])), ((qC 0), .inl (cI, 500, .inl (fun _ => 0)))]) (wr := [(aM, oM qM 0 0 0 0 0 0 0 0 0 0 0 0 0 0 0 0 0 0), ((qM 1), .inl (cB, 2000, .inl (fun _ => 0))), ((qM 2), .inl (cI, 4, .inl (fun _ => 0)))]) hP hD hS hA [0, 1, 2, 3] [4, 5, 6] rfl rfl rfl rfl (by decide) (fun hPc hDc => va_runV (As := [.int x1, .int x2, .int x3, .int x4, .int x5]) (rest := []) hF (c_X11_feed (l := l) (D := D) (cI := cI) (cB := cB) (cS := cS) (cZ := cZ) (cW := cW) (aL := aL) (y0 := x1) (y1 := x2) (y2 := x3) (y3 := x4) (y4 := x5) (qL := qL) (qW := qW) (qC := qC)) (cwV 5 hts (gGV GL_sub wm_745 wm_746 wm_747 wm_151 wm_748) rfl rfl rfl (by decide +kernel) ⟨Nat.le_of_ble_eq_true rfl, Nat.le_of_ble_eq_true rfl⟩) (g_preV (q := (RX11, TX11, 7)) (ci := 11) (q0 := 0) hE hPc hDc rfl rfl) rfl rfl hl.1 rfl (lv_room (Nat.le_of_ble_eq_true rfl)) dL_law_717 ⟨Nat.le_of_ble_eq_true rfl, Nat.le_of_ble_eq_true rfl⟩) (fun r1 u2 H locs p3 hP hD hS => ?_)
  have hP : va_P D vwCl [(aM, oM qM 0 0 0 0 0 0 0 0 0 0 0 0 0 0 0 0 0 0), ((qM 1), .inl (cB, 2000, .inl (fun _ => 0))), ((qM 2), .inl (cI, 4, .inl (fun _ => 0)))] H := hP
  have hD : va_D A [(aM, oM qM 0 0 0 0 0 0 0 0 0 0 0 0 0 0 0 0 0 0), ((qM 1), .inl (cB, 2000, .inl (fun _ => 0))), ((qM 2), .inl (cI, 4, .inl (fun _ => 0)))] := hD
  obtain rfl := p3
  refine lv_aload_n hx hb dL_law_720 rfl (lv_at hl 2 rfl) ?_
  refine lv_aload_n hx hb dL_law_721 rfl (lv_at hl 0 rfl) ?_
  refine lv_iload_n hx hb dL_law_722 rfl (lv_at hl 3 rfl) ?_
  refine lv_iconst (v := 1) hx hb dL_law_723 (by decide +kernel) ?_
  refine lv_iadd hx hb dL_law_724 ?_
  refine g_top 1 (by decide +kernel) ?_
  refine va_sld hx hb hX hbl hbA hS (vp_in_iff.mpr ⟨by decide +kernel, by decide +kernel⟩) dL_law_725 ?_
  refine g_top x1 ex1.symm ?_
  refine lv_aload_n hx hb dL_law_726 rfl (lv_at hl 0 rfl) ?_
  refine lv_iload_n hx hb dL_law_727 rfl (lv_at hl 3 rfl) ?_
  refine lv_iconst (v := 2) hx hb dL_law_728 (by decide +kernel) ?_
  refine lv_iadd hx hb dL_law_729 ?_
  refine g_top 2 (by decide +kernel) ?_
  refine va_sld hx hb hX hbl hbA hS (vp_in_iff.mpr ⟨by decide +kernel, by decide +kernel⟩) dL_law_730 ?_
  refine g_top x2 ex2.symm ?_
  refine lv_aload_n hx hb dL_law_731 rfl (lv_at hl 0 rfl) ?_
  refine lv_iload_n hx hb dL_law_732 rfl (lv_at hl 3 rfl) ?_
  refine lv_iconst (v := 3) hx hb dL_law_733 (by decide +kernel) ?_
  refine lv_iadd hx hb dL_law_734 ?_
  refine g_top 3 (by decide +kernel) ?_
  refine va_sld hx hb hX hbl hbA hS (vp_in_iff.mpr ⟨by decide +kernel, by decide +kernel⟩) dL_law_735 ?_
  refine g_top x3 ex3.symm ?_
  refine lv_aload_n hx hb dL_law_736 rfl (lv_at hl 0 rfl) ?_
  refine lv_iload_n hx hb dL_law_737 rfl (lv_at hl 3 rfl) ?_
  refine lv_iconst (v := 4) hx hb dL_law_738 (by decide +kernel) ?_
  refine lv_iadd hx hb dL_law_739 ?_
  refine g_top 4 (by decide +kernel) ?_
  refine va_sld hx hb hX hbl hbA hS (vp_in_iff.mpr ⟨by decide +kernel, by decide +kernel⟩) dL_law_740 ?_
  refine g_top x4 ex4.symm ?_
  refine lv_aload_n hx hb dL_law_741 rfl (lv_at hl 0 rfl) ?_
  refine lv_iload_n hx hb dL_law_742 rfl (lv_at hl 3 rfl) ?_
  refine lv_iconst (v := 5) hx hb dL_law_743 (by decide +kernel) ?_
  refine lv_iadd hx hb dL_law_744 ?_
  refine g_top 5 (by decide +kernel) ?_
  refine va_sld hx hb hX hbl hbA hS (vp_in_iff.mpr ⟨by decide +kernel, by decide +kernel⟩) dL_law_745 ?_
  refine g_top x5 ex5.symm ?_
  refine g_ai (D := D) (wc := [(aM, oM qM 0 0 0 0 0 0 0 0 0 0 0 0 0 0 0 0 0 0), ((qM 1), .inl (cB, 2000, .inl (fun _ => 0))), ((qM 2), .inl (cI, 4, .inl (fun _ => 0)))]) (wr := []) hP hD hS hA [0, 1, 2] [] rfl rfl rfl rfl (by decide) (fun hPc hDc => va_runV (As := [.int x1, .int x2, .int x3, .int x4, .int x5]) (rest := [.int 20]) hF (c_X12_feed (l := l) (D := D) (cI := cI) (cB := cB) (cS := cS) (cZ := cZ) (cW := cW) (aM := aM) (y0 := x1) (y1 := x2) (y2 := x3) (y3 := x4) (y4 := x5) (qM := qM)) (cwV 5 hts (gGV GL_sub wm_749 wm_750 wm_751 wm_550 wm_752) rfl rfl rfl (by decide +kernel) ⟨Nat.le_of_ble_eq_true rfl, Nat.le_of_ble_eq_true rfl⟩) (g_preV (q := (RX12, TX12, 97)) (ci := 12) (q0 := 0) hE hPc hDc rfl rfl) rfl rfl hl.1 rfl (lv_room (Nat.le_of_ble_eq_true rfl)) dL_law_746 ⟨Nat.le_of_ble_eq_true rfl, Nat.le_of_ble_eq_true rfl⟩) (fun r4 u5 H locs p6 hP hD hS => ?_)
  have hP : va_P D vwCl [] H := hP
  have hD : va_D A [] := hD
  obtain rfl := p6
  refine lv_icmp_eq (tgt := 1880) hx hb dL_law_749 (by decide) (fun _ => ?_) (fun c9 => absurd rfl c9)
  rw [hAe] at hS
  exact law_tail C0 hS (lv_sub hl [0, 3] rfl) (Nat.le_of_ble_eq_true rfl) (Nat.le_of_ble_eq_true rfl)
set_option maxHeartbeats 8000000 in
set_option maxRecDepth 100000 in
theorem law_case_14 {p : Program} {l : Launch} {e : Env} {s : State} {m : MethodId} {below : List Frame} {meth : Method} {c : Code} {b : Nat} {xs : Nat → Int32} {D : va_G} {cI cB cS cZ cW : ClassId} {aL : Nat} {qL : Nat → Nat} {qW : Nat → Nat} {qC : Nat → Nat} {aM : Nat} {qM : Nat → Nat} (C0 : lw_At p s m meth c b 6 xs) (hE : gE D (gT cI cB cS cZ cW) s) : ∀ {H : Heap} {locs : List Loc} {ls : Array Slot}, va_P D vwCl [(aL, .inr (11, [.ref (qL 0), .ref (qL 1), .null, .null, .null, .null, .null])), ((qL 0), .inr (10, [.int 0, .ref (qW 1), .ref (qW 2), .ref (qW 3), .ref (qW 4), .ref (qW 5)])), ((qW 3), .inr (2, [.ref (qC 0), .int 0, .int 0, .int (-1), .int 0, .ref (qC 5), .ref (qC 6), .ref (qC 7), .ref (qC 8), .ref (qC 9), .ref (qC 10)])), (aM, oM qM 0 0 0 0 0 0 0 0 0 0 0 0 0 0 0 0 0 0), ((qM 2), .inl (cI, 4, .inl (fun _ => 0)))] H → va_D (fun q : Nat => s.heap.size ≤ q) [(aL, .inr (11, [.ref (qL 0), .ref (qL 1), .null, .null, .null, .null, .null])), ((qL 0), .inr (10, [.int 0, .ref (qW 1), .ref (qW 2), .ref (qW 3), .ref (qW 4), .ref (qW 5)])), ((qW 3), .inr (2, [.ref (qC 0), .int 0, .int 0, .int (-1), .int 0, .ref (qC 5), .ref (qC 6), .ref (qC 7), .ref (qC 8), .ref (qC 9), .ref (qC 10)])), (aM, oM qM 0 0 0 0 0 0 0 0 0 0 0 0 0 0 0 0 0 0), ((qM 2), .inl (cI, 4, .inl (fun _ => 0)))] → va_S (fun q : Nat => s.heap.size ≤ q) s.heap H locs → lv_has ls 4 [(0, .ref b), (1, .ref aL), (2, .ref aM), (3, .int 0)] → W p l e room_1 s m #[Value.ref b] below meth c H locs 136 31006 (lw_Z below #[Value.ref b] s) (F0 m 754 ls []) := by
  obtain ⟨hx, hb, hr, hml, hown, hts0, hX, hbl, hlocks, hgv⟩ := id C0
  have htg : ∀ w ∈ GL, w.before #[Value.ref b] s = true := fun w h => hts0 w (GL_sub w h)
  have hts := hts0
  have hown : s.vm.findClass RL = some m.cls := hown
  have hF : CallFix p m c cL_law 4 s #[Value.ref b] lw_tbl RL := ⟨hx, hb, hml, hown, hts⟩
  have hbA : ¬ (fun q : Nat => s.heap.size ≤ q) b := Nat.not_le.mpr hbl
  obtain ⟨A, hAe⟩ : ∃ A : Nat → Prop, A = (fun q : Nat => s.heap.size ≤ q) := ⟨_, rfl⟩
  have hA : ∀ q, s.heap.size ≤ q → A q := fun q h => by rw [hAe]; exact h
  rw [← hAe]
  rw [← hAe] at hbA
  intro H locs ls hP hD hS hl
  obtain ⟨x1, ex1⟩ : ∃ y : Int32, y = xs (1 : Int32).toNatClampNeg := ⟨_, rfl⟩
  have z1 := t_1
  refine lv_aload_n hx hb dL_law_754 rfl (lv_at hl 1 rfl) ?_
  refine lv_aload_n hx hb dL_law_755 rfl (lv_at hl 0 rfl) ?_
  refine lv_iload_n hx hb dL_law_756 rfl (lv_at hl 3 rfl) ?_
  refine lv_iconst (v := 1) hx hb dL_law_757 (by decide +kernel) ?_
  refine lv_iadd hx hb dL_law_758 ?_
  refine g_top 1 (by decide +kernel) ?_
  refine va_sld hx hb hX hbl hbA hS (vp_in_iff.mpr ⟨by decide +kernel, by decide +kernel⟩) dL_law_759 ?_
  refine g_top x1 ex1.symm ?_
  refine g_ai (D := D) (wc := [(aL, .inr (11, [.ref (qL 0), .ref (qL 1), .null, .null, .null, .null, .null])), ((qL 0), .inr (10, [.int 0, .ref (qW 1), .ref (qW 2), .ref (qW 3), .ref (qW 4), .ref (qW 5)])), ((qW 3), .inr (2, [.ref (qC 0), .int 0, .int 0, .int (-1), .int 0, .ref (qC 5), .ref (qC 6), .ref (qC 7), .ref (qC 8), .ref (qC 9), .ref (qC 10)]))]) (wr := [(aM, oM qM 0 0 0 0 0 0 0 0 0 0 0 0 0 0 0 0 0 0), ((qM 2), .inl (cI, 4, .inl (fun _ => 0)))]) hP hD hS hA [0, 1, 2] [3, 4] rfl rfl rfl rfl (by decide) (fun hPc hDc => va_runV (As := [.int x1]) (rest := []) hF (c_X11_end (l := l) (D := D) (cI := cI) (cB := cB) (cS := cS) (cZ := cZ) (cW := cW) (aL := aL) (y0 := x1) (qL := qL) (qW := qW) (qC := qC)) (cwV 1 hts (gGV GL_sub wm_753 wm_754 wm_755 wm_151 wm_756) rfl rfl rfl (by decide +kernel) ⟨Nat.le_of_ble_eq_true rfl, Nat.le_of_ble_eq_true rfl⟩) (g_preV (q := (RX11, TX11, 7)) (ci := 11) (q0 := 0) hE hPc hDc rfl rfl) rfl rfl hl.1 rfl (lv_room (Nat.le_of_ble_eq_true rfl)) dL_law_760 ⟨Nat.le_of_ble_eq_true rfl, Nat.le_of_ble_eq_true rfl⟩) (fun r1 u2 H locs p3 hP hD hS => ?_)
  have hP : va_P D vwCl [(aM, oM qM 0 0 0 0 0 0 0 0 0 0 0 0 0 0 0 0 0 0), ((qM 2), .inl (cI, 4, .inl (fun _ => 0)))] H := hP
  have hD : va_D A [(aM, oM qM 0 0 0 0 0 0 0 0 0 0 0 0 0 0 0 0 0 0), ((qM 2), .inl (cI, 4, .inl (fun _ => 0)))] := hD
  refine lv_aload_n hx hb dL_law_763 rfl (lv_at hl 2 rfl) ?_
  refine lv_aload_n hx hb dL_law_764 rfl (lv_at hl 0 rfl) ?_
  refine lv_iload_n hx hb dL_law_765 rfl (lv_at hl 3 rfl) ?_
  refine lv_iconst (v := 1) hx hb dL_law_766 (by decide +kernel) ?_
  refine lv_iadd hx hb dL_law_767 ?_
  refine g_top 1 (by decide +kernel) ?_
  refine va_sld hx hb hX hbl hbA hS (vp_in_iff.mpr ⟨by decide +kernel, by decide +kernel⟩) dL_law_768 ?_
  refine g_top x1 ex1.symm ?_
  refine g_ai (D := D) (wc := [(aM, oM qM 0 0 0 0 0 0 0 0 0 0 0 0 0 0 0 0 0 0), ((qM 2), .inl (cI, 4, .inl (fun _ => 0)))]) (wr := []) hP hD hS hA [0, 1] [] rfl rfl rfl rfl (by decide) (fun hPc hDc => va_runV (As := [.int x1]) (rest := [.int r1]) hF (c_X12_end (l := l) (D := D) (cI := cI) (cB := cB) (cS := cS) (cZ := cZ) (cW := cW) (aM := aM) (y0 := x1) (qM := qM)) (cwV 1 hts (gGV GL_sub wm_757 wm_758 wm_759 wm_550 wm_760) rfl rfl rfl (by decide +kernel) ⟨Nat.le_of_ble_eq_true rfl, Nat.le_of_ble_eq_true rfl⟩) (g_preV (q := (RX12, TX12, 97)) (ci := 12) (q0 := 0) hE hPc hDc rfl rfl) rfl rfl hl.1 rfl (lv_room (Nat.le_of_ble_eq_true rfl)) dL_law_769 ⟨Nat.le_of_ble_eq_true rfl, Nat.le_of_ble_eq_true rfl⟩) (fun r4 u5 H locs p6 hP hD hS => ?_)
  have hP : va_P D vwCl [] H := hP
  have hD : va_D A [] := hD
  refine lv_icmp_eq (tgt := 1880) hx hb dL_law_772 (by decide) (fun _ => ?_) (fun c9 => absurd (p3.trans p6.symm) c9)
  rw [hAe] at hS
  exact law_tail C0 hS (lv_sub hl [0, 3] rfl) (Nat.le_of_ble_eq_true rfl) (Nat.le_of_ble_eq_true rfl)
set_option maxHeartbeats 8000000 in
set_option maxRecDepth 100000 in
theorem law_case_15 {p : Program} {l : Launch} {e : Env} {s : State} {m : MethodId} {below : List Frame} {meth : Method} {c : Code} {b : Nat} {xs : Nat → Int32} {D : va_G} {cI cB cS cZ cW : ClassId} {aL : Nat} {qL : Nat → Nat} {qW : Nat → Nat} {qC : Nat → Nat} {aM : Nat} {qM : Nat → Nat} (C0 : lw_At p s m meth c b 6 xs) (hE : gE D (gT cI cB cS cZ cW) s) : ∀ {H : Heap} {locs : List Loc} {ls : Array Slot}, va_P D vwCl [(aL, .inr (11, [.ref (qL 0), .ref (qL 1), .null, .null, .null, .null, .null])), ((qL 0), .inr (10, [.int 0, .ref (qW 1), .ref (qW 2), .ref (qW 3), .ref (qW 4), .ref (qW 5)])), ((qW 3), .inr (2, [.ref (qC 0), .int 0, .int 0, .int (-1), .int 0, .ref (qC 5), .ref (qC 6), .ref (qC 7), .ref (qC 8), .ref (qC 9), .ref (qC 10)])), ((qC 5), .inl (cI, 4, .inl (fun _ => 0))), ((qC 6), .inl (cI, 4, .inl (fun _ => 0))), (aM, oM qM 0 0 0 0 0 0 0 0 0 0 0 0 0 0 0 0 0 0), ((qM 2), .inl (cI, 4, .inl (fun _ => 0))), ((qM 3), .inl (cI, 4, .inl (fun _ => 0))), ((qM 4), .inl (cI, 4, .inl kFP)), ((qM 29), .inl (cI, 4, .inl (fun _ => 0))), ((qM 30), .inl (cI, 16, .inl (fun _ => 0))), ((qM 31), .inl (cI, 16, .inl (fun _ => 0)))] H → va_D (fun q : Nat => s.heap.size ≤ q) [(aL, .inr (11, [.ref (qL 0), .ref (qL 1), .null, .null, .null, .null, .null])), ((qL 0), .inr (10, [.int 0, .ref (qW 1), .ref (qW 2), .ref (qW 3), .ref (qW 4), .ref (qW 5)])), ((qW 3), .inr (2, [.ref (qC 0), .int 0, .int 0, .int (-1), .int 0, .ref (qC 5), .ref (qC 6), .ref (qC 7), .ref (qC 8), .ref (qC 9), .ref (qC 10)])), ((qC 5), .inl (cI, 4, .inl (fun _ => 0))), ((qC 6), .inl (cI, 4, .inl (fun _ => 0))), (aM, oM qM 0 0 0 0 0 0 0 0 0 0 0 0 0 0 0 0 0 0), ((qM 2), .inl (cI, 4, .inl (fun _ => 0))), ((qM 3), .inl (cI, 4, .inl (fun _ => 0))), ((qM 4), .inl (cI, 4, .inl kFP)), ((qM 29), .inl (cI, 4, .inl (fun _ => 0))), ((qM 30), .inl (cI, 16, .inl (fun _ => 0))), ((qM 31), .inl (cI, 16, .inl (fun _ => 0)))] → va_S (fun q : Nat => s.heap.size ≤ q) s.heap H locs → lv_has ls 4 [(0, .ref b), (1, .ref aL), (2, .ref aM), (3, .int 0)] → W p l e room_1 s m #[Value.ref b] below meth c H locs 136 31006 (lw_Z below #[Value.ref b] s) (F0 m 777 ls []) := by
  obtain ⟨hx, hb, hr, hml, hown, hts0, hX, hbl, hlocks, hgv⟩ := id C0
  have htg : ∀ w ∈ GL, w.before #[Value.ref b] s = true := fun w h => hts0 w (GL_sub w h)
  have hts := hts0
  have hown : s.vm.findClass RL = some m.cls := hown
  have hF : CallFix p m c cL_law 4 s #[Value.ref b] lw_tbl RL := ⟨hx, hb, hml, hown, hts⟩
  have hbA : ¬ (fun q : Nat => s.heap.size ≤ q) b := Nat.not_le.mpr hbl
  obtain ⟨A, hAe⟩ : ∃ A : Nat → Prop, A = (fun q : Nat => s.heap.size ≤ q) := ⟨_, rfl⟩
  have hA : ∀ q, s.heap.size ≤ q → A q := fun q h => by rw [hAe]; exact h
  rw [← hAe]
  rw [← hAe] at hbA
  intro H locs ls hP hD hS hl
  obtain ⟨x1, ex1⟩ : ∃ y : Int32, y = xs (1 : Int32).toNatClampNeg := ⟨_, rfl⟩
  have z1 := t_1
  refine lv_aload_n hx hb dL_law_777 rfl (lv_at hl 1 rfl) ?_
  refine lv_aload_n hx hb dL_law_778 rfl (lv_at hl 0 rfl) ?_
  refine lv_iload_n hx hb dL_law_779 rfl (lv_at hl 3 rfl) ?_
  refine lv_iconst (v := 1) hx hb dL_law_780 (by decide +kernel) ?_
  refine lv_iadd hx hb dL_law_781 ?_
  refine g_top 1 (by decide +kernel) ?_
  refine va_sld hx hb hX hbl hbA hS (vp_in_iff.mpr ⟨by decide +kernel, by decide +kernel⟩) dL_law_782 ?_
  refine g_top x1 ex1.symm ?_
  refine g_ai (D := D) (wc := [(aL, .inr (11, [.ref (qL 0), .ref (qL 1), .null, .null, .null, .null, .null])), ((qL 0), .inr (10, [.int 0, .ref (qW 1), .ref (qW 2), .ref (qW 3), .ref (qW 4), .ref (qW 5)])), ((qW 3), .inr (2, [.ref (qC 0), .int 0, .int 0, .int (-1), .int 0, .ref (qC 5), .ref (qC 6), .ref (qC 7), .ref (qC 8), .ref (qC 9), .ref (qC 10)])), ((qC 5), .inl (cI, 4, .inl (fun _ => 0))), ((qC 6), .inl (cI, 4, .inl (fun _ => 0)))]) (wr := [(aM, oM qM 0 0 0 0 0 0 0 0 0 0 0 0 0 0 0 0 0 0), ((qM 2), .inl (cI, 4, .inl (fun _ => 0))), ((qM 3), .inl (cI, 4, .inl (fun _ => 0))), ((qM 4), .inl (cI, 4, .inl kFP)), ((qM 29), .inl (cI, 4, .inl (fun _ => 0))), ((qM 30), .inl (cI, 16, .inl (fun _ => 0))), ((qM 31), .inl (cI, 16, .inl (fun _ => 0)))]) hP hD hS hA [0, 1, 2, 3, 4] [5, 6, 7, 8, 9, 10, 11] rfl rfl rfl rfl (by decide) (fun hPc hDc => va_runV (As := [.int x1]) (rest := []) hF (c_X11_custom (l := l) (D := D) (cI := cI) (cB := cB) (cS := cS) (cZ := cZ) (cW := cW) (aL := aL) (y0 := x1) (qL := qL) (qW := qW) (qC := qC)) (cwV 1 hts (gGV GL_sub wm_761 wm_762 wm_763 wm_151 wm_764) rfl rfl rfl (by decide +kernel) ⟨Nat.le_of_ble_eq_true rfl, Nat.le_of_ble_eq_true rfl⟩) (g_preV (q := (RX11, TX11, 7)) (ci := 11) (q0 := 0) hE hPc hDc rfl rfl) rfl rfl hl.1 rfl (lv_room (Nat.le_of_ble_eq_true rfl)) dL_law_783 ⟨Nat.le_of_ble_eq_true rfl, Nat.le_of_ble_eq_true rfl⟩) (fun r1 u2 H locs p3 hP hD hS => ?_)
  have hP : va_P D vwCl [(aM, oM qM 0 0 0 0 0 0 0 0 0 0 0 0 0 0 0 0 0 0), ((qM 2), .inl (cI, 4, .inl (fun _ => 0))), ((qM 3), .inl (cI, 4, .inl (fun _ => 0))), ((qM 4), .inl (cI, 4, .inl kFP)), ((qM 29), .inl (cI, 4, .inl (fun _ => 0))), ((qM 30), .inl (cI, 16, .inl (fun _ => 0))), ((qM 31), .inl (cI, 16, .inl (fun _ => 0)))] H := hP
  have hD : va_D A [(aM, oM qM 0 0 0 0 0 0 0 0 0 0 0 0 0 0 0 0 0 0), ((qM 2), .inl (cI, 4, .inl (fun _ => 0))), ((qM 3), .inl (cI, 4, .inl (fun _ => 0))), ((qM 4), .inl (cI, 4, .inl kFP)), ((qM 29), .inl (cI, 4, .inl (fun _ => 0))), ((qM 30), .inl (cI, 16, .inl (fun _ => 0))), ((qM 31), .inl (cI, 16, .inl (fun _ => 0)))] := hD
  refine W.widen (k := 139) (n := 32015) (Nat.le_of_ble_eq_true rfl) (Nat.le_of_ble_eq_true rfl) ?_
  refine lv_aload_n hx hb dL_law_786 rfl (lv_at hl 2 rfl) ?_
  refine lv_aload_n hx hb dL_law_787 rfl (lv_at hl 0 rfl) ?_
  refine lv_iload_n hx hb dL_law_788 rfl (lv_at hl 3 rfl) ?_
  refine lv_iconst (v := 1) hx hb dL_law_789 (by decide +kernel) ?_
  refine lv_iadd hx hb dL_law_790 ?_
  refine g_top 1 (by decide +kernel) ?_
  refine va_sld hx hb hX hbl hbA hS (vp_in_iff.mpr ⟨by decide +kernel, by decide +kernel⟩) dL_law_791 ?_
  refine g_top x1 ex1.symm ?_
  refine g_ai (D := D) (wc := [(aM, oM qM 0 0 0 0 0 0 0 0 0 0 0 0 0 0 0 0 0 0), ((qM 2), .inl (cI, 4, .inl (fun _ => 0))), ((qM 3), .inl (cI, 4, .inl (fun _ => 0))), ((qM 4), .inl (cI, 4, .inl kFP)), ((qM 29), .inl (cI, 4, .inl (fun _ => 0))), ((qM 30), .inl (cI, 16, .inl (fun _ => 0))), ((qM 31), .inl (cI, 16, .inl (fun _ => 0)))]) (wr := []) hP hD hS hA [0, 1, 2, 3, 4, 5, 6] [] rfl rfl rfl rfl (by decide) (fun hPc hDc => va_runV (As := [.int x1]) (rest := [.int r1]) hF (c_X12_custom (l := l) (D := D) (cI := cI) (cB := cB) (cS := cS) (cZ := cZ) (cW := cW) (aM := aM) (y0 := x1) (qM := qM)) (cwV 1 hts (gGV GL_sub wm_765 wm_766 wm_767 wm_550 wm_768) rfl rfl rfl (by decide +kernel) ⟨Nat.le_of_ble_eq_true rfl, Nat.le_of_ble_eq_true rfl⟩) (g_preV (q := (RX12, TX12, 97)) (ci := 12) (q0 := 0) hE hPc hDc rfl rfl) rfl rfl hl.1 rfl (lv_room (Nat.le_of_ble_eq_true rfl)) dL_law_792 ⟨Nat.le_of_ble_eq_true rfl, Nat.le_of_ble_eq_true rfl⟩) (fun r4 u5 H locs p6 hP hD hS => ?_)
  have hP : va_P D vwCl [] H := hP
  have hD : va_D A [] := hD
  refine lv_icmp_eq (tgt := 1880) hx hb dL_law_795 (by decide) (fun _ => ?_) (fun c9 => absurd (p3.trans p6.symm) c9)
  rw [hAe] at hS
  exact law_tail C0 hS (lv_sub hl [0, 3] rfl) (Nat.le_of_ble_eq_true rfl) (Nat.le_of_ble_eq_true rfl)
set_option maxHeartbeats 8000000 in
set_option maxRecDepth 100000 in
theorem law_case_16 {p : Program} {l : Launch} {e : Env} {s : State} {m : MethodId} {below : List Frame} {meth : Method} {c : Code} {b : Nat} {xs : Nat → Int32} {D : va_G} {cI cB cS cZ cW : ClassId} {aL : Nat} {qL : Nat → Nat} {qW : Nat → Nat} {qC : Nat → Nat} {aM : Nat} {qM : Nat → Nat} (C0 : lw_At p s m meth c b 6 xs) (hE : gE D (gT cI cB cS cZ cW) s) : ∀ {H : Heap} {locs : List Loc} {ls : Array Slot}, va_P D vwCl [(aL, .inr (11, [.ref (qL 0), .ref (qL 1), .null, .null, .null, .null, .null])), ((qL 0), .inr (10, [.int 0, .ref (qW 1), .ref (qW 2), .ref (qW 3), .ref (qW 4), .ref (qW 5)])), ((qW 3), .inr (2, [.ref (qC 0), .int 0, .int 0, .int (-1), .int 0, .ref (qC 5), .ref (qC 6), .ref (qC 7), .ref (qC 8), .ref (qC 9), .ref (qC 10)])), (aM, oM qM 0 0 0 0 0 0 0 0 0 0 0 0 0 0 0 0 0 0), ((qM 3), .inl (cI, 4, .inl (fun _ => 0))), ((qM 4), .inl (cI, 4, .inl kFP))] H → va_D (fun q : Nat => s.heap.size ≤ q) [(aL, .inr (11, [.ref (qL 0), .ref (qL 1), .null, .null, .null, .null, .null])), ((qL 0), .inr (10, [.int 0, .ref (qW 1), .ref (qW 2), .ref (qW 3), .ref (qW 4), .ref (qW 5)])), ((qW 3), .inr (2, [.ref (qC 0), .int 0, .int 0, .int (-1), .int 0, .ref (qC 5), .ref (qC 6), .ref (qC 7), .ref (qC 8), .ref (qC 9), .ref (qC 10)])), (aM, oM qM 0 0 0 0 0 0 0 0 0 0 0 0 0 0 0 0 0 0), ((qM 3), .inl (cI, 4, .inl (fun _ => 0))), ((qM 4), .inl (cI, 4, .inl kFP))] → va_S (fun q : Nat => s.heap.size ≤ q) s.heap H locs → lv_has ls 4 [(0, .ref b), (1, .ref aL), (2, .ref aM), (3, .int 0)] → W p l e room_1 s m #[Value.ref b] below meth c H locs 136 31006 (lw_Z below #[Value.ref b] s) (F0 m 800 ls []) := by
  obtain ⟨hx, hb, hr, hml, hown, hts0, hX, hbl, hlocks, hgv⟩ := id C0
  have htg : ∀ w ∈ GL, w.before #[Value.ref b] s = true := fun w h => hts0 w (GL_sub w h)
  have hts := hts0
  have hown : s.vm.findClass RL = some m.cls := hown
  have hF : CallFix p m c cL_law 4 s #[Value.ref b] lw_tbl RL := ⟨hx, hb, hml, hown, hts⟩
  have hbA : ¬ (fun q : Nat => s.heap.size ≤ q) b := Nat.not_le.mpr hbl
  obtain ⟨A, hAe⟩ : ∃ A : Nat → Prop, A = (fun q : Nat => s.heap.size ≤ q) := ⟨_, rfl⟩
  have hA : ∀ q, s.heap.size ≤ q → A q := fun q h => by rw [hAe]; exact h
  rw [← hAe]
  rw [← hAe] at hbA
  intro H locs ls hP hD hS hl
  obtain ⟨x1, ex1⟩ : ∃ y : Int32, y = xs (1 : Int32).toNatClampNeg := ⟨_, rfl⟩
  have z1 := t_1
  refine lv_aload_n hx hb dL_law_800 rfl (lv_at hl 1 rfl) ?_
  refine lv_aload_n hx hb dL_law_801 rfl (lv_at hl 0 rfl) ?_
  refine lv_iload_n hx hb dL_law_802 rfl (lv_at hl 3 rfl) ?_
  refine lv_iconst (v := 1) hx hb dL_law_803 (by decide +kernel) ?_
  refine lv_iadd hx hb dL_law_804 ?_
  refine g_top 1 (by decide +kernel) ?_
  refine va_sld hx hb hX hbl hbA hS (vp_in_iff.mpr ⟨by decide +kernel, by decide +kernel⟩) dL_law_805 ?_
  refine g_top x1 ex1.symm ?_
  refine g_ai (D := D) (wc := [(aL, .inr (11, [.ref (qL 0), .ref (qL 1), .null, .null, .null, .null, .null])), ((qL 0), .inr (10, [.int 0, .ref (qW 1), .ref (qW 2), .ref (qW 3), .ref (qW 4), .ref (qW 5)])), ((qW 3), .inr (2, [.ref (qC 0), .int 0, .int 0, .int (-1), .int 0, .ref (qC 5), .ref (qC 6), .ref (qC 7), .ref (qC 8), .ref (qC 9), .ref (qC 10)]))]) (wr := [(aM, oM qM 0 0 0 0 0 0 0 0 0 0 0 0 0 0 0 0 0 0), ((qM 3), .inl (cI, 4, .inl (fun _ => 0))), ((qM 4), .inl (cI, 4, .inl kFP))]) hP hD hS hA [0, 1, 2] [3, 4, 5] rfl rfl rfl rfl (by decide) (fun hPc hDc => va_runV (As := [.int x1]) (rest := []) hF (c_X11_fault (l := l) (D := D) (cI := cI) (cB := cB) (cS := cS) (cZ := cZ) (cW := cW) (aL := aL) (y0 := x1) (qL := qL) (qW := qW) (qC := qC)) (cwV 1 hts (gGV GL_sub wm_769 wm_770 wm_771 wm_151 wm_772) rfl rfl rfl (by decide +kernel) ⟨Nat.le_of_ble_eq_true rfl, Nat.le_of_ble_eq_true rfl⟩) (g_preV (q := (RX11, TX11, 7)) (ci := 11) (q0 := 0) hE hPc hDc rfl rfl) rfl rfl hl.1 rfl (lv_room (Nat.le_of_ble_eq_true rfl)) dL_law_806 ⟨Nat.le_of_ble_eq_true rfl, Nat.le_of_ble_eq_true rfl⟩) (fun r1 u2 H locs p3 hP hD hS => ?_)
  have hP : va_P D vwCl [(aM, oM qM 0 0 0 0 0 0 0 0 0 0 0 0 0 0 0 0 0 0), ((qM 3), .inl (cI, 4, .inl (fun _ => 0))), ((qM 4), .inl (cI, 4, .inl kFP))] H := hP
  have hD : va_D A [(aM, oM qM 0 0 0 0 0 0 0 0 0 0 0 0 0 0 0 0 0 0), ((qM 3), .inl (cI, 4, .inl (fun _ => 0))), ((qM 4), .inl (cI, 4, .inl kFP))] := hD
  refine lv_aload_n hx hb dL_law_809 rfl (lv_at hl 2 rfl) ?_
  refine lv_aload_n hx hb dL_law_810 rfl (lv_at hl 0 rfl) ?_
  refine lv_iload_n hx hb dL_law_811 rfl (lv_at hl 3 rfl) ?_
  refine lv_iconst (v := 1) hx hb dL_law_812 (by decide +kernel) ?_
  refine lv_iadd hx hb dL_law_813 ?_
  refine g_top 1 (by decide +kernel) ?_
  refine va_sld hx hb hX hbl hbA hS (vp_in_iff.mpr ⟨by decide +kernel, by decide +kernel⟩) dL_law_814 ?_
  refine g_top x1 ex1.symm ?_
  refine g_ai (D := D) (wc := [(aM, oM qM 0 0 0 0 0 0 0 0 0 0 0 0 0 0 0 0 0 0), ((qM 3), .inl (cI, 4, .inl (fun _ => 0))), ((qM 4), .inl (cI, 4, .inl kFP))]) (wr := []) hP hD hS hA [0, 1, 2] [] rfl rfl rfl rfl (by decide) (fun hPc hDc => va_runV (As := [.int x1]) (rest := [.int r1]) hF (c_X12_fault (l := l) (D := D) (cI := cI) (cB := cB) (cS := cS) (cZ := cZ) (cW := cW) (aM := aM) (y0 := x1) (qM := qM)) (cwV 1 hts (gGV GL_sub wm_773 wm_774 wm_775 wm_550 wm_776) rfl rfl rfl (by decide +kernel) ⟨Nat.le_of_ble_eq_true rfl, Nat.le_of_ble_eq_true rfl⟩) (g_preV (q := (RX12, TX12, 97)) (ci := 12) (q0 := 0) hE hPc hDc rfl rfl) rfl rfl hl.1 rfl (lv_room (Nat.le_of_ble_eq_true rfl)) dL_law_815 ⟨Nat.le_of_ble_eq_true rfl, Nat.le_of_ble_eq_true rfl⟩) (fun r4 u5 H locs p6 hP hD hS => ?_)
  have hP : va_P D vwCl [] H := hP
  have hD : va_D A [] := hD
  refine lv_icmp_eq (tgt := 1880) hx hb dL_law_818 (by decide) (fun _ => ?_) (fun c9 => absurd (p3.trans p6.symm) c9)
  rw [hAe] at hS
  exact law_tail C0 hS (lv_sub hl [0, 3] rfl) (Nat.le_of_ble_eq_true rfl) (Nat.le_of_ble_eq_true rfl)
set_option maxHeartbeats 8000000 in
set_option maxRecDepth 100000 in
theorem law_case_17 {p : Program} {l : Launch} {e : Env} {s : State} {m : MethodId} {below : List Frame} {meth : Method} {c : Code} {b : Nat} {xs : Nat → Int32} {D : va_G} {cI cB cS cZ cW : ClassId} {aL : Nat} {qL : Nat → Nat} {qW : Nat → Nat} {qP : Nat → Nat} {aM : Nat} {qM : Nat → Nat} (C0 : lw_At p s m meth c b 6 xs) (hE : gE D (gT cI cB cS cZ cW) s) : ∀ {H : Heap} {locs : List Loc} {ls : Array Slot}, va_P D vwCl [(aL, .inr (11, [.ref (qL 0), .ref (qL 1), .null, .null, .null, .null, .null])), ((qL 0), .inr (10, [.int 0, .ref (qW 1), .ref (qW 2), .ref (qW 3), .ref (qW 4), .ref (qW 5)])), ((qW 2), .inr (6, [.int 0, .ref (qP 1), .ref (qP 2), .ref (qP 3), .ref (qP 4), .ref (qP 5), .ref (qP 6), .ref (qP 7), .ref (qP 8), .ref (qP 9), .ref (qP 10), .ref (qP 11), .ref (qP 12), .ref (qP 13), .ref (qP 14)])), (aM, oM qM 0 0 0 0 0 0 0 0 0 0 0 0 0 0 0 0 0 0), ((qM 14), .inl (cI, 4, .inl (fun _ => 0)))] H → va_D (fun q : Nat => s.heap.size ≤ q) [(aL, .inr (11, [.ref (qL 0), .ref (qL 1), .null, .null, .null, .null, .null])), ((qL 0), .inr (10, [.int 0, .ref (qW 1), .ref (qW 2), .ref (qW 3), .ref (qW 4), .ref (qW 5)])), ((qW 2), .inr (6, [.int 0, .ref (qP 1), .ref (qP 2), .ref (qP 3), .ref (qP 4), .ref (qP 5), .ref (qP 6), .ref (qP 7), .ref (qP 8), .ref (qP 9), .ref (qP 10), .ref (qP 11), .ref (qP 12), .ref (qP 13), .ref (qP 14)])), (aM, oM qM 0 0 0 0 0 0 0 0 0 0 0 0 0 0 0 0 0 0), ((qM 14), .inl (cI, 4, .inl (fun _ => 0)))] → va_S (fun q : Nat => s.heap.size ≤ q) s.heap H locs → lv_has ls 4 [(0, .ref b), (1, .ref aL), (2, .ref aM), (3, .int 0)] → W p l e room_1 s m #[Value.ref b] below meth c H locs 136 31006 (lw_Z below #[Value.ref b] s) (F0 m 823 ls []) := by
  obtain ⟨hx, hb, hr, hml, hown, hts0, hX, hbl, hlocks, hgv⟩ := id C0
  have htg : ∀ w ∈ GL, w.before #[Value.ref b] s = true := fun w h => hts0 w (GL_sub w h)
  have hts := hts0
  have hown : s.vm.findClass RL = some m.cls := hown
  have hF : CallFix p m c cL_law 4 s #[Value.ref b] lw_tbl RL := ⟨hx, hb, hml, hown, hts⟩
  have hbA : ¬ (fun q : Nat => s.heap.size ≤ q) b := Nat.not_le.mpr hbl
  obtain ⟨A, hAe⟩ : ∃ A : Nat → Prop, A = (fun q : Nat => s.heap.size ≤ q) := ⟨_, rfl⟩
  have hA : ∀ q, s.heap.size ≤ q → A q := fun q h => by rw [hAe]; exact h
  rw [← hAe]
  rw [← hAe] at hbA
  intro H locs ls hP hD hS hl
  obtain ⟨x1, ex1⟩ : ∃ y : Int32, y = xs (1 : Int32).toNatClampNeg := ⟨_, rfl⟩
  obtain ⟨x2, ex2⟩ : ∃ y : Int32, y = xs (2 : Int32).toNatClampNeg := ⟨_, rfl⟩
  obtain ⟨x3, ex3⟩ : ∃ y : Int32, y = xs (3 : Int32).toNatClampNeg := ⟨_, rfl⟩
  obtain ⟨x4, ex4⟩ : ∃ y : Int32, y = xs (4 : Int32).toNatClampNeg := ⟨_, rfl⟩
  have z0 := t_0
  have z1 := t_1
  have z2 := t_2
  have z3 := t_3
  have z4 := t_4
  refine lv_aload_n hx hb dL_law_823 rfl (lv_at hl 1 rfl) ?_
  refine lv_aload_n hx hb dL_law_824 rfl (lv_at hl 0 rfl) ?_
  refine lv_iload_n hx hb dL_law_825 rfl (lv_at hl 3 rfl) ?_
  refine lv_iconst (v := 1) hx hb dL_law_826 (by decide +kernel) ?_
  refine lv_iadd hx hb dL_law_827 ?_
  refine g_top 1 (by decide +kernel) ?_
  refine va_sld hx hb hX hbl hbA hS (vp_in_iff.mpr ⟨by decide +kernel, by decide +kernel⟩) dL_law_828 ?_
  refine g_top x1 ex1.symm ?_
  refine lv_aload_n hx hb dL_law_829 rfl (lv_at hl 0 rfl) ?_
  refine lv_iload_n hx hb dL_law_830 rfl (lv_at hl 3 rfl) ?_
  refine lv_iconst (v := 2) hx hb dL_law_831 (by decide +kernel) ?_
  refine lv_iadd hx hb dL_law_832 ?_
  refine g_top 2 (by decide +kernel) ?_
  refine va_sld hx hb hX hbl hbA hS (vp_in_iff.mpr ⟨by decide +kernel, by decide +kernel⟩) dL_law_833 ?_
  refine g_top x2 ex2.symm ?_
  refine lv_aload_n hx hb dL_law_834 rfl (lv_at hl 0 rfl) ?_
  refine lv_iload_n hx hb dL_law_835 rfl (lv_at hl 3 rfl) ?_
  refine lv_iconst (v := 3) hx hb dL_law_836 (by decide +kernel) ?_
  refine lv_iadd hx hb dL_law_837 ?_
  refine g_top 3 (by decide +kernel) ?_
  refine va_sld hx hb hX hbl hbA hS (vp_in_iff.mpr ⟨by decide +kernel, by decide +kernel⟩) dL_law_838 ?_
  refine g_top x3 ex3.symm ?_
  refine lv_aload_n hx hb dL_law_839 rfl (lv_at hl 0 rfl) ?_
  refine lv_iload_n hx hb dL_law_840 rfl (lv_at hl 3 rfl) ?_
  refine lv_iconst (v := 4) hx hb dL_law_841 (by decide +kernel) ?_
  refine lv_iadd hx hb dL_law_842 ?_
  refine g_top 4 (by decide +kernel) ?_
  refine va_sld hx hb hX hbl hbA hS (vp_in_iff.mpr ⟨by decide +kernel, by decide +kernel⟩) dL_law_843 ?_
  refine g_top x4 ex4.symm ?_
  refine g_ai (D := D) (wc := [(aL, .inr (11, [.ref (qL 0), .ref (qL 1), .null, .null, .null, .null, .null])), ((qL 0), .inr (10, [.int 0, .ref (qW 1), .ref (qW 2), .ref (qW 3), .ref (qW 4), .ref (qW 5)])), ((qW 2), .inr (6, [.int 0, .ref (qP 1), .ref (qP 2), .ref (qP 3), .ref (qP 4), .ref (qP 5), .ref (qP 6), .ref (qP 7), .ref (qP 8), .ref (qP 9), .ref (qP 10), .ref (qP 11), .ref (qP 12), .ref (qP 13), .ref (qP 14)]))]) (wr := [(aM, oM qM 0 0 0 0 0 0 0 0 0 0 0 0 0 0 0 0 0 0), ((qM 14), .inl (cI, 4, .inl (fun _ => 0)))]) hP hD hS hA [0, 1, 2] [3, 4] rfl rfl rfl rfl (by decide) (fun hPc hDc => va_runV (As := [.int x1, .int x2, .int x3, .int x4]) (rest := []) hF (c_X11_may (l := l) (D := D) (cI := cI) (cB := cB) (cS := cS) (cZ := cZ) (cW := cW) (aL := aL) (y0 := x1) (y1 := x2) (y2 := x3) (y3 := x4) (qL := qL) (qW := qW) (qP := qP)) (cwV 4 hts (gGV GL_sub wm_777 wm_778 wm_779 wm_151 wm_780) rfl rfl rfl (by decide +kernel) ⟨Nat.le_of_ble_eq_true rfl, Nat.le_of_ble_eq_true rfl⟩) (g_preV (q := (RX11, TX11, 7)) (ci := 11) (q0 := 0) hE hPc hDc rfl rfl) rfl rfl hl.1 rfl (lv_room (Nat.le_of_ble_eq_true rfl)) dL_law_844 ⟨Nat.le_of_ble_eq_true rfl, Nat.le_of_ble_eq_true rfl⟩) (fun r1 u2 H locs p3 hP hD hS => ?_)
  have hP : va_P D vwCl [(aM, oM qM 0 0 0 0 0 0 0 0 0 0 0 0 0 0 0 0 0 0), ((qM 14), .inl (cI, 4, .inl (fun _ => 0)))] H := hP
  have hD : va_D A [(aM, oM qM 0 0 0 0 0 0 0 0 0 0 0 0 0 0 0 0 0 0), ((qM 14), .inl (cI, 4, .inl (fun _ => 0)))] := hD
  obtain rfl := p3
  refine lv_aload_n hx hb dL_law_847 rfl (lv_at hl 2 rfl) ?_
  refine lv_aload_n hx hb dL_law_848 rfl (lv_at hl 0 rfl) ?_
  refine lv_iload_n hx hb dL_law_849 rfl (lv_at hl 3 rfl) ?_
  refine lv_iconst (v := 1) hx hb dL_law_850 (by decide +kernel) ?_
  refine lv_iadd hx hb dL_law_851 ?_
  refine g_top 1 (by decide +kernel) ?_
  refine va_sld hx hb hX hbl hbA hS (vp_in_iff.mpr ⟨by decide +kernel, by decide +kernel⟩) dL_law_852 ?_
  refine g_top x1 ex1.symm ?_
  refine lv_aload_n hx hb dL_law_853 rfl (lv_at hl 0 rfl) ?_
  refine lv_iload_n hx hb dL_law_854 rfl (lv_at hl 3 rfl) ?_
  refine lv_iconst (v := 2) hx hb dL_law_855 (by decide +kernel) ?_
  refine lv_iadd hx hb dL_law_856 ?_
  refine g_top 2 (by decide +kernel) ?_
  refine va_sld hx hb hX hbl hbA hS (vp_in_iff.mpr ⟨by decide +kernel, by decide +kernel⟩) dL_law_857 ?_
  refine g_top x2 ex2.symm ?_
  refine lv_aload_n hx hb dL_law_858 rfl (lv_at hl 0 rfl) ?_
  refine lv_iload_n hx hb dL_law_859 rfl (lv_at hl 3 rfl) ?_
  refine lv_iconst (v := 3) hx hb dL_law_860 (by decide +kernel) ?_
  refine lv_iadd hx hb dL_law_861 ?_
  refine g_top 3 (by decide +kernel) ?_
  refine va_sld hx hb hX hbl hbA hS (vp_in_iff.mpr ⟨by decide +kernel, by decide +kernel⟩) dL_law_862 ?_
  refine g_top x3 ex3.symm ?_
  refine lv_aload_n hx hb dL_law_863 rfl (lv_at hl 0 rfl) ?_
  refine lv_iload_n hx hb dL_law_864 rfl (lv_at hl 3 rfl) ?_
  refine lv_iconst (v := 4) hx hb dL_law_865 (by decide +kernel) ?_
  refine lv_iadd hx hb dL_law_866 ?_
  refine g_top 4 (by decide +kernel) ?_
  refine va_sld hx hb hX hbl hbA hS (vp_in_iff.mpr ⟨by decide +kernel, by decide +kernel⟩) dL_law_867 ?_
  refine g_top x4 ex4.symm ?_
  refine g_ai (D := D) (wc := [(aM, oM qM 0 0 0 0 0 0 0 0 0 0 0 0 0 0 0 0 0 0), ((qM 14), .inl (cI, 4, .inl (fun _ => 0)))]) (wr := []) hP hD hS hA [0, 1] [] rfl rfl rfl rfl (by decide) (fun hPc hDc => va_runV (As := [.int x1, .int x2, .int x3, .int x4]) (rest := [.int 0]) hF (c_X12_may (l := l) (D := D) (cI := cI) (cB := cB) (cS := cS) (cZ := cZ) (cW := cW) (aM := aM) (y0 := x1) (y1 := x2) (y2 := x3) (y3 := x4) (qM := qM)) (cwV 4 hts (gGV GL_sub wm_781 wm_782 wm_783 wm_550 wm_784) rfl rfl rfl (by decide +kernel) ⟨Nat.le_of_ble_eq_true rfl, Nat.le_of_ble_eq_true rfl⟩) (g_preV (q := (RX12, TX12, 97)) (ci := 12) (q0 := 0) hE hPc hDc rfl rfl) rfl rfl hl.1 rfl (lv_room (Nat.le_of_ble_eq_true rfl)) dL_law_868 ⟨Nat.le_of_ble_eq_true rfl, Nat.le_of_ble_eq_true rfl⟩) (fun r4 u5 H locs p6 hP hD hS => ?_)
  have hP : va_P D vwCl [] H := hP
  have hD : va_D A [] := hD
  obtain rfl := p6
  refine lv_icmp_eq (tgt := 1880) hx hb dL_law_871 (by decide) (fun _ => ?_) (fun c9 => absurd rfl c9)
  rw [hAe] at hS
  exact law_tail C0 hS (lv_sub hl [0, 3] rfl) (Nat.le_of_ble_eq_true rfl) (Nat.le_of_ble_eq_true rfl)
