set_option maxHeartbeats 8000000 in
set_option maxRecDepth 100000 in
theorem law_case_18 {p : Program} {l : Launch} {e : Env} {s : State} {m : MethodId} {below : List Frame} {meth : Method} {c : Code} {b : Nat} {xs : Nat → Int32} {D : va_G} {cI cB cS cZ cW : ClassId} {aL : Nat} {qL : Nat → Nat} {qW : Nat → Nat} {qP : Nat → Nat} {aM : Nat} {qM : Nat → Nat} (C0 : lw_At p s m meth c b 6 xs) (hE : gE D (gT cI cB cS cZ cW) s) : ∀ {H : Heap} {locs : List Loc} {ls : Array Slot}, va_P D vwCl [(aL, .inr (11, [.ref (qL 0), .ref (qL 1), .null, .null, .null, .null, .null])), ((qL 0), .inr (10, [.int 0, .ref (qW 1), .ref (qW 2), .ref (qW 3), .ref (qW 4), .ref (qW 5)])), ((qW 2), .inr (6, [.int 0, .ref (qP 1), .ref (qP 2), .ref (qP 3), .ref (qP 4), .ref (qP 5), .ref (qP 6), .ref (qP 7), .ref (qP 8), .ref (qP 9), .ref (qP 10), .ref (qP 11), .ref (qP 12), .ref (qP 13), .ref (qP 14)])), (aM, oM qM 0 0 0 0 0 0 0 0 0 0 0 0 0 0 0 0 0 0), ((qM 14), .inl (cI, 4, .inl (fun _ => 0)))] H → va_D (fun q : Nat => s.heap.size ≤ q) [(aL, .inr (11, [.ref (qL 0), .ref (qL 1), .null, .null, .null, .null, .null])), ((qL 0), .inr (10, [.int 0, .ref (qW 1), .ref (qW 2), .ref (qW 3), .ref (qW 4), .ref (qW 5)])), ((qW 2), .inr (6, [.int 0, .ref (qP 1), .ref (qP 2), .ref (qP 3), .ref (qP 4), .ref (qP 5), .ref (qP 6), .ref (qP 7), .ref (qP 8), .ref (qP 9), .ref (qP 10), .ref (qP 11), .ref (qP 12), .ref (qP 13), .ref (qP 14)])), (aM, oM qM 0 0 0 0 0 0 0 0 0 0 0 0 0 0 0 0 0 0), ((qM 14), .inl (cI, 4, .inl (fun _ => 0)))] → va_S (fun q : Nat => s.heap.size ≤ q) s.heap H locs → lv_has ls 4 [(0, .ref b), (1, .ref aL), (2, .ref aM), (3, .int 0)] → W p l e room_1 s m #[Value.ref b] below meth c H locs 136 31006 (lw_Z below #[Value.ref b] s) (F0 m 876 ls []) := by
  obtain ⟨hx, hb, hr, hml, hown, hts0, hX, hbl, hlocks, hgv⟩ := id C0
  have htg : ∀ w ∈ GL, w.before #[Value.ref b] s = true := fun w h => hts0 w (GL_sub w h)
  have hts := hts0
  have hown : s.vm.findClass RL = some m.cls := hown
  have hF : CallFix p m c cL_law 4 s #[Value.ref b] lw_tbl RL := ⟨hx, hb, hml, hown, hts⟩
  have hbA : ¬ (fun q : Nat => s.heap.size ≤ q) b := Nat.not_le.mpr hbl
  obtain ⟨A, hAe⟩ : ∃ A : Nat → Prop, A = (fun q : Nat => s.heap.size ≤ q) := ⟨_, rfl⟩
  have hA : ∀ q, s.heap.size ≤ q → A q := fun q h => by rw [hAe]; exact h
  rw [← hAe]
  rw [← hAe] at hbA
  intro H locs ls hP hD hS hl
  obtain ⟨x1, ex1⟩ : ∃ y : Int32, y = xs (1 : Int32).toNatClampNeg := ⟨_, rfl⟩
  obtain ⟨x2, ex2⟩ : ∃ y : Int32, y = xs (2 : Int32).toNatClampNeg := ⟨_, rfl⟩
  obtain ⟨x3, ex3⟩ : ∃ y : Int32, y = xs (3 : Int32).toNatClampNeg := ⟨_, rfl⟩
  obtain ⟨x4, ex4⟩ : ∃ y : Int32, y = xs (4 : Int32).toNatClampNeg := ⟨_, rfl⟩
  have zm1 := tm_1
  have z1 := t_1
  have z2 := t_2
  have z3 := t_3
  have z4 := t_4
  refine lv_aload_n hx hb dL_law_876 rfl (lv_at hl 1 rfl) ?_
  refine lv_aload_n hx hb dL_law_877 rfl (lv_at hl 0 rfl) ?_
  refine lv_iload_n hx hb dL_law_878 rfl (lv_at hl 3 rfl) ?_
  refine lv_iconst (v := 1) hx hb dL_law_879 (by decide +kernel) ?_
  refine lv_iadd hx hb dL_law_880 ?_
  refine g_top 1 (by decide +kernel) ?_
  refine va_sld hx hb hX hbl hbA hS (vp_in_iff.mpr ⟨by decide +kernel, by decide +kernel⟩) dL_law_881 ?_
  refine g_top x1 ex1.symm ?_
  refine lv_aload_n hx hb dL_law_882 rfl (lv_at hl 0 rfl) ?_
  refine lv_iload_n hx hb dL_law_883 rfl (lv_at hl 3 rfl) ?_
  refine lv_iconst (v := 2) hx hb dL_law_884 (by decide +kernel) ?_
  refine lv_iadd hx hb dL_law_885 ?_
  refine g_top 2 (by decide +kernel) ?_
  refine va_sld hx hb hX hbl hbA hS (vp_in_iff.mpr ⟨by decide +kernel, by decide +kernel⟩) dL_law_886 ?_
  refine g_top x2 ex2.symm ?_
  refine lv_aload_n hx hb dL_law_887 rfl (lv_at hl 0 rfl) ?_
  refine lv_iload_n hx hb dL_law_888 rfl (lv_at hl 3 rfl) ?_
  refine lv_iconst (v := 3) hx hb dL_law_889 (by decide +kernel) ?_
  refine lv_iadd hx hb dL_law_890 ?_
  refine g_top 3 (by decide +kernel) ?_
  refine va_sld hx hb hX hbl hbA hS (vp_in_iff.mpr ⟨by decide +kernel, by decide +kernel⟩) dL_law_891 ?_
  refine g_top x3 ex3.symm ?_
  refine lv_aload_n hx hb dL_law_892 rfl (lv_at hl 0 rfl) ?_
  refine lv_iload_n hx hb dL_law_893 rfl (lv_at hl 3 rfl) ?_
  refine lv_iconst (v := 4) hx hb dL_law_894 (by decide +kernel) ?_
  refine lv_iadd hx hb dL_law_895 ?_
  refine g_top 4 (by decide +kernel) ?_
  refine va_sld hx hb hX hbl hbA hS (vp_in_iff.mpr ⟨by decide +kernel, by decide +kernel⟩) dL_law_896 ?_
  refine g_top x4 ex4.symm ?_
  refine g_ai (D := D) (wc := [(aL, .inr (11, [.ref (qL 0), .ref (qL 1), .null, .null, .null, .null, .null])), ((qL 0), .inr (10, [.int 0, .ref (qW 1), .ref (qW 2), .ref (qW 3), .ref (qW 4), .ref (qW 5)])), ((qW 2), .inr (6, [.int 0, .ref (qP 1), .ref (qP 2), .ref (qP 3), .ref (qP 4), .ref (qP 5), .ref (qP 6), .ref (qP 7), .ref (qP 8), .ref (qP 9), .ref (qP 10), .ref (qP 11), .ref (qP 12), .ref (qP 13), .ref (qP 14)]))]) (wr := [(aM, oM qM 0 0 0 0 0 0 0 0 0 0 0 0 0 0 0 0 0 0), ((qM 14), .inl (cI, 4, .inl (fun _ => 0)))]) hP hD hS hA [0, 1, 2] [3, 4] rfl rfl rfl rfl (by decide) (fun hPc hDc => va_runV (As := [.int x1, .int x2, .int x3, .int x4]) (rest := []) hF (c_X11_why (l := l) (D := D) (cI := cI) (cB := cB) (cS := cS) (cZ := cZ) (cW := cW) (aL := aL) (y0 := x1) (y1 := x2) (y2 := x3) (y3 := x4) (qL := qL) (qW := qW) (qP := qP)) (cwV 4 hts (gGV GL_sub wm_785 wm_786 wm_787 wm_151 wm_788) rfl rfl rfl (by decide +kernel) ⟨Nat.le_of_ble_eq_true rfl, Nat.le_of_ble_eq_true rfl⟩) (g_preV (q := (RX11, TX11, 7)) (ci := 11) (q0 := 0) hE hPc hDc rfl rfl) rfl rfl hl.1 rfl (lv_room (Nat.le_of_ble_eq_true rfl)) dL_law_897 ⟨Nat.le_of_ble_eq_true rfl, Nat.le_of_ble_eq_true rfl⟩) (fun r1 u2 H locs p3 hP hD hS => ?_)
  have hP : va_P D vwCl [(aM, oM qM 0 0 0 0 0 0 0 0 0 0 0 0 0 0 0 0 0 0), ((qM 14), .inl (cI, 4, .inl (fun _ => 0)))] H := hP
  have hD : va_D A [(aM, oM qM 0 0 0 0 0 0 0 0 0 0 0 0 0 0 0 0 0 0), ((qM 14), .inl (cI, 4, .inl (fun _ => 0)))] := hD
  obtain rfl := p3
  refine lv_aload_n hx hb dL_law_900 rfl (lv_at hl 2 rfl) ?_
  refine lv_aload_n hx hb dL_law_901 rfl (lv_at hl 0 rfl) ?_
  refine lv_iload_n hx hb dL_law_902 rfl (lv_at hl 3 rfl) ?_
  refine lv_iconst (v := 1) hx hb dL_law_903 (by decide +kernel) ?_
  refine lv_iadd hx hb dL_law_904 ?_
  refine g_top 1 (by decide +kernel) ?_
  refine va_sld hx hb hX hbl hbA hS (vp_in_iff.mpr ⟨by decide +kernel, by decide +kernel⟩) dL_law_905 ?_
  refine g_top x1 ex1.symm ?_
  refine lv_aload_n hx hb dL_law_906 rfl (lv_at hl 0 rfl) ?_
  refine lv_iload_n hx hb dL_law_907 rfl (lv_at hl 3 rfl) ?_
  refine lv_iconst (v := 2) hx hb dL_law_908 (by decide +kernel) ?_
  refine lv_iadd hx hb dL_law_909 ?_
  refine g_top 2 (by decide +kernel) ?_
  refine va_sld hx hb hX hbl hbA hS (vp_in_iff.mpr ⟨by decide +kernel, by decide +kernel⟩) dL_law_910 ?_
  refine g_top x2 ex2.symm ?_
  refine lv_aload_n hx hb dL_law_911 rfl (lv_at hl 0 rfl) ?_
  refine lv_iload_n hx hb dL_law_912 rfl (lv_at hl 3 rfl) ?_
  refine lv_iconst (v := 3) hx hb dL_law_913 (by decide +kernel) ?_
  refine lv_iadd hx hb dL_law_914 ?_
  refine g_top 3 (by decide +kernel) ?_
  refine va_sld hx hb hX hbl hbA hS (vp_in_iff.mpr ⟨by decide +kernel, by decide +kernel⟩) dL_law_915 ?_
  refine g_top x3 ex3.symm ?_
  refine lv_aload_n hx hb dL_law_916 rfl (lv_at hl 0 rfl) ?_
  refine lv_iload_n hx hb dL_law_917 rfl (lv_at hl 3 rfl) ?_
  refine lv_iconst (v := 4) hx hb dL_law_918 (by decide +kernel) ?_
  refine lv_iadd hx hb dL_law_919 ?_
  refine g_top 4 (by decide +kernel) ?_
  refine va_sld hx hb hX hbl hbA hS (vp_in_iff.mpr ⟨by decide +kernel, by decide +kernel⟩) dL_law_920 ?_
  refine g_top x4 ex4.symm ?_
  refine g_ai (D := D) (wc := [(aM, oM qM 0 0 0 0 0 0 0 0 0 0 0 0 0 0 0 0 0 0), ((qM 14), .inl (cI, 4, .inl (fun _ => 0)))]) (wr := []) hP hD hS hA [0, 1] [] rfl rfl rfl rfl (by decide) (fun hPc hDc => va_runV (As := [.int x1, .int x2, .int x3, .int x4]) (rest := [.int (-1)]) hF (c_X12_why (l := l) (D := D) (cI := cI) (cB := cB) (cS := cS) (cZ := cZ) (cW := cW) (aM := aM) (y0 := x1) (y1 := x2) (y2 := x3) (y3 := x4) (qM := qM)) (cwV 4 hts (gGV GL_sub wm_789 wm_790 wm_791 wm_550 wm_792) rfl rfl rfl (by decide +kernel) ⟨Nat.le_of_ble_eq_true rfl, Nat.le_of_ble_eq_true rfl⟩) (g_preV (q := (RX12, TX12, 97)) (ci := 12) (q0 := 0) hE hPc hDc rfl rfl) rfl rfl hl.1 rfl (lv_room (Nat.le_of_ble_eq_true rfl)) dL_law_921 ⟨Nat.le_of_ble_eq_true rfl, Nat.le_of_ble_eq_true rfl⟩) (fun r4 u5 H locs p6 hP hD hS => ?_)
  have hP : va_P D vwCl [] H := hP
  have hD : va_D A [] := hD
  obtain rfl := p6
  refine lv_icmp_eq (tgt := 1880) hx hb dL_law_924 (by decide) (fun _ => ?_) (fun c9 => absurd rfl c9)
  rw [hAe] at hS
  exact law_tail C0 hS (lv_sub hl [0, 3] rfl) (Nat.le_of_ble_eq_true rfl) (Nat.le_of_ble_eq_true rfl)
set_option maxHeartbeats 8000000 in
set_option maxRecDepth 100000 in
theorem law_case_19 {p : Program} {l : Launch} {e : Env} {s : State} {m : MethodId} {below : List Frame} {meth : Method} {c : Code} {b : Nat} {xs : Nat → Int32} {D : va_G} {cI cB cS cZ cW : ClassId} {aL : Nat} {qL : Nat → Nat} {qW : Nat → Nat} {qP : Nat → Nat} {aM : Nat} {qM : Nat → Nat} (C0 : lw_At p s m meth c b 6 xs) (hE : gE D (gT cI cB cS cZ cW) s) : ∀ {H : Heap} {locs : List Loc} {ls : Array Slot}, va_P D vwCl [(aL, .inr (11, [.ref (qL 0), .ref (qL 1), .null, .null, .null, .null, .null])), ((qL 0), .inr (10, [.int 0, .ref (qW 1), .ref (qW 2), .ref (qW 3), .ref (qW 4), .ref (qW 5)])), ((qW 2), .inr (6, [.int 0, .ref (qP 1), .ref (qP 2), .ref (qP 3), .ref (qP 4), .ref (qP 5), .ref (qP 6), .ref (qP 7), .ref (qP 8), .ref (qP 9), .ref (qP 10), .ref (qP 11), .ref (qP 12), .ref (qP 13), .ref (qP 14)])), (aM, oM qM 0 0 0 0 0 0 0 0 0 0 0 0 0 0 0 0 0 0), ((qM 14), .inl (cI, 4, .inl (fun _ => 0)))] H → va_D (fun q : Nat => s.heap.size ≤ q) [(aL, .inr (11, [.ref (qL 0), .ref (qL 1), .null, .null, .null, .null, .null])), ((qL 0), .inr (10, [.int 0, .ref (qW 1), .ref (qW 2), .ref (qW 3), .ref (qW 4), .ref (qW 5)])), ((qW 2), .inr (6, [.int 0, .ref (qP 1), .ref (qP 2), .ref (qP 3), .ref (qP 4), .ref (qP 5), .ref (qP 6), .ref (qP 7), .ref (qP 8), .ref (qP 9), .ref (qP 10), .ref (qP 11), .ref (qP 12), .ref (qP 13), .ref (qP 14)])), (aM, oM qM 0 0 0 0 0 0 0 0 0 0 0 0 0 0 0 0 0 0), ((qM 14), .inl (cI, 4, .inl (fun _ => 0)))] → va_S (fun q : Nat => s.heap.size ≤ q) s.heap H locs → lv_has ls 4 [(0, .ref b), (1, .ref aL), (2, .ref aM), (3, .int 0)] → W p l e room_1 s m #[Value.ref b] below meth c H locs 136 31006 (lw_Z below #[Value.ref b] s) (F0 m 929 ls []) := by
  obtain ⟨hx, hb, hr, hml, hown, hts0, hX, hbl, hlocks, hgv⟩ := id C0
  have htg : ∀ w ∈ GL, w.before #[Value.ref b] s = true := fun w h => hts0 w (GL_sub w h)
  have hts := hts0
  have hown : s.vm.findClass RL = some m.cls := hown
  have hF : CallFix p m c cL_law 4 s #[Value.ref b] lw_tbl RL := ⟨hx, hb, hml, hown, hts⟩
  have hbA : ¬ (fun q : Nat => s.heap.size ≤ q) b := Nat.not_le.mpr hbl
  obtain ⟨A, hAe⟩ : ∃ A : Nat → Prop, A = (fun q : Nat => s.heap.size ≤ q) := ⟨_, rfl⟩
  have hA : ∀ q, s.heap.size ≤ q → A q := fun q h => by rw [hAe]; exact h
  rw [← hAe]
  rw [← hAe] at hbA
  intro H locs ls hP hD hS hl
  obtain ⟨x1, ex1⟩ : ∃ y : Int32, y = xs (1 : Int32).toNatClampNeg := ⟨_, rfl⟩
  obtain ⟨x2, ex2⟩ : ∃ y : Int32, y = xs (2 : Int32).toNatClampNeg := ⟨_, rfl⟩
  have z0 := t_0
  have z1 := t_1
  have z2 := t_2
  refine lv_aload_n hx hb dL_law_929 rfl (lv_at hl 1 rfl) ?_
  refine lv_aload_n hx hb dL_law_930 rfl (lv_at hl 0 rfl) ?_
  refine lv_iload_n hx hb dL_law_931 rfl (lv_at hl 3 rfl) ?_
  refine lv_iconst (v := 1) hx hb dL_law_932 (by decide +kernel) ?_
  refine lv_iadd hx hb dL_law_933 ?_
  refine g_top 1 (by decide +kernel) ?_
  refine va_sld hx hb hX hbl hbA hS (vp_in_iff.mpr ⟨by decide +kernel, by decide +kernel⟩) dL_law_934 ?_
  refine g_top x1 ex1.symm ?_
  refine lv_aload_n hx hb dL_law_935 rfl (lv_at hl 0 rfl) ?_
  refine lv_iload_n hx hb dL_law_936 rfl (lv_at hl 3 rfl) ?_
  refine lv_iconst (v := 2) hx hb dL_law_937 (by decide +kernel) ?_
  refine lv_iadd hx hb dL_law_938 ?_
  refine g_top 2 (by decide +kernel) ?_
  refine va_sld hx hb hX hbl hbA hS (vp_in_iff.mpr ⟨by decide +kernel, by decide +kernel⟩) dL_law_939 ?_
  refine g_top x2 ex2.symm ?_
  refine g_ai (D := D) (wc := [(aL, .inr (11, [.ref (qL 0), .ref (qL 1), .null, .null, .null, .null, .null])), ((qL 0), .inr (10, [.int 0, .ref (qW 1), .ref (qW 2), .ref (qW 3), .ref (qW 4), .ref (qW 5)])), ((qW 2), .inr (6, [.int 0, .ref (qP 1), .ref (qP 2), .ref (qP 3), .ref (qP 4), .ref (qP 5), .ref (qP 6), .ref (qP 7), .ref (qP 8), .ref (qP 9), .ref (qP 10), .ref (qP 11), .ref (qP 12), .ref (qP 13), .ref (qP 14)]))]) (wr := [(aM, oM qM 0 0 0 0 0 0 0 0 0 0 0 0 0 0 0 0 0 0), ((qM 14), .inl (cI, 4, .inl (fun _ => 0)))]) hP hD hS hA [0, 1, 2] [3, 4] rfl rfl rfl rfl (by decide) (fun hPc hDc => va_runV (As := [.int x1, .int x2]) (rest := []) hF (c_X11_writes (l := l) (D := D) (cI := cI) (cB := cB) (cS := cS) (cZ := cZ) (cW := cW) (aL := aL) (y0 := x1) (y1 := x2) (qL := qL) (qW := qW) (qP := qP)) (cwV 2 hts (gGV GL_sub wm_793 wm_794 wm_795 wm_151 wm_796) rfl rfl rfl (by decide +kernel) ⟨Nat.le_of_ble_eq_true rfl, Nat.le_of_ble_eq_true rfl⟩) (g_preV (q := (RX11, TX11, 7)) (ci := 11) (q0 := 0) hE hPc hDc rfl rfl) rfl rfl hl.1 rfl (lv_room (Nat.le_of_ble_eq_true rfl)) dL_law_940 ⟨Nat.le_of_ble_eq_true rfl, Nat.le_of_ble_eq_true rfl⟩) (fun r1 u2 H locs p3 hP hD hS => ?_)
  have hP : va_P D vwCl [(aM, oM qM 0 0 0 0 0 0 0 0 0 0 0 0 0 0 0 0 0 0), ((qM 14), .inl (cI, 4, .inl (fun _ => 0)))] H := hP
  have hD : va_D A [(aM, oM qM 0 0 0 0 0 0 0 0 0 0 0 0 0 0 0 0 0 0), ((qM 14), .inl (cI, 4, .inl (fun _ => 0)))] := hD
  obtain rfl := p3
  refine lv_aload_n hx hb dL_law_943 rfl (lv_at hl 2 rfl) ?_
  refine lv_aload_n hx hb dL_law_944 rfl (lv_at hl 0 rfl) ?_
  refine lv_iload_n hx hb dL_law_945 rfl (lv_at hl 3 rfl) ?_
  refine lv_iconst (v := 1) hx hb dL_law_946 (by decide +kernel) ?_
  refine lv_iadd hx hb dL_law_947 ?_
  refine g_top 1 (by decide +kernel) ?_
  refine va_sld hx hb hX hbl hbA hS (vp_in_iff.mpr ⟨by decide +kernel, by decide +kernel⟩) dL_law_948 ?_
  refine g_top x1 ex1.symm ?_
  refine lv_aload_n hx hb dL_law_949 rfl (lv_at hl 0 rfl) ?_
  refine lv_iload_n hx hb dL_law_950 rfl (lv_at hl 3 rfl) ?_
  refine lv_iconst (v := 2) hx hb dL_law_951 (by decide +kernel) ?_
  refine lv_iadd hx hb dL_law_952 ?_
  refine g_top 2 (by decide +kernel) ?_
  refine va_sld hx hb hX hbl hbA hS (vp_in_iff.mpr ⟨by decide +kernel, by decide +kernel⟩) dL_law_953 ?_
  refine g_top x2 ex2.symm ?_
  refine g_ai (D := D) (wc := [(aM, oM qM 0 0 0 0 0 0 0 0 0 0 0 0 0 0 0 0 0 0), ((qM 14), .inl (cI, 4, .inl (fun _ => 0)))]) (wr := []) hP hD hS hA [0, 1] [] rfl rfl rfl rfl (by decide) (fun hPc hDc => va_runV (As := [.int x1, .int x2]) (rest := [.int 0]) hF (c_X12_writes (l := l) (D := D) (cI := cI) (cB := cB) (cS := cS) (cZ := cZ) (cW := cW) (aM := aM) (y0 := x1) (y1 := x2) (qM := qM)) (cwV 2 hts (gGV GL_sub wm_797 wm_798 wm_799 wm_550 wm_800) rfl rfl rfl (by decide +kernel) ⟨Nat.le_of_ble_eq_true rfl, Nat.le_of_ble_eq_true rfl⟩) (g_preV (q := (RX12, TX12, 97)) (ci := 12) (q0 := 0) hE hPc hDc rfl rfl) rfl rfl hl.1 rfl (lv_room (Nat.le_of_ble_eq_true rfl)) dL_law_954 ⟨Nat.le_of_ble_eq_true rfl, Nat.le_of_ble_eq_true rfl⟩) (fun r4 u5 H locs p6 hP hD hS => ?_)
  have hP : va_P D vwCl [] H := hP
  have hD : va_D A [] := hD
  obtain rfl := p6
  refine lv_icmp_eq (tgt := 1880) hx hb dL_law_957 (by decide) (fun _ => ?_) (fun c9 => absurd rfl c9)
  rw [hAe] at hS
  exact law_tail C0 hS (lv_sub hl [0, 3] rfl) (Nat.le_of_ble_eq_true rfl) (Nat.le_of_ble_eq_true rfl)
set_option maxHeartbeats 8000000 in
set_option maxRecDepth 100000 in
theorem law_case_20 {p : Program} {l : Launch} {e : Env} {s : State} {m : MethodId} {below : List Frame} {meth : Method} {c : Code} {b : Nat} {xs : Nat → Int32} {D : va_G} {cI cB cS cZ cW : ClassId} {aL : Nat} {qL : Nat → Nat} {qW : Nat → Nat} {qA : Nat → Nat} {fL : Nat → Int32} {aM : Nat} {qM : Nat → Nat} {mL : Nat → Int32} (C0 : lw_At p s m meth c b 6 xs) (hE : gE D (gT cI cB cS cZ cW) s) : ∀ {H : Heap} {locs : List Loc} {ls : Array Slot}, va_P D vwCl [(aL, .inr (11, [.ref (qL 0), .ref (qL 1), .null, .null, .null, .null, .null])), ((qL 0), .inr (10, [.int 0, .ref (qW 1), .ref (qW 2), .ref (qW 3), .ref (qW 4), .ref (qW 5)])), ((qW 4), .inr (0, [.ref (qA 0), .int 0, .ref (qA 2), .ref (qA 3), .int 0, .ref (qA 5), .ref (qA 6), .ref (qA 7), .ref (qA 8), .ref (qA 9), .ref (qA 10), .ref (qA 11), .ref (qA 12), .ref (qA 13)])), ((qA 0), .inl (cI, 32, .inl fL)), (aM, oM qM 0 0 0 0 0 0 0 0 0 0 0 0 0 0 0 0 0 0), ((qM 28), .inl (cI, 128, .inl mL))] H → va_D (fun q : Nat => s.heap.size ≤ q) [(aL, .inr (11, [.ref (qL 0), .ref (qL 1), .null, .null, .null, .null, .null])), ((qL 0), .inr (10, [.int 0, .ref (qW 1), .ref (qW 2), .ref (qW 3), .ref (qW 4), .ref (qW 5)])), ((qW 4), .inr (0, [.ref (qA 0), .int 0, .ref (qA 2), .ref (qA 3), .int 0, .ref (qA 5), .ref (qA 6), .ref (qA 7), .ref (qA 8), .ref (qA 9), .ref (qA 10), .ref (qA 11), .ref (qA 12), .ref (qA 13)])), ((qA 0), .inl (cI, 32, .inl fL)), (aM, oM qM 0 0 0 0 0 0 0 0 0 0 0 0 0 0 0 0 0 0), ((qM 28), .inl (cI, 128, .inl mL))] → va_S (fun q : Nat => s.heap.size ≤ q) s.heap H locs → lv_has ls 4 [(0, .ref b), (1, .ref aL), (2, .ref aM), (3, .int 0)] → W p l e room_1 s m #[Value.ref b] below meth c H locs 136 31006 (lw_Z below #[Value.ref b] s) (F0 m 962 ls []) := by
  obtain ⟨hx, hb, hr, hml, hown, hts0, hX, hbl, hlocks, hgv⟩ := id C0
  have htg : ∀ w ∈ GL, w.before #[Value.ref b] s = true := fun w h => hts0 w (GL_sub w h)
  have hts := hts0
  have hown : s.vm.findClass RL = some m.cls := hown
  have hF : CallFix p m c cL_law 4 s #[Value.ref b] lw_tbl RL := ⟨hx, hb, hml, hown, hts⟩
  have hbA : ¬ (fun q : Nat => s.heap.size ≤ q) b := Nat.not_le.mpr hbl
  obtain ⟨A, hAe⟩ : ∃ A : Nat → Prop, A = (fun q : Nat => s.heap.size ≤ q) := ⟨_, rfl⟩
  have hA : ∀ q, s.heap.size ≤ q → A q := fun q h => by rw [hAe]; exact h
  rw [← hAe]
  rw [← hAe] at hbA
  intro H locs ls hP hD hS hl
  obtain ⟨x1, ex1⟩ : ∃ y : Int32, y = xs (1 : Int32).toNatClampNeg := ⟨_, rfl⟩
  obtain ⟨x2, ex2⟩ : ∃ y : Int32, y = xs (2 : Int32).toNatClampNeg := ⟨_, rfl⟩
  obtain ⟨x3, ex3⟩ : ∃ y : Int32, y = xs (3 : Int32).toNatClampNeg := ⟨_, rfl⟩
  have z1 := t_1
  have z2 := t_2
  have z3 := t_3
  refine lv_aload_n hx hb dL_law_962 rfl (lv_at hl 1 rfl) ?_
  refine lv_aload_n hx hb dL_law_963 rfl (lv_at hl 0 rfl) ?_
  refine lv_iload_n hx hb dL_law_964 rfl (lv_at hl 3 rfl) ?_
  refine lv_iconst (v := 1) hx hb dL_law_965 (by decide +kernel) ?_
  refine lv_iadd hx hb dL_law_966 ?_
  refine g_top 1 (by decide +kernel) ?_
  refine va_sld hx hb hX hbl hbA hS (vp_in_iff.mpr ⟨by decide +kernel, by decide +kernel⟩) dL_law_967 ?_
  refine g_top x1 ex1.symm ?_
  refine lv_aload_n hx hb dL_law_968 rfl (lv_at hl 0 rfl) ?_
  refine lv_iload_n hx hb dL_law_969 rfl (lv_at hl 3 rfl) ?_
  refine lv_iconst (v := 2) hx hb dL_law_970 (by decide +kernel) ?_
  refine lv_iadd hx hb dL_law_971 ?_
  refine g_top 2 (by decide +kernel) ?_
  refine va_sld hx hb hX hbl hbA hS (vp_in_iff.mpr ⟨by decide +kernel, by decide +kernel⟩) dL_law_972 ?_
  refine g_top x2 ex2.symm ?_
  refine lv_aload_n hx hb dL_law_973 rfl (lv_at hl 0 rfl) ?_
  refine lv_iload_n hx hb dL_law_974 rfl (lv_at hl 3 rfl) ?_
  refine lv_iconst (v := 3) hx hb dL_law_975 (by decide +kernel) ?_
  refine lv_iadd hx hb dL_law_976 ?_
  refine g_top 3 (by decide +kernel) ?_
  refine va_sld hx hb hX hbl hbA hS (vp_in_iff.mpr ⟨by decide +kernel, by decide +kernel⟩) dL_law_977 ?_
  refine g_top x3 ex3.symm ?_
  refine g_ai (D := D) (wc := [(aL, .inr (11, [.ref (qL 0), .ref (qL 1), .null, .null, .null, .null, .null])), ((qL 0), .inr (10, [.int 0, .ref (qW 1), .ref (qW 2), .ref (qW 3), .ref (qW 4), .ref (qW 5)])), ((qW 4), .inr (0, [.ref (qA 0), .int 0, .ref (qA 2), .ref (qA 3), .int 0, .ref (qA 5), .ref (qA 6), .ref (qA 7), .ref (qA 8), .ref (qA 9), .ref (qA 10), .ref (qA 11), .ref (qA 12), .ref (qA 13)])), ((qA 0), .inl (cI, 32, .inl fL))]) (wr := [(aM, oM qM 0 0 0 0 0 0 0 0 0 0 0 0 0 0 0 0 0 0), ((qM 28), .inl (cI, 128, .inl mL))]) hP hD hS hA [0, 1, 2, 3] [4, 5] rfl rfl rfl rfl (by decide) (fun hPc hDc => va_runV (As := [.int x1, .int x2, .int x3]) (rest := []) hF (c_X11_letter (l := l) (D := D) (cI := cI) (cB := cB) (cS := cS) (cZ := cZ) (cW := cW) (aL := aL) (y0 := x1) (y1 := x2) (y2 := x3) (qL := qL) (qW := qW) (qA := qA) (fL := fL)) (cwV 3 hts (gGV GL_sub wm_801 wm_802 wm_803 wm_151 wm_804) rfl rfl rfl (by decide +kernel) ⟨Nat.le_of_ble_eq_true rfl, Nat.le_of_ble_eq_true rfl⟩) (g_preV (q := (RX11, TX11, 7)) (ci := 11) (q0 := 0) hE hPc hDc rfl rfl) rfl rfl hl.1 rfl (lv_room (Nat.le_of_ble_eq_true rfl)) dL_law_978 ⟨Nat.le_of_ble_eq_true rfl, Nat.le_of_ble_eq_true rfl⟩) (fun r1 u2 H locs p3 hP hD hS => ?_)
  have hP : va_P D vwCl [(aM, oM qM 0 0 0 0 0 0 0 0 0 0 0 0 0 0 0 0 0 0), ((qM 28), .inl (cI, 128, .inl mL))] H := hP
  have hD : va_D A [(aM, oM qM 0 0 0 0 0 0 0 0 0 0 0 0 0 0 0 0 0 0), ((qM 28), .inl (cI, 128, .inl mL))] := hD
  refine lv_aload_n hx hb dL_law_981 rfl (lv_at hl 2 rfl) ?_
  refine lv_aload_n hx hb dL_law_982 rfl (lv_at hl 0 rfl) ?_
  refine lv_iload_n hx hb dL_law_983 rfl (lv_at hl 3 rfl) ?_
  refine lv_iconst (v := 1) hx hb dL_law_984 (by decide +kernel) ?_
  refine lv_iadd hx hb dL_law_985 ?_
  refine g_top 1 (by decide +kernel) ?_
  refine va_sld hx hb hX hbl hbA hS (vp_in_iff.mpr ⟨by decide +kernel, by decide +kernel⟩) dL_law_986 ?_
  refine g_top x1 ex1.symm ?_
  refine lv_aload_n hx hb dL_law_987 rfl (lv_at hl 0 rfl) ?_
  refine lv_iload_n hx hb dL_law_988 rfl (lv_at hl 3 rfl) ?_
  refine lv_iconst (v := 2) hx hb dL_law_989 (by decide +kernel) ?_
  refine lv_iadd hx hb dL_law_990 ?_
  refine g_top 2 (by decide +kernel) ?_
  refine va_sld hx hb hX hbl hbA hS (vp_in_iff.mpr ⟨by decide +kernel, by decide +kernel⟩) dL_law_991 ?_
  refine g_top x2 ex2.symm ?_
  refine lv_aload_n hx hb dL_law_992 rfl (lv_at hl 0 rfl) ?_
  refine lv_iload_n hx hb dL_law_993 rfl (lv_at hl 3 rfl) ?_
  refine lv_iconst (v := 3) hx hb dL_law_994 (by decide +kernel) ?_
  refine lv_iadd hx hb dL_law_995 ?_
  refine g_top 3 (by decide +kernel) ?_
  refine va_sld hx hb hX hbl hbA hS (vp_in_iff.mpr ⟨by decide +kernel, by decide +kernel⟩) dL_law_996 ?_
  refine g_top x3 ex3.symm ?_
  refine g_ai (D := D) (wc := [(aM, oM qM 0 0 0 0 0 0 0 0 0 0 0 0 0 0 0 0 0 0), ((qM 28), .inl (cI, 128, .inl mL))]) (wr := []) hP hD hS hA [0, 1] [] rfl rfl rfl rfl (by decide) (fun hPc hDc => va_runV (As := [.int x1, .int x2, .int x3]) (rest := [.int r1]) hF (c_X12_letter (l := l) (D := D) (cI := cI) (cB := cB) (cS := cS) (cZ := cZ) (cW := cW) (aM := aM) (y0 := x1) (y1 := x2) (y2 := x3) (qM := qM) (mL := mL)) (cwV 3 hts (gGV GL_sub wm_805 wm_806 wm_807 wm_550 wm_808) rfl rfl rfl (by decide +kernel) ⟨Nat.le_of_ble_eq_true rfl, Nat.le_of_ble_eq_true rfl⟩) (g_preV (q := (RX12, TX12, 97)) (ci := 12) (q0 := 0) hE hPc hDc rfl rfl) rfl rfl hl.1 rfl (lv_room (Nat.le_of_ble_eq_true rfl)) dL_law_997 ⟨Nat.le_of_ble_eq_true rfl, Nat.le_of_ble_eq_true rfl⟩) (fun r4 u5 H locs p6 hP hD hS => ?_)
  have hP : va_P D vwCl [] H := hP
  have hD : va_D A [] := hD
  refine lv_icmp_eq (tgt := 1880) hx hb dL_law_1000 (by decide) (fun _ => ?_) (fun c9 => absurd (p3.trans p6.symm) c9)
  rw [hAe] at hS
  exact law_tail C0 hS (lv_sub hl [0, 3] rfl) (Nat.le_of_ble_eq_true rfl) (Nat.le_of_ble_eq_true rfl)
set_option maxHeartbeats 8000000 in
set_option maxRecDepth 100000 in
theorem law_case_21 {p : Program} {l : Launch} {e : Env} {s : State} {m : MethodId} {below : List Frame} {meth : Method} {c : Code} {b : Nat} {xs : Nat → Int32} {D : va_G} {cI cB cS cZ cW : ClassId} {aL : Nat} {qL : Nat → Nat} {qW : Nat → Nat} {qA : Nat → Nat} {aM : Nat} {qM : Nat → Nat} (C0 : lw_At p s m meth c b 6 xs) (hE : gE D (gT cI cB cS cZ cW) s) : ∀ {H : Heap} {locs : List Loc} {ls : Array Slot}, va_P D vwCl [(aL, .inr (11, [.ref (qL 0), .ref (qL 1), .null, .null, .null, .null, .null])), ((qL 0), .inr (10, [.int 0, .ref (qW 1), .ref (qW 2), .ref (qW 3), .ref (qW 4), .ref (qW 5)])), ((qW 4), .inr (0, [.ref (qA 0), .int 0, .ref (qA 2), .ref (qA 3), .int 0, .ref (qA 5), .ref (qA 6), .ref (qA 7), .ref (qA 8), .ref (qA 9), .ref (qA 10), .ref (qA 11), .ref (qA 12), .ref (qA 13)])), ((qA 2), .inl (cI, 16, .inl (fun _ => 0))), ((qA 3), .inl (cI, 16, .inl (fun _ => 0))), (aM, oM qM 0 0 0 0 0 0 0 0 0 0 0 0 0 0 0 0 0 0), ((qM 5), .inl (cI, 4, .inl (fun _ => 0))), ((qM 38), .inl (cI, 4, .inl (fun _ => 0))), ((qM 39), .inl (cI, 64, .inl (fun _ => 0))), ((qM 40), .inl (cI, 64, .inl (fun _ => 0)))] H → va_D (fun q : Nat => s.heap.size ≤ q) [(aL, .inr (11, [.ref (qL 0), .ref (qL 1), .null, .null, .null, .null, .null])), ((qL 0), .inr (10, [.int 0, .ref (qW 1), .ref (qW 2), .ref (qW 3), .ref (qW 4), .ref (qW 5)])), ((qW 4), .inr (0, [.ref (qA 0), .int 0, .ref (qA 2), .ref (qA 3), .int 0, .ref (qA 5), .ref (qA 6), .ref (qA 7), .ref (qA 8), .ref (qA 9), .ref (qA 10), .ref (qA 11), .ref (qA 12), .ref (qA 13)])), ((qA 2), .inl (cI, 16, .inl (fun _ => 0))), ((qA 3), .inl (cI, 16, .inl (fun _ => 0))), (aM, oM qM 0 0 0 0 0 0 0 0 0 0 0 0 0 0 0 0 0 0), ((qM 5), .inl (cI, 4, .inl (fun _ => 0))), ((qM 38), .inl (cI, 4, .inl (fun _ => 0))), ((qM 39), .inl (cI, 64, .inl (fun _ => 0))), ((qM 40), .inl (cI, 64, .inl (fun _ => 0)))] → va_S (fun q : Nat => s.heap.size ≤ q) s.heap H locs → lv_has ls 4 [(0, .ref b), (1, .ref aL), (2, .ref aM), (3, .int 0)] → W p l e room_1 s m #[Value.ref b] below meth c H locs 136 31006 (lw_Z below #[Value.ref b] s) (F0 m 1005 ls []) := by
  obtain ⟨hx, hb, hr, hml, hown, hts0, hX, hbl, hlocks, hgv⟩ := id C0
  have htg : ∀ w ∈ GL, w.before #[Value.ref b] s = true := fun w h => hts0 w (GL_sub w h)
  have hts := hts0
  have hown : s.vm.findClass RL = some m.cls := hown
  have hF : CallFix p m c cL_law 4 s #[Value.ref b] lw_tbl RL := ⟨hx, hb, hml, hown, hts⟩
  have hbA : ¬ (fun q : Nat => s.heap.size ≤ q) b := Nat.not_le.mpr hbl
  obtain ⟨A, hAe⟩ : ∃ A : Nat → Prop, A = (fun q : Nat => s.heap.size ≤ q) := ⟨_, rfl⟩
  have hA : ∀ q, s.heap.size ≤ q → A q := fun q h => by rw [hAe]; exact h
  rw [← hAe]
  rw [← hAe] at hbA
  intro H locs ls hP hD hS hl
  obtain ⟨x1, ex1⟩ : ∃ y : Int32, y = xs (1 : Int32).toNatClampNeg := ⟨_, rfl⟩
  have z1 := t_1
  refine lv_aload_n hx hb dL_law_1005 rfl (lv_at hl 1 rfl) ?_
  refine lv_aload_n hx hb dL_law_1006 rfl (lv_at hl 0 rfl) ?_
  refine lv_iload_n hx hb dL_law_1007 rfl (lv_at hl 3 rfl) ?_
  refine lv_iconst (v := 1) hx hb dL_law_1008 (by decide +kernel) ?_
  refine lv_iadd hx hb dL_law_1009 ?_
  refine g_top 1 (by decide +kernel) ?_
  refine va_sld hx hb hX hbl hbA hS (vp_in_iff.mpr ⟨by decide +kernel, by decide +kernel⟩) dL_law_1010 ?_
  refine g_top x1 ex1.symm ?_
  refine g_ai (D := D) (wc := [(aL, .inr (11, [.ref (qL 0), .ref (qL 1), .null, .null, .null, .null, .null])), ((qL 0), .inr (10, [.int 0, .ref (qW 1), .ref (qW 2), .ref (qW 3), .ref (qW 4), .ref (qW 5)])), ((qW 4), .inr (0, [.ref (qA 0), .int 0, .ref (qA 2), .ref (qA 3), .int 0, .ref (qA 5), .ref (qA 6), .ref (qA 7), .ref (qA 8), .ref (qA 9), .ref (qA 10), .ref (qA 11), .ref (qA 12), .ref (qA 13)])), ((qA 2), .inl (cI, 16, .inl (fun _ => 0))), ((qA 3), .inl (cI, 16, .inl (fun _ => 0)))]) (wr := [(aM, oM qM 0 0 0 0 0 0 0 0 0 0 0 0 0 0 0 0 0 0), ((qM 5), .inl (cI, 4, .inl (fun _ => 0))), ((qM 38), .inl (cI, 4, .inl (fun _ => 0))), ((qM 39), .inl (cI, 64, .inl (fun _ => 0))), ((qM 40), .inl (cI, 64, .inl (fun _ => 0)))]) hP hD hS hA [0, 1, 2, 3, 4] [5, 6, 7, 8, 9] rfl rfl rfl rfl (by decide) (fun hPc hDc => va_runV (As := [.int x1]) (rest := []) hF (c_X11_tape (l := l) (D := D) (cI := cI) (cB := cB) (cS := cS) (cZ := cZ) (cW := cW) (aL := aL) (y0 := x1) (qL := qL) (qW := qW) (qA := qA)) (cwV 1 hts (gGV GL_sub wm_809 wm_810 wm_811 wm_151 wm_812) rfl rfl rfl (by decide +kernel) ⟨Nat.le_of_ble_eq_true rfl, Nat.le_of_ble_eq_true rfl⟩) (g_preV (q := (RX11, TX11, 7)) (ci := 11) (q0 := 0) hE hPc hDc rfl rfl) rfl rfl hl.1 rfl (lv_room (Nat.le_of_ble_eq_true rfl)) dL_law_1011 ⟨Nat.le_of_ble_eq_true rfl, Nat.le_of_ble_eq_true rfl⟩) (fun r1 u2 H locs p3 hP hD hS => ?_)
  have hP : va_P D vwCl [(aM, oM qM 0 0 0 0 0 0 0 0 0 0 0 0 0 0 0 0 0 0), ((qM 5), .inl (cI, 4, .inl (fun _ => 0))), ((qM 38), .inl (cI, 4, .inl (fun _ => 0))), ((qM 39), .inl (cI, 64, .inl (fun _ => 0))), ((qM 40), .inl (cI, 64, .inl (fun _ => 0)))] H := hP
  have hD : va_D A [(aM, oM qM 0 0 0 0 0 0 0 0 0 0 0 0 0 0 0 0 0 0), ((qM 5), .inl (cI, 4, .inl (fun _ => 0))), ((qM 38), .inl (cI, 4, .inl (fun _ => 0))), ((qM 39), .inl (cI, 64, .inl (fun _ => 0))), ((qM 40), .inl (cI, 64, .inl (fun _ => 0)))] := hD
  refine lv_aload_n hx hb dL_law_1014 rfl (lv_at hl 2 rfl) ?_
  refine lv_aload_n hx hb dL_law_1015 rfl (lv_at hl 0 rfl) ?_
  refine lv_iload_n hx hb dL_law_1016 rfl (lv_at hl 3 rfl) ?_
  refine lv_iconst (v := 1) hx hb dL_law_1017 (by decide +kernel) ?_
  refine lv_iadd hx hb dL_law_1018 ?_
  refine g_top 1 (by decide +kernel) ?_
  refine va_sld hx hb hX hbl hbA hS (vp_in_iff.mpr ⟨by decide +kernel, by decide +kernel⟩) dL_law_1019 ?_
  refine g_top x1 ex1.symm ?_
  refine g_ai (D := D) (wc := [(aM, oM qM 0 0 0 0 0 0 0 0 0 0 0 0 0 0 0 0 0 0), ((qM 5), .inl (cI, 4, .inl (fun _ => 0))), ((qM 38), .inl (cI, 4, .inl (fun _ => 0))), ((qM 39), .inl (cI, 64, .inl (fun _ => 0))), ((qM 40), .inl (cI, 64, .inl (fun _ => 0)))]) (wr := []) hP hD hS hA [0, 1, 2, 3, 4] [] rfl rfl rfl rfl (by decide) (fun hPc hDc => va_runV (As := [.int x1]) (rest := [.int r1]) hF (c_X12_tape (l := l) (D := D) (cI := cI) (cB := cB) (cS := cS) (cZ := cZ) (cW := cW) (aM := aM) (y0 := x1) (qM := qM)) (cwV 1 hts (gGV GL_sub wm_813 wm_814 wm_815 wm_550 wm_816) rfl rfl rfl (by decide +kernel) ⟨Nat.le_of_ble_eq_true rfl, Nat.le_of_ble_eq_true rfl⟩) (g_preV (q := (RX12, TX12, 97)) (ci := 12) (q0 := 0) hE hPc hDc rfl rfl) rfl rfl hl.1 rfl (lv_room (Nat.le_of_ble_eq_true rfl)) dL_law_1020 ⟨Nat.le_of_ble_eq_true rfl, Nat.le_of_ble_eq_true rfl⟩) (fun r4 u5 H locs p6 hP hD hS => ?_)
  have hP : va_P D vwCl [] H := hP
  have hD : va_D A [] := hD
  refine lv_icmp_eq (tgt := 1880) hx hb dL_law_1023 (by decide) (fun _ => ?_) (fun c9 => absurd (p3.trans p6.symm) c9)
  rw [hAe] at hS
  exact law_tail C0 hS (lv_sub hl [0, 3] rfl) (Nat.le_of_ble_eq_true rfl) (Nat.le_of_ble_eq_true rfl)
set_option maxHeartbeats 8000000 in
set_option maxRecDepth 100000 in
theorem law_case_22 {p : Program} {l : Launch} {e : Env} {s : State} {m : MethodId} {below : List Frame} {meth : Method} {c : Code} {b : Nat} {xs : Nat → Int32} {D : va_G} {cI cB cS cZ cW : ClassId} {aL : Nat} {qL : Nat → Nat} {qW : Nat → Nat} {qA : Nat → Nat} {aM : Nat} {qM : Nat → Nat} (C0 : lw_At p s m meth c b 6 xs) (hE : gE D (gT cI cB cS cZ cW) s) : ∀ {H : Heap} {locs : List Loc} {ls : Array Slot}, va_P D vwCl [(aL, .inr (11, [.ref (qL 0), .ref (qL 1), .null, .null, .null, .null, .null])), ((qL 0), .inr (10, [.int 0, .ref (qW 1), .ref (qW 2), .ref (qW 3), .ref (qW 4), .ref (qW 5)])), ((qW 4), .inr (0, [.ref (qA 0), .int 0, .ref (qA 2), .ref (qA 3), .int 0, .ref (qA 5), .ref (qA 6), .ref (qA 7), .ref (qA 8), .ref (qA 9), .ref (qA 10), .ref (qA 11), .ref (qA 12), .ref (qA 13)])), (aM, oM qM 0 0 0 0 0 0 0 0 0 0 0 0 0 0 0 0 0 0), ((qM 38), .inl (cI, 4, .inl (fun _ => 0)))] H → va_D (fun q : Nat => s.heap.size ≤ q) [(aL, .inr (11, [.ref (qL 0), .ref (qL 1), .null, .null, .null, .null, .null])), ((qL 0), .inr (10, [.int 0, .ref (qW 1), .ref (qW 2), .ref (qW 3), .ref (qW 4), .ref (qW 5)])), ((qW 4), .inr (0, [.ref (qA 0), .int 0, .ref (qA 2), .ref (qA 3), .int 0, .ref (qA 5), .ref (qA 6), .ref (qA 7), .ref (qA 8), .ref (qA 9), .ref (qA 10), .ref (qA 11), .ref (qA 12), .ref (qA 13)])), (aM, oM qM 0 0 0 0 0 0 0 0 0 0 0 0 0 0 0 0 0 0), ((qM 38), .inl (cI, 4, .inl (fun _ => 0)))] → va_S (fun q : Nat => s.heap.size ≤ q) s.heap H locs → lv_has ls 4 [(0, .ref b), (1, .ref aL), (2, .ref aM), (3, .int 0)] → W p l e room_1 s m #[Value.ref b] below meth c H locs 136 31006 (lw_Z below #[Value.ref b] s) (F0 m 1028 ls []) := by
  obtain ⟨hx, hb, hr, hml, hown, hts0, hX, hbl, hlocks, hgv⟩ := id C0
  have htg : ∀ w ∈ GL, w.before #[Value.ref b] s = true := fun w h => hts0 w (GL_sub w h)
  have hts := hts0
  have hown : s.vm.findClass RL = some m.cls := hown
  have hF : CallFix p m c cL_law 4 s #[Value.ref b] lw_tbl RL := ⟨hx, hb, hml, hown, hts⟩
  have hbA : ¬ (fun q : Nat => s.heap.size ≤ q) b := Nat.not_le.mpr hbl
  obtain ⟨A, hAe⟩ : ∃ A : Nat → Prop, A = (fun q : Nat => s.heap.size ≤ q) := ⟨_, rfl⟩
  have hA : ∀ q, s.heap.size ≤ q → A q := fun q h => by rw [hAe]; exact h
  rw [← hAe]
  rw [← hAe] at hbA
  intro H locs ls hP hD hS hl
  obtain ⟨x1, ex1⟩ : ∃ y : Int32, y = xs (1 : Int32).toNatClampNeg := ⟨_, rfl⟩
  have z0 := t_0
  have z1 := t_1
  refine lv_aload_n hx hb dL_law_1028 rfl (lv_at hl 1 rfl) ?_
  refine lv_aload_n hx hb dL_law_1029 rfl (lv_at hl 0 rfl) ?_
  refine lv_iload_n hx hb dL_law_1030 rfl (lv_at hl 3 rfl) ?_
  refine lv_iconst (v := 1) hx hb dL_law_1031 (by decide +kernel) ?_
  refine lv_iadd hx hb dL_law_1032 ?_
  refine g_top 1 (by decide +kernel) ?_
  refine va_sld hx hb hX hbl hbA hS (vp_in_iff.mpr ⟨by decide +kernel, by decide +kernel⟩) dL_law_1033 ?_
  refine g_top x1 ex1.symm ?_
  refine g_ai (D := D) (wc := [(aL, .inr (11, [.ref (qL 0), .ref (qL 1), .null, .null, .null, .null, .null])), ((qL 0), .inr (10, [.int 0, .ref (qW 1), .ref (qW 2), .ref (qW 3), .ref (qW 4), .ref (qW 5)])), ((qW 4), .inr (0, [.ref (qA 0), .int 0, .ref (qA 2), .ref (qA 3), .int 0, .ref (qA 5), .ref (qA 6), .ref (qA 7), .ref (qA 8), .ref (qA 9), .ref (qA 10), .ref (qA 11), .ref (qA 12), .ref (qA 13)]))]) (wr := [(aM, oM qM 0 0 0 0 0 0 0 0 0 0 0 0 0 0 0 0 0 0), ((qM 38), .inl (cI, 4, .inl (fun _ => 0)))]) hP hD hS hA [0, 1, 2] [3, 4] rfl rfl rfl rfl (by decide) (fun hPc hDc => va_runV (As := [.int x1]) (rest := []) hF (c_X11_copy (l := l) (D := D) (cI := cI) (cB := cB) (cS := cS) (cZ := cZ) (cW := cW) (aL := aL) (y0 := x1) (qL := qL) (qW := qW) (qA := qA)) (cwV 1 hts (gGV GL_sub wm_817 wm_818 wm_819 wm_151 wm_820) rfl rfl rfl (by decide +kernel) ⟨Nat.le_of_ble_eq_true rfl, Nat.le_of_ble_eq_true rfl⟩) (g_preV (q := (RX11, TX11, 7)) (ci := 11) (q0 := 0) hE hPc hDc rfl rfl) rfl rfl hl.1 rfl (lv_room (Nat.le_of_ble_eq_true rfl)) dL_law_1034 ⟨Nat.le_of_ble_eq_true rfl, Nat.le_of_ble_eq_true rfl⟩) (fun r1 u2 H locs p3 hP hD hS => ?_)
  have hP : va_P D vwCl [(aM, oM qM 0 0 0 0 0 0 0 0 0 0 0 0 0 0 0 0 0 0), ((qM 38), .inl (cI, 4, .inl (fun _ => 0)))] H := hP
  have hD : va_D A [(aM, oM qM 0 0 0 0 0 0 0 0 0 0 0 0 0 0 0 0 0 0), ((qM 38), .inl (cI, 4, .inl (fun _ => 0)))] := hD
  obtain rfl := p3
  refine lv_aload_n hx hb dL_law_1037 rfl (lv_at hl 2 rfl) ?_
  refine lv_aload_n hx hb dL_law_1038 rfl (lv_at hl 0 rfl) ?_
  refine lv_iload_n hx hb dL_law_1039 rfl (lv_at hl 3 rfl) ?_
  refine lv_iconst (v := 1) hx hb dL_law_1040 (by decide +kernel) ?_
  refine lv_iadd hx hb dL_law_1041 ?_
  refine g_top 1 (by decide +kernel) ?_
  refine va_sld hx hb hX hbl hbA hS (vp_in_iff.mpr ⟨by decide +kernel, by decide +kernel⟩) dL_law_1042 ?_
  refine g_top x1 ex1.symm ?_
  refine g_ai (D := D) (wc := [(aM, oM qM 0 0 0 0 0 0 0 0 0 0 0 0 0 0 0 0 0 0), ((qM 38), .inl (cI, 4, .inl (fun _ => 0)))]) (wr := []) hP hD hS hA [0, 1] [] rfl rfl rfl rfl (by decide) (fun hPc hDc => va_runV (As := [.int x1]) (rest := [.int 0]) hF (c_X12_copy (l := l) (D := D) (cI := cI) (cB := cB) (cS := cS) (cZ := cZ) (cW := cW) (aM := aM) (y0 := x1) (qM := qM)) (cwV 1 hts (gGV GL_sub wm_821 wm_822 wm_823 wm_550 wm_824) rfl rfl rfl (by decide +kernel) ⟨Nat.le_of_ble_eq_true rfl, Nat.le_of_ble_eq_true rfl⟩) (g_preV (q := (RX12, TX12, 97)) (ci := 12) (q0 := 0) hE hPc hDc rfl rfl) rfl rfl hl.1 rfl (lv_room (Nat.le_of_ble_eq_true rfl)) dL_law_1043 ⟨Nat.le_of_ble_eq_true rfl, Nat.le_of_ble_eq_true rfl⟩) (fun r4 u5 H locs p6 hP hD hS => ?_)
  have hP : va_P D vwCl [] H := hP
  have hD : va_D A [] := hD
  obtain rfl := p6
  refine lv_icmp_eq (tgt := 1880) hx hb dL_law_1046 (by decide) (fun _ => ?_) (fun c9 => absurd rfl c9)
  rw [hAe] at hS
  exact law_tail C0 hS (lv_sub hl [0, 3] rfl) (Nat.le_of_ble_eq_true rfl) (Nat.le_of_ble_eq_true rfl)
set_option maxHeartbeats 8000000 in
set_option maxRecDepth 100000 in
theorem law_case_23 {p : Program} {l : Launch} {e : Env} {s : State} {m : MethodId} {below : List Frame} {meth : Method} {c : Code} {b : Nat} {xs : Nat → Int32} {D : va_G} {cI cB cS cZ cW : ClassId} {aL : Nat} {qL : Nat → Nat} {qW : Nat → Nat} {qA : Nat → Nat} {aM : Nat} {qM : Nat → Nat} (C0 : lw_At p s m meth c b 6 xs) (hE : gE D (gT cI cB cS cZ cW) s) : ∀ {H : Heap} {locs : List Loc} {ls : Array Slot}, va_P D vwCl [(aL, .inr (11, [.ref (qL 0), .ref (qL 1), .null, .null, .null, .null, .null])), ((qL 0), .inr (10, [.int 0, .ref (qW 1), .ref (qW 2), .ref (qW 3), .ref (qW 4), .ref (qW 5)])), ((qW 4), .inr (0, [.ref (qA 0), .int 0, .ref (qA 2), .ref (qA 3), .int 0, .ref (qA 5), .ref (qA 6), .ref (qA 7), .ref (qA 8), .ref (qA 9), .ref (qA 10), .ref (qA 11), .ref (qA 12), .ref (qA 13)])), (aM, oM qM 0 0 0 0 0 0 0 0 0 0 0 0 0 0 0 0 0 0), ((qM 38), .inl (cI, 4, .inl (fun _ => 0)))] H → va_D (fun q : Nat => s.heap.size ≤ q) [(aL, .inr (11, [.ref (qL 0), .ref (qL 1), .null, .null, .null, .null, .null])), ((qL 0), .inr (10, [.int 0, .ref (qW 1), .ref (qW 2), .ref (qW 3), .ref (qW 4), .ref (qW 5)])), ((qW 4), .inr (0, [.ref (qA 0), .int 0, .ref (qA 2), .ref (qA 3), .int 0, .ref (qA 5), .ref (qA 6), .ref (qA 7), .ref (qA 8), .ref (qA 9), .ref (qA 10), .ref (qA 11), .ref (qA 12), .ref (qA 13)])), (aM, oM qM 0 0 0 0 0 0 0 0 0 0 0 0 0 0 0 0 0 0), ((qM 38), .inl (cI, 4, .inl (fun _ => 0)))] → va_S (fun q : Nat => s.heap.size ≤ q) s.heap H locs → lv_has ls 4 [(0, .ref b), (1, .ref aL), (2, .ref aM), (3, .int 0)] → W p l e room_1 s m #[Value.ref b] below meth c H locs 136 31006 (lw_Z below #[Value.ref b] s) (F0 m 1051 ls []) := by
  obtain ⟨hx, hb, hr, hml, hown, hts0, hX, hbl, hlocks, hgv⟩ := id C0
  have htg : ∀ w ∈ GL, w.before #[Value.ref b] s = true := fun w h => hts0 w (GL_sub w h)
  have hts := hts0
  have hown : s.vm.findClass RL = some m.cls := hown
  have hF : CallFix p m c cL_law 4 s #[Value.ref b] lw_tbl RL := ⟨hx, hb, hml, hown, hts⟩
  have hbA : ¬ (fun q : Nat => s.heap.size ≤ q) b := Nat.not_le.mpr hbl
  obtain ⟨A, hAe⟩ : ∃ A : Nat → Prop, A = (fun q : Nat => s.heap.size ≤ q) := ⟨_, rfl⟩
  have hA : ∀ q, s.heap.size ≤ q → A q := fun q h => by rw [hAe]; exact h
  rw [← hAe]
  rw [← hAe] at hbA
  intro H locs ls hP hD hS hl
  obtain ⟨x1, ex1⟩ : ∃ y : Int32, y = xs (1 : Int32).toNatClampNeg := ⟨_, rfl⟩
  obtain ⟨x2, ex2⟩ : ∃ y : Int32, y = xs (2 : Int32).toNatClampNeg := ⟨_, rfl⟩
  have zm1 := tm_1
  have z1 := t_1
  have z2 := t_2
  refine lv_aload_n hx hb dL_law_1051 rfl (lv_at hl 1 rfl) ?_
  refine lv_aload_n hx hb dL_law_1052 rfl (lv_at hl 0 rfl) ?_
  refine lv_iload_n hx hb dL_law_1053 rfl (lv_at hl 3 rfl) ?_
  refine lv_iconst (v := 1) hx hb dL_law_1054 (by decide +kernel) ?_
  refine lv_iadd hx hb dL_law_1055 ?_
  refine g_top 1 (by decide +kernel) ?_
  refine va_sld hx hb hX hbl hbA hS (vp_in_iff.mpr ⟨by decide +kernel, by decide +kernel⟩) dL_law_1056 ?_
  refine g_top x1 ex1.symm ?_
  refine lv_aload_n hx hb dL_law_1057 rfl (lv_at hl 0 rfl) ?_
  refine lv_iload_n hx hb dL_law_1058 rfl (lv_at hl 3 rfl) ?_
  refine lv_iconst (v := 2) hx hb dL_law_1059 (by decide +kernel) ?_
  refine lv_iadd hx hb dL_law_1060 ?_
  refine g_top 2 (by decide +kernel) ?_
  refine va_sld hx hb hX hbl hbA hS (vp_in_iff.mpr ⟨by decide +kernel, by decide +kernel⟩) dL_law_1061 ?_
  refine g_top x2 ex2.symm ?_
  refine g_ai (D := D) (wc := [(aL, .inr (11, [.ref (qL 0), .ref (qL 1), .null, .null, .null, .null, .null])), ((qL 0), .inr (10, [.int 0, .ref (qW 1), .ref (qW 2), .ref (qW 3), .ref (qW 4), .ref (qW 5)])), ((qW 4), .inr (0, [.ref (qA 0), .int 0, .ref (qA 2), .ref (qA 3), .int 0, .ref (qA 5), .ref (qA 6), .ref (qA 7), .ref (qA 8), .ref (qA 9), .ref (qA 10), .ref (qA 11), .ref (qA 12), .ref (qA 13)]))]) (wr := [(aM, oM qM 0 0 0 0 0 0 0 0 0 0 0 0 0 0 0 0 0 0), ((qM 38), .inl (cI, 4, .inl (fun _ => 0)))]) hP hD hS hA [0, 1, 2] [3, 4] rfl rfl rfl rfl (by decide) (fun hPc hDc => va_runV (As := [.int x1, .int x2]) (rest := []) hF (c_X11_about (l := l) (D := D) (cI := cI) (cB := cB) (cS := cS) (cZ := cZ) (cW := cW) (aL := aL) (y0 := x1) (y1 := x2) (qL := qL) (qW := qW) (qA := qA)) (cwV 2 hts (gGV GL_sub wm_825 wm_826 wm_827 wm_151 wm_828) rfl rfl rfl (by decide +kernel) ⟨Nat.le_of_ble_eq_true rfl, Nat.le_of_ble_eq_true rfl⟩) (g_preV (q := (RX11, TX11, 7)) (ci := 11) (q0 := 0) hE hPc hDc rfl rfl) rfl rfl hl.1 rfl (lv_room (Nat.le_of_ble_eq_true rfl)) dL_law_1062 ⟨Nat.le_of_ble_eq_true rfl, Nat.le_of_ble_eq_true rfl⟩) (fun r1 u2 H locs p3 hP hD hS => ?_)
  have hP : va_P D vwCl [(aM, oM qM 0 0 0 0 0 0 0 0 0 0 0 0 0 0 0 0 0 0), ((qM 38), .inl (cI, 4, .inl (fun _ => 0)))] H := hP
  have hD : va_D A [(aM, oM qM 0 0 0 0 0 0 0 0 0 0 0 0 0 0 0 0 0 0), ((qM 38), .inl (cI, 4, .inl (fun _ => 0)))] := hD
  obtain rfl := p3
  refine lv_aload_n hx hb dL_law_1065 rfl (lv_at hl 2 rfl) ?_
  refine lv_aload_n hx hb dL_law_1066 rfl (lv_at hl 0 rfl) ?_
  refine lv_iload_n hx hb dL_law_1067 rfl (lv_at hl 3 rfl) ?_
  refine lv_iconst (v := 1) hx hb dL_law_1068 (by decide +kernel) ?_
  refine lv_iadd hx hb dL_law_1069 ?_
  refine g_top 1 (by decide +kernel) ?_
  refine va_sld hx hb hX hbl hbA hS (vp_in_iff.mpr ⟨by decide +kernel, by decide +kernel⟩) dL_law_1070 ?_
  refine g_top x1 ex1.symm ?_
  refine lv_aload_n hx hb dL_law_1071 rfl (lv_at hl 0 rfl) ?_
  refine lv_iload_n hx hb dL_law_1072 rfl (lv_at hl 3 rfl) ?_
  refine lv_iconst (v := 2) hx hb dL_law_1073 (by decide +kernel) ?_
  refine lv_iadd hx hb dL_law_1074 ?_
  refine g_top 2 (by decide +kernel) ?_
  refine va_sld hx hb hX hbl hbA hS (vp_in_iff.mpr ⟨by decide +kernel, by decide +kernel⟩) dL_law_1075 ?_
  refine g_top x2 ex2.symm ?_
  refine g_ai (D := D) (wc := [(aM, oM qM 0 0 0 0 0 0 0 0 0 0 0 0 0 0 0 0 0 0), ((qM 38), .inl (cI, 4, .inl (fun _ => 0)))]) (wr := []) hP hD hS hA [0, 1] [] rfl rfl rfl rfl (by decide) (fun hPc hDc => va_runV (As := [.int x1, .int x2]) (rest := [.int (-1)]) hF (c_X12_about (l := l) (D := D) (cI := cI) (cB := cB) (cS := cS) (cZ := cZ) (cW := cW) (aM := aM) (y0 := x1) (y1 := x2) (qM := qM)) (cwV 2 hts (gGV GL_sub wm_829 wm_830 wm_831 wm_550 wm_832) rfl rfl rfl (by decide +kernel) ⟨Nat.le_of_ble_eq_true rfl, Nat.le_of_ble_eq_true rfl⟩) (g_preV (q := (RX12, TX12, 97)) (ci := 12) (q0 := 0) hE hPc hDc rfl rfl) rfl rfl hl.1 rfl (lv_room (Nat.le_of_ble_eq_true rfl)) dL_law_1076 ⟨Nat.le_of_ble_eq_true rfl, Nat.le_of_ble_eq_true rfl⟩) (fun r4 u5 H locs p6 hP hD hS => ?_)
  have hP : va_P D vwCl [] H := hP
  have hD : va_D A [] := hD
  obtain rfl := p6
  refine lv_icmp_eq (tgt := 1880) hx hb dL_law_1079 (by decide) (fun _ => ?_) (fun c9 => absurd rfl c9)
  rw [hAe] at hS
  exact law_tail C0 hS (lv_sub hl [0, 3] rfl) (Nat.le_of_ble_eq_true rfl) (Nat.le_of_ble_eq_true rfl)
