set_option maxHeartbeats 8000000 in
set_option maxRecDepth 100000 in
theorem law_case_24 {p : Program} {l : Launch} {e : Env} {s : State} {m : MethodId} {below : List Frame} {meth : Method} {c : Code} {b : Nat} {xs : Nat → Int32} {D : va_G} {cI cB cS cZ cW : ClassId} {aL : Nat} {qL : Nat → Nat} {qW : Nat → Nat} {qP : Nat → Nat} {aM : Nat} {qM : Nat → Nat} (C0 : lw_At p s m meth c b 6 xs) (hE : gE D (gT cI cB cS cZ cW) s) : ∀ {H : Heap} {locs : List Loc} {ls : Array Slot}, va_P D vwCl [(aL, .inr (11, [.ref (qL 0), .ref (qL 1), .null, .null, .null, .null, .null])), ((qL 0), .inr (10, [.int 0, .ref (qW 1), .ref (qW 2), .ref (qW 3), .ref (qW 4), .ref (qW 5)])), ((qW 2), .inr (6, [.int 0, .ref (qP 1), .ref (qP 2), .ref (qP 3), .ref (qP 4), .ref (qP 5), .ref (qP 6), .ref (qP 7), .ref (qP 8), .ref (qP 9), .ref (qP 10), .ref (qP 11), .ref (qP 12), .ref (qP 13), .ref (qP 14)])), (aM, oM qM 0 0 0 0 0 0 0 0 0 0 0 0 0 0 0 0 0 0), ((qM 14), .inl (cI, 4, .inl (fun _ => 0))), ((qM 41), .inl (cI, 4, .inl (fun _ => 0)))] H → va_D (fun q : Nat => s.heap.size ≤ q) [(aL, .inr (11, [.ref (qL 0), .ref (qL 1), .null, .null, .null, .null, .null])), ((qL 0), .inr (10, [.int 0, .ref (qW 1), .ref (qW 2), .ref (qW 3), .ref (qW 4), .ref (qW 5)])), ((qW 2), .inr (6, [.int 0, .ref (qP 1), .ref (qP 2), .ref (qP 3), .ref (qP 4), .ref (qP 5), .ref (qP 6), .ref (qP 7), .ref (qP 8), .ref (qP 9), .ref (qP 10), .ref (qP 11), .ref (qP 12), .ref (qP 13), .ref (qP 14)])), (aM, oM qM 0 0 0 0 0 0 0 0 0 0 0 0 0 0 0 0 0 0), ((qM 14), .inl (cI, 4, .inl (fun _ => 0))), ((qM 41), .inl (cI, 4, .inl (fun _ => 0)))] → va_S (fun q : Nat => s.heap.size ≤ q) s.heap H locs → lv_has ls 4 [(0, .ref b), (1, .ref aL), (2, .ref aM), (3, .int 0)] → W p l e room_1 s m #[Value.ref b] below meth c H locs 136 31006 (lw_Z below #[Value.ref b] s) (F0 m 1084 ls []) := by
  obtain ⟨hx, hb, hr, hml, hown, hts0, hX, hbl, hlocks, hgv⟩ := id C0
  have htg : ∀ w ∈ GL, w.before #[Value.ref b] s = true := fun w h => hts0 w (GL_sub w h)
  have hts := hts0
  have hown : s.vm.findClass RL = some m.cls := hown
  have hF : CallFix p m c cL_law 4 s #[Value.ref b] lw_tbl RL := ⟨hx, hb, hml, hown, hts⟩
  have hbA : ¬ (fun q : Nat => s.heap.size ≤ q) b := Nat.not_le.mpr hbl
  obtain ⟨A, hAe⟩ : ∃ A : Nat → Prop, A = (fun q : Nat => s.heap.size ≤ q) := ⟨_, rfl⟩
  have hA : ∀ q, s.heap.size ≤ q → A q := fun q h => by rw [hAe]; exact h
  rw [← hAe]
  rw [← hAe] at hbA
  intro H locs ls hP hD hS hl
  obtain ⟨x1, ex1⟩ : ∃ y : Int32, y = xs (1 : Int32).toNatClampNeg := ⟨_, rfl⟩
  obtain ⟨x2, ex2⟩ : ∃ y : Int32, y = xs (2 : Int32).toNatClampNeg := ⟨_, rfl⟩
  obtain ⟨x3, ex3⟩ : ∃ y : Int32, y = xs (3 : Int32).toNatClampNeg := ⟨_, rfl⟩
  obtain ⟨x4, ex4⟩ : ∃ y : Int32, y = xs (4 : Int32).toNatClampNeg := ⟨_, rfl⟩
  have zm1 := tm_1
  have z1 := t_1
  have z2 := t_2
  have z3 := t_3
  have z4 := t_4
  refine lv_aload_n hx hb dL_law_1084 rfl (lv_at hl 1 rfl) ?_
  refine lv_aload_n hx hb dL_law_1085 rfl (lv_at hl 0 rfl) ?_
  refine lv_iload_n hx hb dL_law_1086 rfl (lv_at hl 3 rfl) ?_
  refine lv_iconst (v := 1) hx hb dL_law_1087 (by decide +kernel) ?_
  refine lv_iadd hx hb dL_law_1088 ?_
  refine g_top 1 (by decide +kernel) ?_
  refine va_sld hx hb hX hbl hbA hS (vp_in_iff.mpr ⟨by decide +kernel, by decide +kernel⟩) dL_law_1089 ?_
  refine g_top x1 ex1.symm ?_
  refine lv_aload_n hx hb dL_law_1090 rfl (lv_at hl 0 rfl) ?_
  refine lv_iload_n hx hb dL_law_1091 rfl (lv_at hl 3 rfl) ?_
  refine lv_iconst (v := 2) hx hb dL_law_1092 (by decide +kernel) ?_
  refine lv_iadd hx hb dL_law_1093 ?_
  refine g_top 2 (by decide +kernel) ?_
  refine va_sld hx hb hX hbl hbA hS (vp_in_iff.mpr ⟨by decide +kernel, by decide +kernel⟩) dL_law_1094 ?_
  refine g_top x2 ex2.symm ?_
  refine lv_aload_n hx hb dL_law_1095 rfl (lv_at hl 0 rfl) ?_
  refine lv_iload_n hx hb dL_law_1096 rfl (lv_at hl 3 rfl) ?_
  refine lv_iconst (v := 3) hx hb dL_law_1097 (by decide +kernel) ?_
  refine lv_iadd hx hb dL_law_1098 ?_
  refine g_top 3 (by decide +kernel) ?_
  refine va_sld hx hb hX hbl hbA hS (vp_in_iff.mpr ⟨by decide +kernel, by decide +kernel⟩) dL_law_1099 ?_
  refine g_top x3 ex3.symm ?_
  refine lv_aload_n hx hb dL_law_1100 rfl (lv_at hl 0 rfl) ?_
  refine lv_iload_n hx hb dL_law_1101 rfl (lv_at hl 3 rfl) ?_
  refine lv_iconst (v := 4) hx hb dL_law_1102 (by decide +kernel) ?_
  refine lv_iadd hx hb dL_law_1103 ?_
  refine g_top 4 (by decide +kernel) ?_
  refine va_sld hx hb hX hbl hbA hS (vp_in_iff.mpr ⟨by decide +kernel, by decide +kernel⟩) dL_law_1104 ?_
  refine g_top x4 ex4.symm ?_
  refine g_ai (D := D) (wc := [(aL, .inr (11, [.ref (qL 0), .ref (qL 1), .null, .null, .null, .null, .null])), ((qL 0), .inr (10, [.int 0, .ref (qW 1), .ref (qW 2), .ref (qW 3), .ref (qW 4), .ref (qW 5)])), ((qW 2), .inr (6, [.int 0, .ref (qP 1), .ref (qP 2), .ref (qP 3), .ref (qP 4), .ref (qP 5), .ref (qP 6), .ref (qP 7), .ref (qP 8), .ref (qP 9), .ref (qP 10), .ref (qP 11), .ref (qP 12), .ref (qP 13), .ref (qP 14)]))]) (wr := [(aM, oM qM 0 0 0 0 0 0 0 0 0 0 0 0 0 0 0 0 0 0), ((qM 14), .inl (cI, 4, .inl (fun _ => 0))), ((qM 41), .inl (cI, 4, .inl (fun _ => 0)))]) hP hD hS hA [0, 1, 2] [3, 4, 5] rfl rfl rfl rfl (by decide) (fun hPc hDc => va_runV (As := [.int x1, .int x2, .int x3, .int x4]) (rest := []) hF (c_X11_ask (l := l) (D := D) (cI := cI) (cB := cB) (cS := cS) (cZ := cZ) (cW := cW) (aL := aL) (y0 := x1) (y1 := x2) (y2 := x3) (y3 := x4) (qL := qL) (qW := qW) (qP := qP)) (cwV 4 hts (gGV GL_sub wm_833 wm_834 wm_835 wm_151 wm_836) rfl rfl rfl (by decide +kernel) ⟨Nat.le_of_ble_eq_true rfl, Nat.le_of_ble_eq_true rfl⟩) (g_preV (q := (RX11, TX11, 7)) (ci := 11) (q0 := 0) hE hPc hDc rfl rfl) rfl rfl hl.1 rfl (lv_room (Nat.le_of_ble_eq_true rfl)) dL_law_1105 ⟨Nat.le_of_ble_eq_true rfl, Nat.le_of_ble_eq_true rfl⟩) (fun r1 u2 H locs p3 hP hD hS => ?_)
  have hP : va_P D vwCl [(aM, oM qM 0 0 0 0 0 0 0 0 0 0 0 0 0 0 0 0 0 0), ((qM 14), .inl (cI, 4, .inl (fun _ => 0))), ((qM 41), .inl (cI, 4, .inl (fun _ => 0)))] H := hP
  have hD : va_D A [(aM, oM qM 0 0 0 0 0 0 0 0 0 0 0 0 0 0 0 0 0 0), ((qM 14), .inl (cI, 4, .inl (fun _ => 0))), ((qM 41), .inl (cI, 4, .inl (fun _ => 0)))] := hD
  obtain rfl := p3
  refine lv_aload_n hx hb dL_law_1108 rfl (lv_at hl 2 rfl) ?_
  refine lv_aload_n hx hb dL_law_1109 rfl (lv_at hl 0 rfl) ?_
  refine lv_iload_n hx hb dL_law_1110 rfl (lv_at hl 3 rfl) ?_
  refine lv_iconst (v := 1) hx hb dL_law_1111 (by decide +kernel) ?_
  refine lv_iadd hx hb dL_law_1112 ?_
  refine g_top 1 (by decide +kernel) ?_
  refine va_sld hx hb hX hbl hbA hS (vp_in_iff.mpr ⟨by decide +kernel, by decide +kernel⟩) dL_law_1113 ?_
  refine g_top x1 ex1.symm ?_
  refine lv_aload_n hx hb dL_law_1114 rfl (lv_at hl 0 rfl) ?_
  refine lv_iload_n hx hb dL_law_1115 rfl (lv_at hl 3 rfl) ?_
  refine lv_iconst (v := 2) hx hb dL_law_1116 (by decide +kernel) ?_
  refine lv_iadd hx hb dL_law_1117 ?_
  refine g_top 2 (by decide +kernel) ?_
  refine va_sld hx hb hX hbl hbA hS (vp_in_iff.mpr ⟨by decide +kernel, by decide +kernel⟩) dL_law_1118 ?_
  refine g_top x2 ex2.symm ?_
  refine lv_aload_n hx hb dL_law_1119 rfl (lv_at hl 0 rfl) ?_
  refine lv_iload_n hx hb dL_law_1120 rfl (lv_at hl 3 rfl) ?_
  refine lv_iconst (v := 3) hx hb dL_law_1121 (by decide +kernel) ?_
  refine lv_iadd hx hb dL_law_1122 ?_
  refine g_top 3 (by decide +kernel) ?_
  refine va_sld hx hb hX hbl hbA hS (vp_in_iff.mpr ⟨by decide +kernel, by decide +kernel⟩) dL_law_1123 ?_
  refine g_top x3 ex3.symm ?_
  refine lv_aload_n hx hb dL_law_1124 rfl (lv_at hl 0 rfl) ?_
  refine lv_iload_n hx hb dL_law_1125 rfl (lv_at hl 3 rfl) ?_
  refine lv_iconst (v := 4) hx hb dL_law_1126 (by decide +kernel) ?_
  refine lv_iadd hx hb dL_law_1127 ?_
  refine g_top 4 (by decide +kernel) ?_
  refine va_sld hx hb hX hbl hbA hS (vp_in_iff.mpr ⟨by decide +kernel, by decide +kernel⟩) dL_law_1128 ?_
  refine g_top x4 ex4.symm ?_
  refine g_ai (D := D) (wc := [(aM, oM qM 0 0 0 0 0 0 0 0 0 0 0 0 0 0 0 0 0 0), ((qM 14), .inl (cI, 4, .inl (fun _ => 0))), ((qM 41), .inl (cI, 4, .inl (fun _ => 0)))]) (wr := []) hP hD hS hA [0, 1, 2] [] rfl rfl rfl rfl (by decide) (fun hPc hDc => va_runV (As := [.int x1, .int x2, .int x3, .int x4]) (rest := [.int (-1)]) hF (c_X12_ask (l := l) (D := D) (cI := cI) (cB := cB) (cS := cS) (cZ := cZ) (cW := cW) (aM := aM) (y0 := x1) (y1 := x2) (y2 := x3) (y3 := x4) (qM := qM)) (cwV 4 hts (gGV GL_sub wm_837 wm_838 wm_839 wm_550 wm_840) rfl rfl rfl (by decide +kernel) ⟨Nat.le_of_ble_eq_true rfl, Nat.le_of_ble_eq_true rfl⟩) (g_preV (q := (RX12, TX12, 97)) (ci := 12) (q0 := 0) hE hPc hDc rfl rfl) rfl rfl hl.1 rfl (lv_room (Nat.le_of_ble_eq_true rfl)) dL_law_1129 ⟨Nat.le_of_ble_eq_true rfl, Nat.le_of_ble_eq_true rfl⟩) (fun r4 u5 H locs p6 hP hD hS => ?_)
  have hP : va_P D vwCl [] H := hP
  have hD : va_D A [] := hD
  obtain rfl := p6
  refine lv_icmp_eq (tgt := 1880) hx hb dL_law_1132 (by decide) (fun _ => ?_) (fun c9 => absurd rfl c9)
  rw [hAe] at hS
  exact law_tail C0 hS (lv_sub hl [0, 3] rfl) (Nat.le_of_ble_eq_true rfl) (Nat.le_of_ble_eq_true rfl)
set_option maxHeartbeats 8000000 in
set_option maxRecDepth 100000 in
theorem law_case_25 {p : Program} {l : Launch} {e : Env} {s : State} {m : MethodId} {below : List Frame} {meth : Method} {c : Code} {b : Nat} {xs : Nat → Int32} {D : va_G} {cI cB cS cZ cW : ClassId} {aL : Nat} {qL : Nat → Nat} {qW : Nat → Nat} {qA : Nat → Nat} {aM : Nat} {qM : Nat → Nat} (C0 : lw_At p s m meth c b 6 xs) (hE : gE D (gT cI cB cS cZ cW) s) : ∀ {H : Heap} {locs : List Loc} {ls : Array Slot}, va_P D vwCl [(aL, .inr (11, [.ref (qL 0), .ref (qL 1), .null, .null, .null, .null, .null])), ((qL 0), .inr (10, [.int 0, .ref (qW 1), .ref (qW 2), .ref (qW 3), .ref (qW 4), .ref (qW 5)])), ((qW 4), .inr (0, [.ref (qA 0), .int 0, .ref (qA 2), .ref (qA 3), .int 0, .ref (qA 5), .ref (qA 6), .ref (qA 7), .ref (qA 8), .ref (qA 9), .ref (qA 10), .ref (qA 11), .ref (qA 12), .ref (qA 13)])), (aM, oM qM 0 0 0 0 0 0 0 0 0 0 0 0 0 0 0 0 0 0), ((qM 41), .inl (cI, 4, .inl (fun _ => 0)))] H → va_D (fun q : Nat => s.heap.size ≤ q) [(aL, .inr (11, [.ref (qL 0), .ref (qL 1), .null, .null, .null, .null, .null])), ((qL 0), .inr (10, [.int 0, .ref (qW 1), .ref (qW 2), .ref (qW 3), .ref (qW 4), .ref (qW 5)])), ((qW 4), .inr (0, [.ref (qA 0), .int 0, .ref (qA 2), .ref (qA 3), .int 0, .ref (qA 5), .ref (qA 6), .ref (qA 7), .ref (qA 8), .ref (qA 9), .ref (qA 10), .ref (qA 11), .ref (qA 12), .ref (qA 13)])), (aM, oM qM 0 0 0 0 0 0 0 0 0 0 0 0 0 0 0 0 0 0), ((qM 41), .inl (cI, 4, .inl (fun _ => 0)))] → va_S (fun q : Nat => s.heap.size ≤ q) s.heap H locs → lv_has ls 4 [(0, .ref b), (1, .ref aL), (2, .ref aM), (3, .int 0)] → W p l e room_1 s m #[Value.ref b] below meth c H locs 136 31006 (lw_Z below #[Value.ref b] s) (F0 m 1137 ls []) := by
  obtain ⟨hx, hb, hr, hml, hown, hts0, hX, hbl, hlocks, hgv⟩ := id C0
  have htg : ∀ w ∈ GL, w.before #[Value.ref b] s = true := fun w h => hts0 w (GL_sub w h)
  have hts := hts0
  have hown : s.vm.findClass RL = some m.cls := hown
  have hF : CallFix p m c cL_law 4 s #[Value.ref b] lw_tbl RL := ⟨hx, hb, hml, hown, hts⟩
  have hbA : ¬ (fun q : Nat => s.heap.size ≤ q) b := Nat.not_le.mpr hbl
  obtain ⟨A, hAe⟩ : ∃ A : Nat → Prop, A = (fun q : Nat => s.heap.size ≤ q) := ⟨_, rfl⟩
  have hA : ∀ q, s.heap.size ≤ q → A q := fun q h => by rw [hAe]; exact h
  rw [← hAe]
  rw [← hAe] at hbA
  intro H locs ls hP hD hS hl
  obtain ⟨x1, ex1⟩ : ∃ y : Int32, y = xs (1 : Int32).toNatClampNeg := ⟨_, rfl⟩
  obtain ⟨x2, ex2⟩ : ∃ y : Int32, y = xs (2 : Int32).toNatClampNeg := ⟨_, rfl⟩
  have zm100 := tm_100
  have z1 := t_1
  have z2 := t_2
  refine lv_aload_n hx hb dL_law_1137 rfl (lv_at hl 1 rfl) ?_
  refine lv_aload_n hx hb dL_law_1138 rfl (lv_at hl 0 rfl) ?_
  refine lv_iload_n hx hb dL_law_1139 rfl (lv_at hl 3 rfl) ?_
  refine lv_iconst (v := 1) hx hb dL_law_1140 (by decide +kernel) ?_
  refine lv_iadd hx hb dL_law_1141 ?_
  refine g_top 1 (by decide +kernel) ?_
  refine va_sld hx hb hX hbl hbA hS (vp_in_iff.mpr ⟨by decide +kernel, by decide +kernel⟩) dL_law_1142 ?_
  refine g_top x1 ex1.symm ?_
  refine lv_aload_n hx hb dL_law_1143 rfl (lv_at hl 0 rfl) ?_
  refine lv_iload_n hx hb dL_law_1144 rfl (lv_at hl 3 rfl) ?_
  refine lv_iconst (v := 2) hx hb dL_law_1145 (by decide +kernel) ?_
  refine lv_iadd hx hb dL_law_1146 ?_
  refine g_top 2 (by decide +kernel) ?_
  refine va_sld hx hb hX hbl hbA hS (vp_in_iff.mpr ⟨by decide +kernel, by decide +kernel⟩) dL_law_1147 ?_
  refine g_top x2 ex2.symm ?_
  refine g_ai (D := D) (wc := [(aL, .inr (11, [.ref (qL 0), .ref (qL 1), .null, .null, .null, .null, .null])), ((qL 0), .inr (10, [.int 0, .ref (qW 1), .ref (qW 2), .ref (qW 3), .ref (qW 4), .ref (qW 5)])), ((qW 4), .inr (0, [.ref (qA 0), .int 0, .ref (qA 2), .ref (qA 3), .int 0, .ref (qA 5), .ref (qA 6), .ref (qA 7), .ref (qA 8), .ref (qA 9), .ref (qA 10), .ref (qA 11), .ref (qA 12), .ref (qA 13)]))]) (wr := [(aM, oM qM 0 0 0 0 0 0 0 0 0 0 0 0 0 0 0 0 0 0), ((qM 41), .inl (cI, 4, .inl (fun _ => 0)))]) hP hD hS hA [0, 1, 2] [3, 4] rfl rfl rfl rfl (by decide) (fun hPc hDc => va_runV (As := [.int x1, .int x2]) (rest := []) hF (c_X11_row (l := l) (D := D) (cI := cI) (cB := cB) (cS := cS) (cZ := cZ) (cW := cW) (aL := aL) (y0 := x1) (y1 := x2) (qL := qL) (qW := qW) (qA := qA)) (cwV 2 hts (gGV GL_sub wm_841 wm_842 wm_843 wm_151 wm_844) rfl rfl rfl (by decide +kernel) ⟨Nat.le_of_ble_eq_true rfl, Nat.le_of_ble_eq_true rfl⟩) (g_preV (q := (RX11, TX11, 7)) (ci := 11) (q0 := 0) hE hPc hDc rfl rfl) rfl rfl hl.1 rfl (lv_room (Nat.le_of_ble_eq_true rfl)) dL_law_1148 ⟨Nat.le_of_ble_eq_true rfl, Nat.le_of_ble_eq_true rfl⟩) (fun r1 u2 H locs p3 hP hD hS => ?_)
  have hP : va_P D vwCl [(aM, oM qM 0 0 0 0 0 0 0 0 0 0 0 0 0 0 0 0 0 0), ((qM 41), .inl (cI, 4, .inl (fun _ => 0)))] H := hP
  have hD : va_D A [(aM, oM qM 0 0 0 0 0 0 0 0 0 0 0 0 0 0 0 0 0 0), ((qM 41), .inl (cI, 4, .inl (fun _ => 0)))] := hD
  obtain rfl := p3
  refine lv_aload_n hx hb dL_law_1151 rfl (lv_at hl 2 rfl) ?_
  refine lv_aload_n hx hb dL_law_1152 rfl (lv_at hl 0 rfl) ?_
  refine lv_iload_n hx hb dL_law_1153 rfl (lv_at hl 3 rfl) ?_
  refine lv_iconst (v := 1) hx hb dL_law_1154 (by decide +kernel) ?_
  refine lv_iadd hx hb dL_law_1155 ?_
  refine g_top 1 (by decide +kernel) ?_
  refine va_sld hx hb hX hbl hbA hS (vp_in_iff.mpr ⟨by decide +kernel, by decide +kernel⟩) dL_law_1156 ?_
  refine g_top x1 ex1.symm ?_
  refine lv_aload_n hx hb dL_law_1157 rfl (lv_at hl 0 rfl) ?_
  refine lv_iload_n hx hb dL_law_1158 rfl (lv_at hl 3 rfl) ?_
  refine lv_iconst (v := 2) hx hb dL_law_1159 (by decide +kernel) ?_
  refine lv_iadd hx hb dL_law_1160 ?_
  refine g_top 2 (by decide +kernel) ?_
  refine va_sld hx hb hX hbl hbA hS (vp_in_iff.mpr ⟨by decide +kernel, by decide +kernel⟩) dL_law_1161 ?_
  refine g_top x2 ex2.symm ?_
  refine g_ai (D := D) (wc := [(aM, oM qM 0 0 0 0 0 0 0 0 0 0 0 0 0 0 0 0 0 0), ((qM 41), .inl (cI, 4, .inl (fun _ => 0)))]) (wr := []) hP hD hS hA [0, 1] [] rfl rfl rfl rfl (by decide) (fun hPc hDc => va_runV (As := [.int x1, .int x2]) (rest := [.int (-100)]) hF (c_X12_row (l := l) (D := D) (cI := cI) (cB := cB) (cS := cS) (cZ := cZ) (cW := cW) (aM := aM) (y0 := x1) (y1 := x2) (qM := qM)) (cwV 2 hts (gGV GL_sub wm_845 wm_846 wm_847 wm_550 wm_848) rfl rfl rfl (by decide +kernel) ⟨Nat.le_of_ble_eq_true rfl, Nat.le_of_ble_eq_true rfl⟩) (g_preV (q := (RX12, TX12, 97)) (ci := 12) (q0 := 0) hE hPc hDc rfl rfl) rfl rfl hl.1 rfl (lv_room (Nat.le_of_ble_eq_true rfl)) dL_law_1162 ⟨Nat.le_of_ble_eq_true rfl, Nat.le_of_ble_eq_true rfl⟩) (fun r4 u5 H locs p6 hP hD hS => ?_)
  have hP : va_P D vwCl [] H := hP
  have hD : va_D A [] := hD
  obtain rfl := p6
  refine lv_icmp_eq (tgt := 1880) hx hb dL_law_1165 (by decide) (fun _ => ?_) (fun c9 => absurd rfl c9)
  rw [hAe] at hS
  exact law_tail C0 hS (lv_sub hl [0, 3] rfl) (Nat.le_of_ble_eq_true rfl) (Nat.le_of_ble_eq_true rfl)
set_option maxHeartbeats 8000000 in
set_option maxRecDepth 100000 in
theorem law_case_26 {p : Program} {l : Launch} {e : Env} {s : State} {m : MethodId} {below : List Frame} {meth : Method} {c : Code} {b : Nat} {xs : Nat → Int32} {D : va_G} {cI cB cS cZ cW : ClassId} {aL : Nat} {qL : Nat → Nat} {qW : Nat → Nat} {qP : Nat → Nat} {aM : Nat} {qM : Nat → Nat} (C0 : lw_At p s m meth c b 6 xs) (hE : gE D (gT cI cB cS cZ cW) s) : ∀ {H : Heap} {locs : List Loc} {ls : Array Slot}, va_P D vwCl [(aL, .inr (11, [.ref (qL 0), .ref (qL 1), .null, .null, .null, .null, .null])), ((qL 0), .inr (10, [.int 0, .ref (qW 1), .ref (qW 2), .ref (qW 3), .ref (qW 4), .ref (qW 5)])), ((qW 2), .inr (6, [.int 0, .ref (qP 1), .ref (qP 2), .ref (qP 3), .ref (qP 4), .ref (qP 5), .ref (qP 6), .ref (qP 7), .ref (qP 8), .ref (qP 9), .ref (qP 10), .ref (qP 11), .ref (qP 12), .ref (qP 13), .ref (qP 14)])), (aM, oM qM 0 0 0 0 0 0 0 0 0 0 0 0 0 0 0 0 0 0), ((qM 14), .inl (cI, 4, .inl (fun _ => 0)))] H → va_D (fun q : Nat => s.heap.size ≤ q) [(aL, .inr (11, [.ref (qL 0), .ref (qL 1), .null, .null, .null, .null, .null])), ((qL 0), .inr (10, [.int 0, .ref (qW 1), .ref (qW 2), .ref (qW 3), .ref (qW 4), .ref (qW 5)])), ((qW 2), .inr (6, [.int 0, .ref (qP 1), .ref (qP 2), .ref (qP 3), .ref (qP 4), .ref (qP 5), .ref (qP 6), .ref (qP 7), .ref (qP 8), .ref (qP 9), .ref (qP 10), .ref (qP 11), .ref (qP 12), .ref (qP 13), .ref (qP 14)])), (aM, oM qM 0 0 0 0 0 0 0 0 0 0 0 0 0 0 0 0 0 0), ((qM 14), .inl (cI, 4, .inl (fun _ => 0)))] → va_S (fun q : Nat => s.heap.size ≤ q) s.heap H locs → lv_has ls 4 [(0, .ref b), (1, .ref aL), (2, .ref aM), (3, .int 0)] → W p l e room_1 s m #[Value.ref b] below meth c H locs 136 31006 (lw_Z below #[Value.ref b] s) (F0 m 1170 ls []) := by
  obtain ⟨hx, hb, hr, hml, hown, hts0, hX, hbl, hlocks, hgv⟩ := id C0
  have htg : ∀ w ∈ GL, w.before #[Value.ref b] s = true := fun w h => hts0 w (GL_sub w h)
  have hts := hts0
  have hown : s.vm.findClass RL = some m.cls := hown
  have hF : CallFix p m c cL_law 4 s #[Value.ref b] lw_tbl RL := ⟨hx, hb, hml, hown, hts⟩
  have hbA : ¬ (fun q : Nat => s.heap.size ≤ q) b := Nat.not_le.mpr hbl
  obtain ⟨A, hAe⟩ : ∃ A : Nat → Prop, A = (fun q : Nat => s.heap.size ≤ q) := ⟨_, rfl⟩
  have hA : ∀ q, s.heap.size ≤ q → A q := fun q h => by rw [hAe]; exact h
  rw [← hAe]
  rw [← hAe] at hbA
  intro H locs ls hP hD hS hl
  obtain ⟨x1, ex1⟩ : ∃ y : Int32, y = xs (1 : Int32).toNatClampNeg := ⟨_, rfl⟩
  obtain ⟨x2, ex2⟩ : ∃ y : Int32, y = xs (2 : Int32).toNatClampNeg := ⟨_, rfl⟩
  have zm1 := tm_1
  have z1 := t_1
  have z2 := t_2
  refine lv_aload_n hx hb dL_law_1170 rfl (lv_at hl 1 rfl) ?_
  refine lv_aload_n hx hb dL_law_1171 rfl (lv_at hl 0 rfl) ?_
  refine lv_iload_n hx hb dL_law_1172 rfl (lv_at hl 3 rfl) ?_
  refine lv_iconst (v := 1) hx hb dL_law_1173 (by decide +kernel) ?_
  refine lv_iadd hx hb dL_law_1174 ?_
  refine g_top 1 (by decide +kernel) ?_
  refine va_sld hx hb hX hbl hbA hS (vp_in_iff.mpr ⟨by decide +kernel, by decide +kernel⟩) dL_law_1175 ?_
  refine g_top x1 ex1.symm ?_
  refine lv_aload_n hx hb dL_law_1176 rfl (lv_at hl 0 rfl) ?_
  refine lv_iload_n hx hb dL_law_1177 rfl (lv_at hl 3 rfl) ?_
  refine lv_iconst (v := 2) hx hb dL_law_1178 (by decide +kernel) ?_
  refine lv_iadd hx hb dL_law_1179 ?_
  refine g_top 2 (by decide +kernel) ?_
  refine va_sld hx hb hX hbl hbA hS (vp_in_iff.mpr ⟨by decide +kernel, by decide +kernel⟩) dL_law_1180 ?_
  refine g_top x2 ex2.symm ?_
  refine g_ai (D := D) (wc := [(aL, .inr (11, [.ref (qL 0), .ref (qL 1), .null, .null, .null, .null, .null])), ((qL 0), .inr (10, [.int 0, .ref (qW 1), .ref (qW 2), .ref (qW 3), .ref (qW 4), .ref (qW 5)])), ((qW 2), .inr (6, [.int 0, .ref (qP 1), .ref (qP 2), .ref (qP 3), .ref (qP 4), .ref (qP 5), .ref (qP 6), .ref (qP 7), .ref (qP 8), .ref (qP 9), .ref (qP 10), .ref (qP 11), .ref (qP 12), .ref (qP 13), .ref (qP 14)]))]) (wr := [(aM, oM qM 0 0 0 0 0 0 0 0 0 0 0 0 0 0 0 0 0 0), ((qM 14), .inl (cI, 4, .inl (fun _ => 0)))]) hP hD hS hA [0, 1, 2] [3, 4] rfl rfl rfl rfl (by decide) (fun hPc hDc => va_runV (As := [.int x1, .int x2]) (rest := []) hF (c_X11_play (l := l) (D := D) (cI := cI) (cB := cB) (cS := cS) (cZ := cZ) (cW := cW) (aL := aL) (y0 := x1) (y1 := x2) (qL := qL) (qW := qW) (qP := qP)) (cwV 2 hts (gGV GL_sub wm_849 wm_850 wm_851 wm_151 wm_852) rfl rfl rfl (by decide +kernel) ⟨Nat.le_of_ble_eq_true rfl, Nat.le_of_ble_eq_true rfl⟩) (g_preV (q := (RX11, TX11, 7)) (ci := 11) (q0 := 0) hE hPc hDc rfl rfl) rfl rfl hl.1 rfl (lv_room (Nat.le_of_ble_eq_true rfl)) dL_law_1181 ⟨Nat.le_of_ble_eq_true rfl, Nat.le_of_ble_eq_true rfl⟩) (fun r1 u2 H locs p3 hP hD hS => ?_)
  have hP : va_P D vwCl [(aM, oM qM 0 0 0 0 0 0 0 0 0 0 0 0 0 0 0 0 0 0), ((qM 14), .inl (cI, 4, .inl (fun _ => 0)))] H := hP
  have hD : va_D A [(aM, oM qM 0 0 0 0 0 0 0 0 0 0 0 0 0 0 0 0 0 0), ((qM 14), .inl (cI, 4, .inl (fun _ => 0)))] := hD
  obtain rfl := p3
  refine lv_aload_n hx hb dL_law_1184 rfl (lv_at hl 2 rfl) ?_
  refine lv_aload_n hx hb dL_law_1185 rfl (lv_at hl 0 rfl) ?_
  refine lv_iload_n hx hb dL_law_1186 rfl (lv_at hl 3 rfl) ?_
  refine lv_iconst (v := 1) hx hb dL_law_1187 (by decide +kernel) ?_
  refine lv_iadd hx hb dL_law_1188 ?_
  refine g_top 1 (by decide +kernel) ?_
  refine va_sld hx hb hX hbl hbA hS (vp_in_iff.mpr ⟨by decide +kernel, by decide +kernel⟩) dL_law_1189 ?_
  refine g_top x1 ex1.symm ?_
  refine lv_aload_n hx hb dL_law_1190 rfl (lv_at hl 0 rfl) ?_
  refine lv_iload_n hx hb dL_law_1191 rfl (lv_at hl 3 rfl) ?_
  refine lv_iconst (v := 2) hx hb dL_law_1192 (by decide +kernel) ?_
  refine lv_iadd hx hb dL_law_1193 ?_
  refine g_top 2 (by decide +kernel) ?_
  refine va_sld hx hb hX hbl hbA hS (vp_in_iff.mpr ⟨by decide +kernel, by decide +kernel⟩) dL_law_1194 ?_
  refine g_top x2 ex2.symm ?_
  refine g_ai (D := D) (wc := [(aM, oM qM 0 0 0 0 0 0 0 0 0 0 0 0 0 0 0 0 0 0), ((qM 14), .inl (cI, 4, .inl (fun _ => 0)))]) (wr := []) hP hD hS hA [0, 1] [] rfl rfl rfl rfl (by decide) (fun hPc hDc => va_runV (As := [.int x1, .int x2]) (rest := [.int (-1)]) hF (c_X12_play (l := l) (D := D) (cI := cI) (cB := cB) (cS := cS) (cZ := cZ) (cW := cW) (aM := aM) (y0 := x1) (y1 := x2) (qM := qM)) (cwV 2 hts (gGV GL_sub wm_853 wm_854 wm_855 wm_550 wm_856) rfl rfl rfl (by decide +kernel) ⟨Nat.le_of_ble_eq_true rfl, Nat.le_of_ble_eq_true rfl⟩) (g_preV (q := (RX12, TX12, 97)) (ci := 12) (q0 := 0) hE hPc hDc rfl rfl) rfl rfl hl.1 rfl (lv_room (Nat.le_of_ble_eq_true rfl)) dL_law_1195 ⟨Nat.le_of_ble_eq_true rfl, Nat.le_of_ble_eq_true rfl⟩) (fun r4 u5 H locs p6 hP hD hS => ?_)
  have hP : va_P D vwCl [] H := hP
  have hD : va_D A [] := hD
  obtain rfl := p6
  refine lv_icmp_eq (tgt := 1880) hx hb dL_law_1198 (by decide) (fun _ => ?_) (fun c9 => absurd rfl c9)
  rw [hAe] at hS
  exact law_tail C0 hS (lv_sub hl [0, 3] rfl) (Nat.le_of_ble_eq_true rfl) (Nat.le_of_ble_eq_true rfl)
set_option maxHeartbeats 8000000 in
set_option maxRecDepth 100000 in
theorem law_case_27 {p : Program} {l : Launch} {e : Env} {s : State} {m : MethodId} {below : List Frame} {meth : Method} {c : Code} {b : Nat} {xs : Nat → Int32} {D : va_G} {cI cB cS cZ cW : ClassId} {aL : Nat} {qL : Nat → Nat} {qW : Nat → Nat} {qP : Nat → Nat} {aM : Nat} {qM : Nat → Nat} (C0 : lw_At p s m meth c b 6 xs) (hE : gE D (gT cI cB cS cZ cW) s) : ∀ {H : Heap} {locs : List Loc} {ls : Array Slot}, va_P D vwCl [(aL, .inr (11, [.ref (qL 0), .ref (qL 1), .null, .null, .null, .null, .null])), ((qL 0), .inr (10, [.int 0, .ref (qW 1), .ref (qW 2), .ref (qW 3), .ref (qW 4), .ref (qW 5)])), ((qW 2), .inr (6, [.int 0, .ref (qP 1), .ref (qP 2), .ref (qP 3), .ref (qP 4), .ref (qP 5), .ref (qP 6), .ref (qP 7), .ref (qP 8), .ref (qP 9), .ref (qP 10), .ref (qP 11), .ref (qP 12), .ref (qP 13), .ref (qP 14)])), (aM, oM qM 0 0 0 0 0 0 0 0 0 0 0 0 0 0 0 0 0 0), ((qM 14), .inl (cI, 4, .inl (fun _ => 0)))] H → va_D (fun q : Nat => s.heap.size ≤ q) [(aL, .inr (11, [.ref (qL 0), .ref (qL 1), .null, .null, .null, .null, .null])), ((qL 0), .inr (10, [.int 0, .ref (qW 1), .ref (qW 2), .ref (qW 3), .ref (qW 4), .ref (qW 5)])), ((qW 2), .inr (6, [.int 0, .ref (qP 1), .ref (qP 2), .ref (qP 3), .ref (qP 4), .ref (qP 5), .ref (qP 6), .ref (qP 7), .ref (qP 8), .ref (qP 9), .ref (qP 10), .ref (qP 11), .ref (qP 12), .ref (qP 13), .ref (qP 14)])), (aM, oM qM 0 0 0 0 0 0 0 0 0 0 0 0 0 0 0 0 0 0), ((qM 14), .inl (cI, 4, .inl (fun _ => 0)))] → va_S (fun q : Nat => s.heap.size ≤ q) s.heap H locs → lv_has ls 4 [(0, .ref b), (1, .ref aL), (2, .ref aM), (3, .int 0)] → W p l e room_1 s m #[Value.ref b] below meth c H locs 136 31006 (lw_Z below #[Value.ref b] s) (F0 m 1203 ls []) := by
  obtain ⟨hx, hb, hr, hml, hown, hts0, hX, hbl, hlocks, hgv⟩ := id C0
  have htg : ∀ w ∈ GL, w.before #[Value.ref b] s = true := fun w h => hts0 w (GL_sub w h)
  have hts := hts0
  have hown : s.vm.findClass RL = some m.cls := hown
  have hF : CallFix p m c cL_law 4 s #[Value.ref b] lw_tbl RL := ⟨hx, hb, hml, hown, hts⟩
  have hbA : ¬ (fun q : Nat => s.heap.size ≤ q) b := Nat.not_le.mpr hbl
  obtain ⟨A, hAe⟩ : ∃ A : Nat → Prop, A = (fun q : Nat => s.heap.size ≤ q) := ⟨_, rfl⟩
  have hA : ∀ q, s.heap.size ≤ q → A q := fun q h => by rw [hAe]; exact h
  rw [← hAe]
  rw [← hAe] at hbA
  intro H locs ls hP hD hS hl
  obtain ⟨x1, ex1⟩ : ∃ y : Int32, y = xs (1 : Int32).toNatClampNeg := ⟨_, rfl⟩
  obtain ⟨x2, ex2⟩ : ∃ y : Int32, y = xs (2 : Int32).toNatClampNeg := ⟨_, rfl⟩
  obtain ⟨x3, ex3⟩ : ∃ y : Int32, y = xs (3 : Int32).toNatClampNeg := ⟨_, rfl⟩
  obtain ⟨x4, ex4⟩ : ∃ y : Int32, y = xs (4 : Int32).toNatClampNeg := ⟨_, rfl⟩
  have zm1 := tm_1
  have z1 := t_1
  have z2 := t_2
  have z3 := t_3
  have z4 := t_4
  refine lv_aload_n hx hb dL_law_1203 rfl (lv_at hl 1 rfl) ?_
  refine lv_aload_n hx hb dL_law_1204 rfl (lv_at hl 0 rfl) ?_
  refine lv_iload_n hx hb dL_law_1205 rfl (lv_at hl 3 rfl) ?_
  refine lv_iconst (v := 1) hx hb dL_law_1206 (by decide +kernel) ?_
  refine lv_iadd hx hb dL_law_1207 ?_
  refine g_top 1 (by decide +kernel) ?_
  refine va_sld hx hb hX hbl hbA hS (vp_in_iff.mpr ⟨by decide +kernel, by decide +kernel⟩) dL_law_1208 ?_
  refine g_top x1 ex1.symm ?_
  refine lv_aload_n hx hb dL_law_1209 rfl (lv_at hl 0 rfl) ?_
  refine lv_iload_n hx hb dL_law_1210 rfl (lv_at hl 3 rfl) ?_
  refine lv_iconst (v := 2) hx hb dL_law_1211 (by decide +kernel) ?_
  refine lv_iadd hx hb dL_law_1212 ?_
  refine g_top 2 (by decide +kernel) ?_
  refine va_sld hx hb hX hbl hbA hS (vp_in_iff.mpr ⟨by decide +kernel, by decide +kernel⟩) dL_law_1213 ?_
  refine g_top x2 ex2.symm ?_
  refine lv_aload_n hx hb dL_law_1214 rfl (lv_at hl 0 rfl) ?_
  refine lv_iload_n hx hb dL_law_1215 rfl (lv_at hl 3 rfl) ?_
  refine lv_iconst (v := 3) hx hb dL_law_1216 (by decide +kernel) ?_
  refine lv_iadd hx hb dL_law_1217 ?_
  refine g_top 3 (by decide +kernel) ?_
  refine va_sld hx hb hX hbl hbA hS (vp_in_iff.mpr ⟨by decide +kernel, by decide +kernel⟩) dL_law_1218 ?_
  refine g_top x3 ex3.symm ?_
  refine lv_aload_n hx hb dL_law_1219 rfl (lv_at hl 0 rfl) ?_
  refine lv_iload_n hx hb dL_law_1220 rfl (lv_at hl 3 rfl) ?_
  refine lv_iconst (v := 4) hx hb dL_law_1221 (by decide +kernel) ?_
  refine lv_iadd hx hb dL_law_1222 ?_
  refine g_top 4 (by decide +kernel) ?_
  refine va_sld hx hb hX hbl hbA hS (vp_in_iff.mpr ⟨by decide +kernel, by decide +kernel⟩) dL_law_1223 ?_
  refine g_top x4 ex4.symm ?_
  refine g_ai (D := D) (wc := [(aL, .inr (11, [.ref (qL 0), .ref (qL 1), .null, .null, .null, .null, .null])), ((qL 0), .inr (10, [.int 0, .ref (qW 1), .ref (qW 2), .ref (qW 3), .ref (qW 4), .ref (qW 5)])), ((qW 2), .inr (6, [.int 0, .ref (qP 1), .ref (qP 2), .ref (qP 3), .ref (qP 4), .ref (qP 5), .ref (qP 6), .ref (qP 7), .ref (qP 8), .ref (qP 9), .ref (qP 10), .ref (qP 11), .ref (qP 12), .ref (qP 13), .ref (qP 14)]))]) (wr := [(aM, oM qM 0 0 0 0 0 0 0 0 0 0 0 0 0 0 0 0 0 0), ((qM 14), .inl (cI, 4, .inl (fun _ => 0)))]) hP hD hS hA [0, 1, 2] [3, 4] rfl rfl rfl rfl (by decide) (fun hPc hDc => va_runV (As := [.int x1, .int x2, .int x3, .int x4]) (rest := []) hF (c_X11_known (l := l) (D := D) (cI := cI) (cB := cB) (cS := cS) (cZ := cZ) (cW := cW) (aL := aL) (y0 := x1) (y1 := x2) (y2 := x3) (y3 := x4) (qL := qL) (qW := qW) (qP := qP)) (cwV 4 hts (gGV GL_sub wm_857 wm_858 wm_859 wm_151 wm_860) rfl rfl rfl (by decide +kernel) ⟨Nat.le_of_ble_eq_true rfl, Nat.le_of_ble_eq_true rfl⟩) (g_preV (q := (RX11, TX11, 7)) (ci := 11) (q0 := 0) hE hPc hDc rfl rfl) rfl rfl hl.1 rfl (lv_room (Nat.le_of_ble_eq_true rfl)) dL_law_1224 ⟨Nat.le_of_ble_eq_true rfl, Nat.le_of_ble_eq_true rfl⟩) (fun r1 u2 H locs p3 hP hD hS => ?_)
  have hP : va_P D vwCl [(aM, oM qM 0 0 0 0 0 0 0 0 0 0 0 0 0 0 0 0 0 0), ((qM 14), .inl (cI, 4, .inl (fun _ => 0)))] H := hP
  have hD : va_D A [(aM, oM qM 0 0 0 0 0 0 0 0 0 0 0 0 0 0 0 0 0 0), ((qM 14), .inl (cI, 4, .inl (fun _ => 0)))] := hD
  obtain rfl := p3
  refine lv_aload_n hx hb dL_law_1227 rfl (lv_at hl 2 rfl) ?_
  refine lv_aload_n hx hb dL_law_1228 rfl (lv_at hl 0 rfl) ?_
  refine lv_iload_n hx hb dL_law_1229 rfl (lv_at hl 3 rfl) ?_
  refine lv_iconst (v := 1) hx hb dL_law_1230 (by decide +kernel) ?_
  refine lv_iadd hx hb dL_law_1231 ?_
  refine g_top 1 (by decide +kernel) ?_
  refine va_sld hx hb hX hbl hbA hS (vp_in_iff.mpr ⟨by decide +kernel, by decide +kernel⟩) dL_law_1232 ?_
  refine g_top x1 ex1.symm ?_
  refine lv_aload_n hx hb dL_law_1233 rfl (lv_at hl 0 rfl) ?_
  refine lv_iload_n hx hb dL_law_1234 rfl (lv_at hl 3 rfl) ?_
  refine lv_iconst (v := 2) hx hb dL_law_1235 (by decide +kernel) ?_
  refine lv_iadd hx hb dL_law_1236 ?_
  refine g_top 2 (by decide +kernel) ?_
  refine va_sld hx hb hX hbl hbA hS (vp_in_iff.mpr ⟨by decide +kernel, by decide +kernel⟩) dL_law_1237 ?_
  refine g_top x2 ex2.symm ?_
  refine lv_aload_n hx hb dL_law_1238 rfl (lv_at hl 0 rfl) ?_
  refine lv_iload_n hx hb dL_law_1239 rfl (lv_at hl 3 rfl) ?_
  refine lv_iconst (v := 3) hx hb dL_law_1240 (by decide +kernel) ?_
  refine lv_iadd hx hb dL_law_1241 ?_
  refine g_top 3 (by decide +kernel) ?_
  refine va_sld hx hb hX hbl hbA hS (vp_in_iff.mpr ⟨by decide +kernel, by decide +kernel⟩) dL_law_1242 ?_
  refine g_top x3 ex3.symm ?_
  refine lv_aload_n hx hb dL_law_1243 rfl (lv_at hl 0 rfl) ?_
  refine lv_iload_n hx hb dL_law_1244 rfl (lv_at hl 3 rfl) ?_
  refine lv_iconst (v := 4) hx hb dL_law_1245 (by decide +kernel) ?_
  refine lv_iadd hx hb dL_law_1246 ?_
  refine g_top 4 (by decide +kernel) ?_
  refine va_sld hx hb hX hbl hbA hS (vp_in_iff.mpr ⟨by decide +kernel, by decide +kernel⟩) dL_law_1247 ?_
  refine g_top x4 ex4.symm ?_
  refine g_ai (D := D) (wc := [(aM, oM qM 0 0 0 0 0 0 0 0 0 0 0 0 0 0 0 0 0 0), ((qM 14), .inl (cI, 4, .inl (fun _ => 0)))]) (wr := []) hP hD hS hA [0, 1] [] rfl rfl rfl rfl (by decide) (fun hPc hDc => va_runV (As := [.int x1, .int x2, .int x3, .int x4]) (rest := [.int (-1)]) hF (c_X12_known (l := l) (D := D) (cI := cI) (cB := cB) (cS := cS) (cZ := cZ) (cW := cW) (aM := aM) (y0 := x1) (y1 := x2) (y2 := x3) (y3 := x4) (qM := qM)) (cwV 4 hts (gGV GL_sub wm_861 wm_862 wm_863 wm_550 wm_864) rfl rfl rfl (by decide +kernel) ⟨Nat.le_of_ble_eq_true rfl, Nat.le_of_ble_eq_true rfl⟩) (g_preV (q := (RX12, TX12, 97)) (ci := 12) (q0 := 0) hE hPc hDc rfl rfl) rfl rfl hl.1 rfl (lv_room (Nat.le_of_ble_eq_true rfl)) dL_law_1248 ⟨Nat.le_of_ble_eq_true rfl, Nat.le_of_ble_eq_true rfl⟩) (fun r4 u5 H locs p6 hP hD hS => ?_)
  have hP : va_P D vwCl [] H := hP
  have hD : va_D A [] := hD
  obtain rfl := p6
  refine lv_icmp_eq (tgt := 1880) hx hb dL_law_1251 (by decide) (fun _ => ?_) (fun c9 => absurd rfl c9)
  rw [hAe] at hS
  exact law_tail C0 hS (lv_sub hl [0, 3] rfl) (Nat.le_of_ble_eq_true rfl) (Nat.le_of_ble_eq_true rfl)
set_option maxHeartbeats 8000000 in
set_option maxRecDepth 100000 in
theorem law_case_28 {p : Program} {l : Launch} {e : Env} {s : State} {m : MethodId} {below : List Frame} {meth : Method} {c : Code} {b : Nat} {xs : Nat → Int32} {D : va_G} {cI cB cS cZ cW : ClassId} {aL : Nat} {qL : Nat → Nat} {qW : Nat → Nat} {qA : Nat → Nat} {aM : Nat} {qM : Nat → Nat} (C0 : lw_At p s m meth c b 6 xs) (hE : gE D (gT cI cB cS cZ cW) s) : ∀ {H : Heap} {locs : List Loc} {ls : Array Slot}, va_P D vwCl [(aL, .inr (11, [.ref (qL 0), .ref (qL 1), .null, .null, .null, .null, .null])), ((qL 0), .inr (10, [.int 0, .ref (qW 1), .ref (qW 2), .ref (qW 3), .ref (qW 4), .ref (qW 5)])), ((qW 4), .inr (0, [.ref (qA 0), .int 0, .ref (qA 2), .ref (qA 3), .int 0, .ref (qA 5), .ref (qA 6), .ref (qA 7), .ref (qA 8), .ref (qA 9), .ref (qA 10), .ref (qA 11), .ref (qA 12), .ref (qA 13)])), (aM, oM qM 0 0 0 0 0 0 0 0 0 0 0 0 0 0 0 0 0 0), ((qM 41), .inl (cI, 4, .inl (fun _ => 0)))] H → va_D (fun q : Nat => s.heap.size ≤ q) [(aL, .inr (11, [.ref (qL 0), .ref (qL 1), .null, .null, .null, .null, .null])), ((qL 0), .inr (10, [.int 0, .ref (qW 1), .ref (qW 2), .ref (qW 3), .ref (qW 4), .ref (qW 5)])), ((qW 4), .inr (0, [.ref (qA 0), .int 0, .ref (qA 2), .ref (qA 3), .int 0, .ref (qA 5), .ref (qA 6), .ref (qA 7), .ref (qA 8), .ref (qA 9), .ref (qA 10), .ref (qA 11), .ref (qA 12), .ref (qA 13)])), (aM, oM qM 0 0 0 0 0 0 0 0 0 0 0 0 0 0 0 0 0 0), ((qM 41), .inl (cI, 4, .inl (fun _ => 0)))] → va_S (fun q : Nat => s.heap.size ≤ q) s.heap H locs → lv_has ls 4 [(0, .ref b), (1, .ref aL), (2, .ref aM), (3, .int 0)] → W p l e room_1 s m #[Value.ref b] below meth c H locs 136 31006 (lw_Z below #[Value.ref b] s) (F0 m 1256 ls []) := by
  obtain ⟨hx, hb, hr, hml, hown, hts0, hX, hbl, hlocks, hgv⟩ := id C0
  have htg : ∀ w ∈ GL, w.before #[Value.ref b] s = true := fun w h => hts0 w (GL_sub w h)
  have hts := hts0
  have hown : s.vm.findClass RL = some m.cls := hown
  have hF : CallFix p m c cL_law 4 s #[Value.ref b] lw_tbl RL := ⟨hx, hb, hml, hown, hts⟩
  have hbA : ¬ (fun q : Nat => s.heap.size ≤ q) b := Nat.not_le.mpr hbl
  obtain ⟨A, hAe⟩ : ∃ A : Nat → Prop, A = (fun q : Nat => s.heap.size ≤ q) := ⟨_, rfl⟩
  have hA : ∀ q, s.heap.size ≤ q → A q := fun q h => by rw [hAe]; exact h
  rw [← hAe]
  rw [← hAe] at hbA
  intro H locs ls hP hD hS hl
  obtain ⟨x1, ex1⟩ : ∃ y : Int32, y = xs (1 : Int32).toNatClampNeg := ⟨_, rfl⟩
  obtain ⟨x2, ex2⟩ : ∃ y : Int32, y = xs (2 : Int32).toNatClampNeg := ⟨_, rfl⟩
  have zm1 := tm_1
  have z1 := t_1
  have z2 := t_2
  refine lv_aload_n hx hb dL_law_1256 rfl (lv_at hl 1 rfl) ?_
  refine lv_aload_n hx hb dL_law_1257 rfl (lv_at hl 0 rfl) ?_
  refine lv_iload_n hx hb dL_law_1258 rfl (lv_at hl 3 rfl) ?_
  refine lv_iconst (v := 1) hx hb dL_law_1259 (by decide +kernel) ?_
  refine lv_iadd hx hb dL_law_1260 ?_
  refine g_top 1 (by decide +kernel) ?_
  refine va_sld hx hb hX hbl hbA hS (vp_in_iff.mpr ⟨by decide +kernel, by decide +kernel⟩) dL_law_1261 ?_
  refine g_top x1 ex1.symm ?_
  refine lv_aload_n hx hb dL_law_1262 rfl (lv_at hl 0 rfl) ?_
  refine lv_iload_n hx hb dL_law_1263 rfl (lv_at hl 3 rfl) ?_
  refine lv_iconst (v := 2) hx hb dL_law_1264 (by decide +kernel) ?_
  refine lv_iadd hx hb dL_law_1265 ?_
  refine g_top 2 (by decide +kernel) ?_
  refine va_sld hx hb hX hbl hbA hS (vp_in_iff.mpr ⟨by decide +kernel, by decide +kernel⟩) dL_law_1266 ?_
  refine g_top x2 ex2.symm ?_
  refine g_ai (D := D) (wc := [(aL, .inr (11, [.ref (qL 0), .ref (qL 1), .null, .null, .null, .null, .null])), ((qL 0), .inr (10, [.int 0, .ref (qW 1), .ref (qW 2), .ref (qW 3), .ref (qW 4), .ref (qW 5)])), ((qW 4), .inr (0, [.ref (qA 0), .int 0, .ref (qA 2), .ref (qA 3), .int 0, .ref (qA 5), .ref (qA 6), .ref (qA 7), .ref (qA 8), .ref (qA 9), .ref (qA 10), .ref (qA 11), .ref (qA 12), .ref (qA 13)]))]) (wr := [(aM, oM qM 0 0 0 0 0 0 0 0 0 0 0 0 0 0 0 0 0 0), ((qM 41), .inl (cI, 4, .inl (fun _ => 0)))]) hP hD hS hA [0, 1, 2] [3, 4] rfl rfl rfl rfl (by decide) (fun hPc hDc => va_runV (As := [.int x1, .int x2]) (rest := []) hF (c_X11_same (l := l) (D := D) (cI := cI) (cB := cB) (cS := cS) (cZ := cZ) (cW := cW) (aL := aL) (y0 := x1) (y1 := x2) (qL := qL) (qW := qW) (qA := qA)) (cwV 2 hts (gGV GL_sub wm_865 wm_866 wm_867 wm_151 wm_868) rfl rfl rfl (by decide +kernel) ⟨Nat.le_of_ble_eq_true rfl, Nat.le_of_ble_eq_true rfl⟩) (g_preV (q := (RX11, TX11, 7)) (ci := 11) (q0 := 0) hE hPc hDc rfl rfl) rfl rfl hl.1 rfl (lv_room (Nat.le_of_ble_eq_true rfl)) dL_law_1267 ⟨Nat.le_of_ble_eq_true rfl, Nat.le_of_ble_eq_true rfl⟩) (fun r1 u2 H locs p3 hP hD hS => ?_)
  have hP : va_P D vwCl [(aM, oM qM 0 0 0 0 0 0 0 0 0 0 0 0 0 0 0 0 0 0), ((qM 41), .inl (cI, 4, .inl (fun _ => 0)))] H := hP
  have hD : va_D A [(aM, oM qM 0 0 0 0 0 0 0 0 0 0 0 0 0 0 0 0 0 0), ((qM 41), .inl (cI, 4, .inl (fun _ => 0)))] := hD
  obtain rfl := p3
  refine lv_aload_n hx hb dL_law_1270 rfl (lv_at hl 2 rfl) ?_
  refine lv_aload_n hx hb dL_law_1271 rfl (lv_at hl 0 rfl) ?_
  refine lv_iload_n hx hb dL_law_1272 rfl (lv_at hl 3 rfl) ?_
  refine lv_iconst (v := 1) hx hb dL_law_1273 (by decide +kernel) ?_
  refine lv_iadd hx hb dL_law_1274 ?_
  refine g_top 1 (by decide +kernel) ?_
  refine va_sld hx hb hX hbl hbA hS (vp_in_iff.mpr ⟨by decide +kernel, by decide +kernel⟩) dL_law_1275 ?_
  refine g_top x1 ex1.symm ?_
  refine lv_aload_n hx hb dL_law_1276 rfl (lv_at hl 0 rfl) ?_
  refine lv_iload_n hx hb dL_law_1277 rfl (lv_at hl 3 rfl) ?_
  refine lv_iconst (v := 2) hx hb dL_law_1278 (by decide +kernel) ?_
  refine lv_iadd hx hb dL_law_1279 ?_
  refine g_top 2 (by decide +kernel) ?_
  refine va_sld hx hb hX hbl hbA hS (vp_in_iff.mpr ⟨by decide +kernel, by decide +kernel⟩) dL_law_1280 ?_
  refine g_top x2 ex2.symm ?_
  refine g_ai (D := D) (wc := [(aM, oM qM 0 0 0 0 0 0 0 0 0 0 0 0 0 0 0 0 0 0), ((qM 41), .inl (cI, 4, .inl (fun _ => 0)))]) (wr := []) hP hD hS hA [0, 1] [] rfl rfl rfl rfl (by decide) (fun hPc hDc => va_runV (As := [.int x1, .int x2]) (rest := [.int (-1)]) hF (c_X12_same (l := l) (D := D) (cI := cI) (cB := cB) (cS := cS) (cZ := cZ) (cW := cW) (aM := aM) (y0 := x1) (y1 := x2) (qM := qM)) (cwV 2 hts (gGV GL_sub wm_869 wm_870 wm_871 wm_550 wm_872) rfl rfl rfl (by decide +kernel) ⟨Nat.le_of_ble_eq_true rfl, Nat.le_of_ble_eq_true rfl⟩) (g_preV (q := (RX12, TX12, 97)) (ci := 12) (q0 := 0) hE hPc hDc rfl rfl) rfl rfl hl.1 rfl (lv_room (Nat.le_of_ble_eq_true rfl)) dL_law_1281 ⟨Nat.le_of_ble_eq_true rfl, Nat.le_of_ble_eq_true rfl⟩) (fun r4 u5 H locs p6 hP hD hS => ?_)
  have hP : va_P D vwCl [] H := hP
  have hD : va_D A [] := hD
  obtain rfl := p6
  refine lv_icmp_eq (tgt := 1880) hx hb dL_law_1284 (by decide) (fun _ => ?_) (fun c9 => absurd rfl c9)
  rw [hAe] at hS
  exact law_tail C0 hS (lv_sub hl [0, 3] rfl) (Nat.le_of_ble_eq_true rfl) (Nat.le_of_ble_eq_true rfl)
set_option maxHeartbeats 8000000 in
set_option maxRecDepth 100000 in
theorem law_case_29 {p : Program} {l : Launch} {e : Env} {s : State} {m : MethodId} {below : List Frame} {meth : Method} {c : Code} {b : Nat} {xs : Nat → Int32} {D : va_G} {cI cB cS cZ cW : ClassId} {aL : Nat} {qL : Nat → Nat} {qW : Nat → Nat} {qT : Nat → Nat} {aM : Nat} {qM : Nat → Nat} (C0 : lw_At p s m meth c b 6 xs) (hE : gE D (gT cI cB cS cZ cW) s) : ∀ {H : Heap} {locs : List Loc} {ls : Array Slot}, va_P D vwCl [(aL, .inr (11, [.ref (qL 0), .ref (qL 1), .null, .null, .null, .null, .null])), ((qL 0), .inr (10, [.int 0, .ref (qW 1), .ref (qW 2), .ref (qW 3), .ref (qW 4), .ref (qW 5)])), ((qW 1), .inr (9, [.int 0, .ref (qT 1), .ref (qT 2), .ref (qT 3), .ref (qT 4), .ref (qT 5), .ref (qT 6), .ref (qT 7), .ref (qT 8)])), (aM, oM qM 0 0 0 0 0 0 0 0 0 0 0 0 0 0 0 0 0 0), ((qM 6), .inl (cI, 4, .inl (fun _ => 0)))] H → va_D (fun q : Nat => s.heap.size ≤ q) [(aL, .inr (11, [.ref (qL 0), .ref (qL 1), .null, .null, .null, .null, .null])), ((qL 0), .inr (10, [.int 0, .ref (qW 1), .ref (qW 2), .ref (qW 3), .ref (qW 4), .ref (qW 5)])), ((qW 1), .inr (9, [.int 0, .ref (qT 1), .ref (qT 2), .ref (qT 3), .ref (qT 4), .ref (qT 5), .ref (qT 6), .ref (qT 7), .ref (qT 8)])), (aM, oM qM 0 0 0 0 0 0 0 0 0 0 0 0 0 0 0 0 0 0), ((qM 6), .inl (cI, 4, .inl (fun _ => 0)))] → va_S (fun q : Nat => s.heap.size ≤ q) s.heap H locs → lv_has ls 4 [(0, .ref b), (1, .ref aL), (2, .ref aM), (3, .int 0)] → W p l e room_1 s m #[Value.ref b] below meth c H locs 136 31006 (lw_Z below #[Value.ref b] s) (F0 m 1289 ls []) := by
  obtain ⟨hx, hb, hr, hml, hown, hts0, hX, hbl, hlocks, hgv⟩ := id C0
  have htg : ∀ w ∈ GL, w.before #[Value.ref b] s = true := fun w h => hts0 w (GL_sub w h)
  have hts := hts0
  have hown : s.vm.findClass RL = some m.cls := hown
  have hF : CallFix p m c cL_law 4 s #[Value.ref b] lw_tbl RL := ⟨hx, hb, hml, hown, hts⟩
  have hbA : ¬ (fun q : Nat => s.heap.size ≤ q) b := Nat.not_le.mpr hbl
  obtain ⟨A, hAe⟩ : ∃ A : Nat → Prop, A = (fun q : Nat => s.heap.size ≤ q) := ⟨_, rfl⟩
  have hA : ∀ q, s.heap.size ≤ q → A q := fun q h => by rw [hAe]; exact h
  rw [← hAe]
  rw [← hAe] at hbA
  intro H locs ls hP hD hS hl
  obtain ⟨x1, ex1⟩ : ∃ y : Int32, y = xs (1 : Int32).toNatClampNeg := ⟨_, rfl⟩
  obtain ⟨x2, ex2⟩ : ∃ y : Int32, y = xs (2 : Int32).toNatClampNeg := ⟨_, rfl⟩
  have zm1 := tm_1
  have z1 := t_1
  have z2 := t_2
  refine lv_aload_n hx hb dL_law_1289 rfl (lv_at hl 1 rfl) ?_
  refine lv_aload_n hx hb dL_law_1290 rfl (lv_at hl 0 rfl) ?_
  refine lv_iload_n hx hb dL_law_1291 rfl (lv_at hl 3 rfl) ?_
  refine lv_iconst (v := 1) hx hb dL_law_1292 (by decide +kernel) ?_
  refine lv_iadd hx hb dL_law_1293 ?_
  refine g_top 1 (by decide +kernel) ?_
  refine va_sld hx hb hX hbl hbA hS (vp_in_iff.mpr ⟨by decide +kernel, by decide +kernel⟩) dL_law_1294 ?_
  refine g_top x1 ex1.symm ?_
  refine lv_aload_n hx hb dL_law_1295 rfl (lv_at hl 0 rfl) ?_
  refine lv_iload_n hx hb dL_law_1296 rfl (lv_at hl 3 rfl) ?_
  refine lv_iconst (v := 2) hx hb dL_law_1297 (by decide +kernel) ?_
  refine lv_iadd hx hb dL_law_1298 ?_
  refine g_top 2 (by decide +kernel) ?_
  refine va_sld hx hb hX hbl hbA hS (vp_in_iff.mpr ⟨by decide +kernel, by decide +kernel⟩) dL_law_1299 ?_
  refine g_top x2 ex2.symm ?_
  refine g_ai (D := D) (wc := [(aL, .inr (11, [.ref (qL 0), .ref (qL 1), .null, .null, .null, .null, .null])), ((qL 0), .inr (10, [.int 0, .ref (qW 1), .ref (qW 2), .ref (qW 3), .ref (qW 4), .ref (qW 5)])), ((qW 1), .inr (9, [.int 0, .ref (qT 1), .ref (qT 2), .ref (qT 3), .ref (qT 4), .ref (qT 5), .ref (qT 6), .ref (qT 7), .ref (qT 8)]))]) (wr := [(aM, oM qM 0 0 0 0 0 0 0 0 0 0 0 0 0 0 0 0 0 0), ((qM 6), .inl (cI, 4, .inl (fun _ => 0)))]) hP hD hS hA [0, 1, 2] [3, 4] rfl rfl rfl rfl (by decide) (fun hPc hDc => va_runV (As := [.int x1, .int x2]) (rest := []) hF (c_X11_find (l := l) (D := D) (cI := cI) (cB := cB) (cS := cS) (cZ := cZ) (cW := cW) (aL := aL) (y0 := x1) (y1 := x2) (qL := qL) (qW := qW) (qT := qT)) (cwV 2 hts (gGV GL_sub wm_873 wm_874 wm_875 wm_151 wm_876) rfl rfl rfl (by decide +kernel) ⟨Nat.le_of_ble_eq_true rfl, Nat.le_of_ble_eq_true rfl⟩) (g_preV (q := (RX11, TX11, 7)) (ci := 11) (q0 := 0) hE hPc hDc rfl rfl) rfl rfl hl.1 rfl (lv_room (Nat.le_of_ble_eq_true rfl)) dL_law_1300 ⟨Nat.le_of_ble_eq_true rfl, Nat.le_of_ble_eq_true rfl⟩) (fun r1 u2 H locs p3 hP hD hS => ?_)
  have hP : va_P D vwCl [(aM, oM qM 0 0 0 0 0 0 0 0 0 0 0 0 0 0 0 0 0 0), ((qM 6), .inl (cI, 4, .inl (fun _ => 0)))] H := hP
  have hD : va_D A [(aM, oM qM 0 0 0 0 0 0 0 0 0 0 0 0 0 0 0 0 0 0), ((qM 6), .inl (cI, 4, .inl (fun _ => 0)))] := hD
  obtain rfl := p3
  refine lv_aload_n hx hb dL_law_1303 rfl (lv_at hl 2 rfl) ?_
  refine lv_aload_n hx hb dL_law_1304 rfl (lv_at hl 0 rfl) ?_
  refine lv_iload_n hx hb dL_law_1305 rfl (lv_at hl 3 rfl) ?_
  refine lv_iconst (v := 1) hx hb dL_law_1306 (by decide +kernel) ?_
  refine lv_iadd hx hb dL_law_1307 ?_
  refine g_top 1 (by decide +kernel) ?_
  refine va_sld hx hb hX hbl hbA hS (vp_in_iff.mpr ⟨by decide +kernel, by decide +kernel⟩) dL_law_1308 ?_
  refine g_top x1 ex1.symm ?_
  refine lv_aload_n hx hb dL_law_1309 rfl (lv_at hl 0 rfl) ?_
  refine lv_iload_n hx hb dL_law_1310 rfl (lv_at hl 3 rfl) ?_
  refine lv_iconst (v := 2) hx hb dL_law_1311 (by decide +kernel) ?_
  refine lv_iadd hx hb dL_law_1312 ?_
  refine g_top 2 (by decide +kernel) ?_
  refine va_sld hx hb hX hbl hbA hS (vp_in_iff.mpr ⟨by decide +kernel, by decide +kernel⟩) dL_law_1313 ?_
  refine g_top x2 ex2.symm ?_
  refine g_ai (D := D) (wc := [(aM, oM qM 0 0 0 0 0 0 0 0 0 0 0 0 0 0 0 0 0 0), ((qM 6), .inl (cI, 4, .inl (fun _ => 0)))]) (wr := []) hP hD hS hA [0, 1] [] rfl rfl rfl rfl (by decide) (fun hPc hDc => va_runV (As := [.int x1, .int x2]) (rest := [.int (-1)]) hF (c_X12_find (l := l) (D := D) (cI := cI) (cB := cB) (cS := cS) (cZ := cZ) (cW := cW) (aM := aM) (y0 := x1) (y1 := x2) (qM := qM)) (cwV 2 hts (gGV GL_sub wm_877 wm_878 wm_879 wm_550 wm_880) rfl rfl rfl (by decide +kernel) ⟨Nat.le_of_ble_eq_true rfl, Nat.le_of_ble_eq_true rfl⟩) (g_preV (q := (RX12, TX12, 97)) (ci := 12) (q0 := 0) hE hPc hDc rfl rfl) rfl rfl hl.1 rfl (lv_room (Nat.le_of_ble_eq_true rfl)) dL_law_1314 ⟨Nat.le_of_ble_eq_true rfl, Nat.le_of_ble_eq_true rfl⟩) (fun r4 u5 H locs p6 hP hD hS => ?_)
  have hP : va_P D vwCl [] H := hP
  have hD : va_D A [] := hD
  obtain rfl := p6
  refine lv_icmp_eq (tgt := 1880) hx hb dL_law_1317 (by decide) (fun _ => ?_) (fun c9 => absurd rfl c9)
  rw [hAe] at hS
  exact law_tail C0 hS (lv_sub hl [0, 3] rfl) (Nat.le_of_ble_eq_true rfl) (Nat.le_of_ble_eq_true rfl)
