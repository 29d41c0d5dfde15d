set_option maxHeartbeats 8000000 in
set_option maxRecDepth 100000 in
theorem law_case_0 {p : Program} {l : Launch} {e : Env} {s : State} {m : MethodId} {below : List Frame} {meth : Method} {c : Code} {b : Nat} {xs : Nat → Int32} {D : va_G} {cI cB cS cZ cW : ClassId} {aL : Nat} {qL : Nat → Nat} {qW : Nat → Nat} {qT : Nat → Nat} {aM : Nat} {qM : Nat → Nat} (C0 : lw_At p s m meth c b 6 xs) (hE : gE D (gT cI cB cS cZ cW) s) : ∀ {H : Heap} {locs : List Loc} {ls : Array Slot}, va_P D vwCl [(aL, .inr (11, [.ref (qL 0), .ref (qL 1), .null, .null, .null, .null, .null])), ((qL 0), .inr (10, [.int 0, .ref (qW 1), .ref (qW 2), .ref (qW 3), .ref (qW 4), .ref (qW 5)])), ((qW 1), .inr (9, [.int 0, .ref (qT 1), .ref (qT 2), .ref (qT 3), .ref (qT 4), .ref (qT 5), .ref (qT 6), .ref (qT 7), .ref (qT 8)])), ((qT 1), .inl (cI, 6, .inl (fun _ => 0))), ((qT 2), .inl (cI, 6, .inl (fun _ => 0))), ((qT 5), .inl (cI, 144, .inl (fun _ => 0))), ((qT 6), .inl (cI, 144, .inl (fun _ => 0))), ((qT 7), .inl (cI, 6, .inl (fun _ => 0))), (aM, oM qM 0 0 0 0 0 0 0 0 0 0 0 0 0 0 0 0 0 0), ((qM 6), .inl (cI, 4, .inl (fun _ => 0))), ((qM 7), .inl (cI, 24, .inl (fun _ => 0))), ((qM 8), .inl (cI, 24, .inl (fun _ => 0))), ((qM 10), .inl (cI, 576, .inl (fun _ => 0))), ((qM 11), .inl (cI, 24, .inl (fun _ => 0)))] H → va_D (fun q : Nat => s.heap.size ≤ q) [(aL, .inr (11, [.ref (qL 0), .ref (qL 1), .null, .null, .null, .null, .null])), ((qL 0), .inr (10, [.int 0, .ref (qW 1), .ref (qW 2), .ref (qW 3), .ref (qW 4), .ref (qW 5)])), ((qW 1), .inr (9, [.int 0, .ref (qT 1), .ref (qT 2), .ref (qT 3), .ref (qT 4), .ref (qT 5), .ref (qT 6), .ref (qT 7), .ref (qT 8)])), ((qT 1), .inl (cI, 6, .inl (fun _ => 0))), ((qT 2), .inl (cI, 6, .inl (fun _ => 0))), ((qT 5), .inl (cI, 144, .inl (fun _ => 0))), ((qT 6), .inl (cI, 144, .inl (fun _ => 0))), ((qT 7), .inl (cI, 6, .inl (fun _ => 0))), (aM, oM qM 0 0 0 0 0 0 0 0 0 0 0 0 0 0 0 0 0 0), ((qM 6), .inl (cI, 4, .inl (fun _ => 0))), ((qM 7), .inl (cI, 24, .inl (fun _ => 0))), ((qM 8), .inl (cI, 24, .inl (fun _ => 0))), ((qM 10), .inl (cI, 576, .inl (fun _ => 0))), ((qM 11), .inl (cI, 24, .inl (fun _ => 0)))] → va_S (fun q : Nat => s.heap.size ≤ q) s.heap H locs → lv_has ls 4 [(0, .ref b), (1, .ref aL), (2, .ref aM), (3, .int 0)] → W p l e room_1 s m #[Value.ref b] below meth c H locs 136 31006 (lw_Z below #[Value.ref b] s) (F0 m 232 ls []) := by
  obtain ⟨hx, hb, hr, hml, hown, hts0, hX, hbl, hlocks, hgv⟩ := id C0
  have htg : ∀ w ∈ GL, w.before #[Value.ref b] s = true := fun w h => hts0 w (GL_sub w h)
  have hts := hts0
  have hown : s.vm.findClass RL = some m.cls := hown
  have hF : CallFix p m c cL_law 4 s #[Value.ref b] lw_tbl RL := ⟨hx, hb, hml, hown, hts⟩
  have hbA : ¬ (fun q : Nat => s.heap.size ≤ q) b := Nat.not_le.mpr hbl
  obtain ⟨A, hAe⟩ : ∃ A : Nat → Prop, A = (fun q : Nat => s.heap.size ≤ q) := ⟨_, rfl⟩
  have hA : ∀ q, s.heap.size ≤ q → A q := fun q h => by rw [hAe]; exact h
  rw [← hAe]
  rw [← hAe] at hbA
  intro H locs ls hP hD hS hl
  obtain ⟨x1, ex1⟩ : ∃ y : Int32, y = xs (1 : Int32).toNatClampNeg := ⟨_, rfl⟩
  have z1 := t_1
  refine lv_aload_n hx hb dL_law_232 rfl (lv_at hl 1 rfl) ?_
  refine lv_aload_n hx hb dL_law_233 rfl (lv_at hl 0 rfl) ?_
  refine lv_iload_n hx hb dL_law_234 rfl (lv_at hl 3 rfl) ?_
  refine lv_iconst (v := 1) hx hb dL_law_235 (by decide +kernel) ?_
  refine lv_iadd hx hb dL_law_236 ?_
  refine g_top 1 (by decide +kernel) ?_
  refine va_sld hx hb hX hbl hbA hS (vp_in_iff.mpr ⟨by decide +kernel, by decide +kernel⟩) dL_law_237 ?_
  refine g_top x1 ex1.symm ?_
  refine g_ai (D := D) (wc := [(aL, .inr (11, [.ref (qL 0), .ref (qL 1), .null, .null, .null, .null, .null])), ((qL 0), .inr (10, [.int 0, .ref (qW 1), .ref (qW 2), .ref (qW 3), .ref (qW 4), .ref (qW 5)])), ((qW 1), .inr (9, [.int 0, .ref (qT 1), .ref (qT 2), .ref (qT 3), .ref (qT 4), .ref (qT 5), .ref (qT 6), .ref (qT 7), .ref (qT 8)])), ((qT 1), .inl (cI, 6, .inl (fun _ => 0))), ((qT 2), .inl (cI, 6, .inl (fun _ => 0))), ((qT 5), .inl (cI, 144, .inl (fun _ => 0))), ((qT 6), .inl (cI, 144, .inl (fun _ => 0))), ((qT 7), .inl (cI, 6, .inl (fun _ => 0)))]) (wr := [(aM, oM qM 0 0 0 0 0 0 0 0 0 0 0 0 0 0 0 0 0 0), ((qM 6), .inl (cI, 4, .inl (fun _ => 0))), ((qM 7), .inl (cI, 24, .inl (fun _ => 0))), ((qM 8), .inl (cI, 24, .inl (fun _ => 0))), ((qM 10), .inl (cI, 576, .inl (fun _ => 0))), ((qM 11), .inl (cI, 24, .inl (fun _ => 0)))]) hP hD hS hA [0, 1, 2, 3, 4, 5, 6, 7] [8, 9, 10, 11, 12, 13] rfl rfl rfl rfl (by decide) (fun hPc hDc => va_runV (As := [.int x1]) (rest := []) hF (c_X11_tongue (l := l) (D := D) (cI := cI) (cB := cB) (cS := cS) (cZ := cZ) (cW := cW) (aL := aL) (y0 := x1) (qL := qL) (qW := qW) (qT := qT)) (cwV 1 hts (gGV GL_sub wm_641 wm_642 wm_643 wm_151 wm_644) rfl rfl rfl (by decide +kernel) ⟨Nat.le_of_ble_eq_true rfl, Nat.le_of_ble_eq_true rfl⟩) (g_preV (q := (RX11, TX11, 7)) (ci := 11) (q0 := 0) hE hPc hDc rfl rfl) rfl rfl hl.1 rfl (lv_room (Nat.le_of_ble_eq_true rfl)) dL_law_238 ⟨Nat.le_of_ble_eq_true rfl, Nat.le_of_ble_eq_true rfl⟩) (fun r1 u2 H locs p3 hP hD hS => ?_)
  have hP : va_P D vwCl [(aM, oM qM 0 0 0 0 0 0 0 0 0 0 0 0 0 0 0 0 0 0), ((qM 6), .inl (cI, 4, .inl (fun _ => 0))), ((qM 7), .inl (cI, 24, .inl (fun _ => 0))), ((qM 8), .inl (cI, 24, .inl (fun _ => 0))), ((qM 10), .inl (cI, 576, .inl (fun _ => 0))), ((qM 11), .inl (cI, 24, .inl (fun _ => 0)))] H := hP
  have hD : va_D A [(aM, oM qM 0 0 0 0 0 0 0 0 0 0 0 0 0 0 0 0 0 0), ((qM 6), .inl (cI, 4, .inl (fun _ => 0))), ((qM 7), .inl (cI, 24, .inl (fun _ => 0))), ((qM 8), .inl (cI, 24, .inl (fun _ => 0))), ((qM 10), .inl (cI, 576, .inl (fun _ => 0))), ((qM 11), .inl (cI, 24, .inl (fun _ => 0)))] := hD
  refine lv_aload_n hx hb dL_law_241 rfl (lv_at hl 2 rfl) ?_
  refine lv_aload_n hx hb dL_law_242 rfl (lv_at hl 0 rfl) ?_
  refine lv_iload_n hx hb dL_law_243 rfl (lv_at hl 3 rfl) ?_
  refine lv_iconst (v := 1) hx hb dL_law_244 (by decide +kernel) ?_
  refine lv_iadd hx hb dL_law_245 ?_
  refine g_top 1 (by decide +kernel) ?_
  refine va_sld hx hb hX hbl hbA hS (vp_in_iff.mpr ⟨by decide +kernel, by decide +kernel⟩) dL_law_246 ?_
  refine g_top x1 ex1.symm ?_
  refine g_ai (D := D) (wc := [(aM, oM qM 0 0 0 0 0 0 0 0 0 0 0 0 0 0 0 0 0 0), ((qM 6), .inl (cI, 4, .inl (fun _ => 0))), ((qM 7), .inl (cI, 24, .inl (fun _ => 0))), ((qM 8), .inl (cI, 24, .inl (fun _ => 0))), ((qM 10), .inl (cI, 576, .inl (fun _ => 0))), ((qM 11), .inl (cI, 24, .inl (fun _ => 0)))]) (wr := []) hP hD hS hA [0, 1, 2, 3, 4, 5] [] rfl rfl rfl rfl (by decide) (fun hPc hDc => va_runV (As := [.int x1]) (rest := [.int r1]) hF (c_X12_tongue (l := l) (D := D) (cI := cI) (cB := cB) (cS := cS) (cZ := cZ) (cW := cW) (aM := aM) (y0 := x1) (qM := qM)) (cwV 1 hts (gGV GL_sub wm_645 wm_646 wm_647 wm_550 wm_648) rfl rfl rfl (by decide +kernel) ⟨Nat.le_of_ble_eq_true rfl, Nat.le_of_ble_eq_true rfl⟩) (g_preV (q := (RX12, TX12, 97)) (ci := 12) (q0 := 0) hE hPc hDc rfl rfl) rfl rfl hl.1 rfl (lv_room (Nat.le_of_ble_eq_true rfl)) dL_law_247 ⟨Nat.le_of_ble_eq_true rfl, Nat.le_of_ble_eq_true rfl⟩) (fun r4 u5 H locs p6 hP hD hS => ?_)
  have hP : va_P D vwCl [] H := hP
  have hD : va_D A [] := hD
  refine lv_icmp_eq (tgt := 1880) hx hb dL_law_250 (by decide) (fun _ => ?_) (fun c9 => absurd (p3.trans p6.symm) c9)
  rw [hAe] at hS
  exact law_tail C0 hS (lv_sub hl [0, 3] rfl) (Nat.le_of_ble_eq_true rfl) (Nat.le_of_ble_eq_true rfl)
set_option maxHeartbeats 8000000 in
set_option maxRecDepth 100000 in
theorem law_case_1 {p : Program} {l : Launch} {e : Env} {s : State} {m : MethodId} {below : List Frame} {meth : Method} {c : Code} {b : Nat} {xs : Nat → Int32} {D : va_G} {cI cB cS cZ cW : ClassId} {aL : Nat} {qL : Nat → Nat} {qW : Nat → Nat} {qT : Nat → Nat} {aM : Nat} {qM : Nat → Nat} (C0 : lw_At p s m meth c b 6 xs) (hE : gE D (gT cI cB cS cZ cW) s) : ∀ {H : Heap} {locs : List Loc} {ls : Array Slot}, va_P D vwCl [(aL, .inr (11, [.ref (qL 0), .ref (qL 1), .null, .null, .null, .null, .null])), ((qL 0), .inr (10, [.int 0, .ref (qW 1), .ref (qW 2), .ref (qW 3), .ref (qW 4), .ref (qW 5)])), ((qW 1), .inr (9, [.int 0, .ref (qT 1), .ref (qT 2), .ref (qT 3), .ref (qT 4), .ref (qT 5), .ref (qT 6), .ref (qT 7), .ref (qT 8)])), (aM, oM qM 0 0 0 0 0 0 0 0 0 0 0 0 0 0 0 0 0 0), ((qM 6), .inl (cI, 4, .inl (fun _ => 0)))] H → va_D (fun q : Nat => s.heap.size ≤ q) [(aL, .inr (11, [.ref (qL 0), .ref (qL 1), .null, .null, .null, .null, .null])), ((qL 0), .inr (10, [.int 0, .ref (qW 1), .ref (qW 2), .ref (qW 3), .ref (qW 4), .ref (qW 5)])), ((qW 1), .inr (9, [.int 0, .ref (qT 1), .ref (qT 2), .ref (qT 3), .ref (qT 4), .ref (qT 5), .ref (qT 6), .ref (qT 7), .ref (qT 8)])), (aM, oM qM 0 0 0 0 0 0 0 0 0 0 0 0 0 0 0 0 0 0), ((qM 6), .inl (cI, 4, .inl (fun _ => 0)))] → va_S (fun q : Nat => s.heap.size ≤ q) s.heap H locs → lv_has ls 4 [(0, .ref b), (1, .ref aL), (2, .ref aM), (3, .int 0)] → W p l e room_1 s m #[Value.ref b] below meth c H locs 136 31006 (lw_Z below #[Value.ref b] s) (F0 m 255 ls []) := by
  obtain ⟨hx, hb, hr, hml, hown, hts0, hX, hbl, hlocks, hgv⟩ := id C0
  have htg : ∀ w ∈ GL, w.before #[Value.ref b] s = true := fun w h => hts0 w (GL_sub w h)
  have hts := hts0
  have hown : s.vm.findClass RL = some m.cls := hown
  have hF : CallFix p m c cL_law 4 s #[Value.ref b] lw_tbl RL := ⟨hx, hb, hml, hown, hts⟩
  have hbA : ¬ (fun q : Nat => s.heap.size ≤ q) b := Nat.not_le.mpr hbl
  obtain ⟨A, hAe⟩ : ∃ A : Nat → Prop, A = (fun q : Nat => s.heap.size ≤ q) := ⟨_, rfl⟩
  have hA : ∀ q, s.heap.size ≤ q → A q := fun q h => by rw [hAe]; exact h
  rw [← hAe]
  rw [← hAe] at hbA
  intro H locs ls hP hD hS hl
  obtain ⟨x1, ex1⟩ : ∃ y : Int32, y = xs (1 : Int32).toNatClampNeg := ⟨_, rfl⟩
  obtain ⟨x2, ex2⟩ : ∃ y : Int32, y = xs (2 : Int32).toNatClampNeg := ⟨_, rfl⟩
  obtain ⟨x3, ex3⟩ : ∃ y : Int32, y = xs (3 : Int32).toNatClampNeg := ⟨_, rfl⟩
  obtain ⟨x4, ex4⟩ : ∃ y : Int32, y = xs (4 : Int32).toNatClampNeg := ⟨_, rfl⟩
  obtain ⟨x5, ex5⟩ : ∃ y : Int32, y = xs (5 : Int32).toNatClampNeg := ⟨_, rfl⟩
  have zm1 := tm_1
  have z1 := t_1
  have z2 := t_2
  have z3 := t_3
  have z4 := t_4
  have z5 := t_5
  refine lv_aload_n hx hb dL_law_255 rfl (lv_at hl 1 rfl) ?_
  refine lv_aload_n hx hb dL_law_256 rfl (lv_at hl 0 rfl) ?_
  refine lv_iload_n hx hb dL_law_257 rfl (lv_at hl 3 rfl) ?_
  refine lv_iconst (v := 1) hx hb dL_law_258 (by decide +kernel) ?_
  refine lv_iadd hx hb dL_law_259 ?_
  refine g_top 1 (by decide +kernel) ?_
  refine va_sld hx hb hX hbl hbA hS (vp_in_iff.mpr ⟨by decide +kernel, by decide +kernel⟩) dL_law_260 ?_
  refine g_top x1 ex1.symm ?_
  refine lv_aload_n hx hb dL_law_261 rfl (lv_at hl 0 rfl) ?_
  refine lv_iload_n hx hb dL_law_262 rfl (lv_at hl 3 rfl) ?_
  refine lv_iconst (v := 2) hx hb dL_law_263 (by decide +kernel) ?_
  refine lv_iadd hx hb dL_law_264 ?_
  refine g_top 2 (by decide +kernel) ?_
  refine va_sld hx hb hX hbl hbA hS (vp_in_iff.mpr ⟨by decide +kernel, by decide +kernel⟩) dL_law_265 ?_
  refine g_top x2 ex2.symm ?_
  refine lv_aload_n hx hb dL_law_266 rfl (lv_at hl 0 rfl) ?_
  refine lv_iload_n hx hb dL_law_267 rfl (lv_at hl 3 rfl) ?_
  refine lv_iconst (v := 3) hx hb dL_law_268 (by decide +kernel) ?_
  refine lv_iadd hx hb dL_law_269 ?_
  refine g_top 3 (by decide +kernel) ?_
  refine va_sld hx hb hX hbl hbA hS (vp_in_iff.mpr ⟨by decide +kernel, by decide +kernel⟩) dL_law_270 ?_
  refine g_top x3 ex3.symm ?_
  refine lv_aload_n hx hb dL_law_271 rfl (lv_at hl 0 rfl) ?_
  refine lv_iload_n hx hb dL_law_272 rfl (lv_at hl 3 rfl) ?_
  refine lv_iconst (v := 4) hx hb dL_law_273 (by decide +kernel) ?_
  refine lv_iadd hx hb dL_law_274 ?_
  refine g_top 4 (by decide +kernel) ?_
  refine va_sld hx hb hX hbl hbA hS (vp_in_iff.mpr ⟨by decide +kernel, by decide +kernel⟩) dL_law_275 ?_
  refine g_top x4 ex4.symm ?_
  refine lv_aload_n hx hb dL_law_276 rfl (lv_at hl 0 rfl) ?_
  refine lv_iload_n hx hb dL_law_277 rfl (lv_at hl 3 rfl) ?_
  refine lv_iconst (v := 5) hx hb dL_law_278 (by decide +kernel) ?_
  refine lv_iadd hx hb dL_law_279 ?_
  refine g_top 5 (by decide +kernel) ?_
  refine va_sld hx hb hX hbl hbA hS (vp_in_iff.mpr ⟨by decide +kernel, by decide +kernel⟩) dL_law_280 ?_
  refine g_top x5 ex5.symm ?_
  refine g_ai (D := D) (wc := [(aL, .inr (11, [.ref (qL 0), .ref (qL 1), .null, .null, .null, .null, .null])), ((qL 0), .inr (10, [.int 0, .ref (qW 1), .ref (qW 2), .ref (qW 3), .ref (qW 4), .ref (qW 5)])), ((qW 1), .inr (9, [.int 0, .ref (qT 1), .ref (qT 2), .ref (qT 3), .ref (qT 4), .ref (qT 5), .ref (qT 6), .ref (qT 7), .ref (qT 8)]))]) (wr := [(aM, oM qM 0 0 0 0 0 0 0 0 0 0 0 0 0 0 0 0 0 0), ((qM 6), .inl (cI, 4, .inl (fun _ => 0)))]) hP hD hS hA [0, 1, 2] [3, 4] rfl rfl rfl rfl (by decide) (fun hPc hDc => va_runV (As := [.int x1, .int x2, .int x3, .int x4, .int x5]) (rest := []) hF (c_X11_rule (l := l) (D := D) (cI := cI) (cB := cB) (cS := cS) (cZ := cZ) (cW := cW) (aL := aL) (y0 := x1) (y1 := x2) (y2 := x3) (y3 := x4) (y4 := x5) (qL := qL) (qW := qW) (qT := qT)) (cwV 5 hts (gGV GL_sub wm_649 wm_650 wm_651 wm_151 wm_652) rfl rfl rfl (by decide +kernel) ⟨Nat.le_of_ble_eq_true rfl, Nat.le_of_ble_eq_true rfl⟩) (g_preV (q := (RX11, TX11, 7)) (ci := 11) (q0 := 0) hE hPc hDc rfl rfl) rfl rfl hl.1 rfl (lv_room (Nat.le_of_ble_eq_true rfl)) dL_law_281 ⟨Nat.le_of_ble_eq_true rfl, Nat.le_of_ble_eq_true rfl⟩) (fun r1 u2 H locs p3 hP hD hS => ?_)
  have hP : va_P D vwCl [(aM, oM qM 0 0 0 0 0 0 0 0 0 0 0 0 0 0 0 0 0 0), ((qM 6), .inl (cI, 4, .inl (fun _ => 0)))] H := hP
  have hD : va_D A [(aM, oM qM 0 0 0 0 0 0 0 0 0 0 0 0 0 0 0 0 0 0), ((qM 6), .inl (cI, 4, .inl (fun _ => 0)))] := hD
  obtain rfl := p3
  refine lv_aload_n hx hb dL_law_284 rfl (lv_at hl 2 rfl) ?_
  refine lv_aload_n hx hb dL_law_285 rfl (lv_at hl 0 rfl) ?_
  refine lv_iload_n hx hb dL_law_286 rfl (lv_at hl 3 rfl) ?_
  refine lv_iconst (v := 1) hx hb dL_law_287 (by decide +kernel) ?_
  refine lv_iadd hx hb dL_law_288 ?_
  refine g_top 1 (by decide +kernel) ?_
  refine va_sld hx hb hX hbl hbA hS (vp_in_iff.mpr ⟨by decide +kernel, by decide +kernel⟩) dL_law_289 ?_
  refine g_top x1 ex1.symm ?_
  refine lv_aload_n hx hb dL_law_290 rfl (lv_at hl 0 rfl) ?_
  refine lv_iload_n hx hb dL_law_291 rfl (lv_at hl 3 rfl) ?_
  refine lv_iconst (v := 2) hx hb dL_law_292 (by decide +kernel) ?_
  refine lv_iadd hx hb dL_law_293 ?_
  refine g_top 2 (by decide +kernel) ?_
  refine va_sld hx hb hX hbl hbA hS (vp_in_iff.mpr ⟨by decide +kernel, by decide +kernel⟩) dL_law_294 ?_
  refine g_top x2 ex2.symm ?_
  refine lv_aload_n hx hb dL_law_295 rfl (lv_at hl 0 rfl) ?_
  refine lv_iload_n hx hb dL_law_296 rfl (lv_at hl 3 rfl) ?_
  refine lv_iconst (v := 3) hx hb dL_law_297 (by decide +kernel) ?_
  refine lv_iadd hx hb dL_law_298 ?_
  refine g_top 3 (by decide +kernel) ?_
  refine va_sld hx hb hX hbl hbA hS (vp_in_iff.mpr ⟨by decide +kernel, by decide +kernel⟩) dL_law_299 ?_
  refine g_top x3 ex3.symm ?_
  refine lv_aload_n hx hb dL_law_300 rfl (lv_at hl 0 rfl) ?_
  refine lv_iload_n hx hb dL_law_301 rfl (lv_at hl 3 rfl) ?_
  refine lv_iconst (v := 4) hx hb dL_law_302 (by decide +kernel) ?_
  refine lv_iadd hx hb dL_law_303 ?_
  refine g_top 4 (by decide +kernel) ?_
  refine va_sld hx hb hX hbl hbA hS (vp_in_iff.mpr ⟨by decide +kernel, by decide +kernel⟩) dL_law_304 ?_
  refine g_top x4 ex4.symm ?_
  refine lv_aload_n hx hb dL_law_305 rfl (lv_at hl 0 rfl) ?_
  refine lv_iload_n hx hb dL_law_306 rfl (lv_at hl 3 rfl) ?_
  refine lv_iconst (v := 5) hx hb dL_law_307 (by decide +kernel) ?_
  refine lv_iadd hx hb dL_law_308 ?_
  refine g_top 5 (by decide +kernel) ?_
  refine va_sld hx hb hX hbl hbA hS (vp_in_iff.mpr ⟨by decide +kernel, by decide +kernel⟩) dL_law_309 ?_
  refine g_top x5 ex5.symm ?_
  refine g_ai (D := D) (wc := [(aM, oM qM 0 0 0 0 0 0 0 0 0 0 0 0 0 0 0 0 0 0), ((qM 6), .inl (cI, 4, .inl (fun _ => 0)))]) (wr := []) hP hD hS hA [0, 1] [] rfl rfl rfl rfl (by decide) (fun hPc hDc => va_runV (As := [.int x1, .int x2, .int x3, .int x4, .int x5]) (rest := [.int (-1)]) hF (c_X12_rule (l := l) (D := D) (cI := cI) (cB := cB) (cS := cS) (cZ := cZ) (cW := cW) (aM := aM) (y0 := x1) (y1 := x2) (y2 := x3) (y3 := x4) (y4 := x5) (qM := qM)) (cwV 5 hts (gGV GL_sub wm_653 wm_654 wm_655 wm_550 wm_656) rfl rfl rfl (by decide +kernel) ⟨Nat.le_of_ble_eq_true rfl, Nat.le_of_ble_eq_true rfl⟩) (g_preV (q := (RX12, TX12, 97)) (ci := 12) (q0 := 0) hE hPc hDc rfl rfl) rfl rfl hl.1 rfl (lv_room (Nat.le_of_ble_eq_true rfl)) dL_law_310 ⟨Nat.le_of_ble_eq_true rfl, Nat.le_of_ble_eq_true rfl⟩) (fun r4 u5 H locs p6 hP hD hS => ?_)
  have hP : va_P D vwCl [] H := hP
  have hD : va_D A [] := hD
  obtain rfl := p6
  refine lv_icmp_eq (tgt := 1880) hx hb dL_law_313 (by decide) (fun _ => ?_) (fun c9 => absurd rfl c9)
  rw [hAe] at hS
  exact law_tail C0 hS (lv_sub hl [0, 3] rfl) (Nat.le_of_ble_eq_true rfl) (Nat.le_of_ble_eq_true rfl)
set_option maxHeartbeats 8000000 in
set_option maxRecDepth 100000 in
theorem law_case_2 {p : Program} {l : Launch} {e : Env} {s : State} {m : MethodId} {below : List Frame} {meth : Method} {c : Code} {b : Nat} {xs : Nat → Int32} {D : va_G} {cI cB cS cZ cW : ClassId} {aL : Nat} {qL : Nat → Nat} {qW : Nat → Nat} {qT : Nat → Nat} {aM : Nat} {qM : Nat → Nat} (C0 : lw_At p s m meth c b 6 xs) (hE : gE D (gT cI cB cS cZ cW) s) : ∀ {H : Heap} {locs : List Loc} {ls : Array Slot}, va_P D vwCl [(aL, .inr (11, [.ref (qL 0), .ref (qL 1), .null, .null, .null, .null, .null])), ((qL 0), .inr (10, [.int 0, .ref (qW 1), .ref (qW 2), .ref (qW 3), .ref (qW 4), .ref (qW 5)])), ((qW 1), .inr (9, [.int 0, .ref (qT 1), .ref (qT 2), .ref (qT 3), .ref (qT 4), .ref (qT 5), .ref (qT 6), .ref (qT 7), .ref (qT 8)])), (aM, oM qM 0 0 0 0 0 0 0 0 0 0 0 0 0 0 0 0 0 0), ((qM 6), .inl (cI, 4, .inl (fun _ => 0)))] H → va_D (fun q : Nat => s.heap.size ≤ q) [(aL, .inr (11, [.ref (qL 0), .ref (qL 1), .null, .null, .null, .null, .null])), ((qL 0), .inr (10, [.int 0, .ref (qW 1), .ref (qW 2), .ref (qW 3), .ref (qW 4), .ref (qW 5)])), ((qW 1), .inr (9, [.int 0, .ref (qT 1), .ref (qT 2), .ref (qT 3), .ref (qT 4), .ref (qT 5), .ref (qT 6), .ref (qT 7), .ref (qT 8)])), (aM, oM qM 0 0 0 0 0 0 0 0 0 0 0 0 0 0 0 0 0 0), ((qM 6), .inl (cI, 4, .inl (fun _ => 0)))] → va_S (fun q : Nat => s.heap.size ≤ q) s.heap H locs → lv_has ls 4 [(0, .ref b), (1, .ref aL), (2, .ref aM), (3, .int 0)] → W p l e room_1 s m #[Value.ref b] below meth c H locs 136 31006 (lw_Z below #[Value.ref b] s) (F0 m 318 ls []) := by
  obtain ⟨hx, hb, hr, hml, hown, hts0, hX, hbl, hlocks, hgv⟩ := id C0
  have htg : ∀ w ∈ GL, w.before #[Value.ref b] s = true := fun w h => hts0 w (GL_sub w h)
  have hts := hts0
  have hown : s.vm.findClass RL = some m.cls := hown
  have hF : CallFix p m c cL_law 4 s #[Value.ref b] lw_tbl RL := ⟨hx, hb, hml, hown, hts⟩
  have hbA : ¬ (fun q : Nat => s.heap.size ≤ q) b := Nat.not_le.mpr hbl
  obtain ⟨A, hAe⟩ : ∃ A : Nat → Prop, A = (fun q : Nat => s.heap.size ≤ q) := ⟨_, rfl⟩
  have hA : ∀ q, s.heap.size ≤ q → A q := fun q h => by rw [hAe]; exact h
  rw [← hAe]
  rw [← hAe] at hbA
  intro H locs ls hP hD hS hl
  obtain ⟨x1, ex1⟩ : ∃ y : Int32, y = xs (1 : Int32).toNatClampNeg := ⟨_, rfl⟩
  have z0 := t_0
  have z1 := t_1
  refine lv_aload_n hx hb dL_law_318 rfl (lv_at hl 1 rfl) ?_
  refine lv_aload_n hx hb dL_law_319 rfl (lv_at hl 0 rfl) ?_
  refine lv_iload_n hx hb dL_law_320 rfl (lv_at hl 3 rfl) ?_
  refine lv_iconst (v := 1) hx hb dL_law_321 (by decide +kernel) ?_
  refine lv_iadd hx hb dL_law_322 ?_
  refine g_top 1 (by decide +kernel) ?_
  refine va_sld hx hb hX hbl hbA hS (vp_in_iff.mpr ⟨by decide +kernel, by decide +kernel⟩) dL_law_323 ?_
  refine g_top x1 ex1.symm ?_
  refine g_ai (D := D) (wc := [(aL, .inr (11, [.ref (qL 0), .ref (qL 1), .null, .null, .null, .null, .null])), ((qL 0), .inr (10, [.int 0, .ref (qW 1), .ref (qW 2), .ref (qW 3), .ref (qW 4), .ref (qW 5)])), ((qW 1), .inr (9, [.int 0, .ref (qT 1), .ref (qT 2), .ref (qT 3), .ref (qT 4), .ref (qT 5), .ref (qT 6), .ref (qT 7), .ref (qT 8)]))]) (wr := [(aM, oM qM 0 0 0 0 0 0 0 0 0 0 0 0 0 0 0 0 0 0), ((qM 6), .inl (cI, 4, .inl (fun _ => 0)))]) hP hD hS hA [0, 1, 2] [3, 4] rfl rfl rfl rfl (by decide) (fun hPc hDc => va_runV (As := [.int x1]) (rest := []) hF (c_X11_unrule (l := l) (D := D) (cI := cI) (cB := cB) (cS := cS) (cZ := cZ) (cW := cW) (aL := aL) (y0 := x1) (qL := qL) (qW := qW) (qT := qT)) (cwV 1 hts (gGV GL_sub wm_657 wm_658 wm_659 wm_151 wm_660) rfl rfl rfl (by decide +kernel) ⟨Nat.le_of_ble_eq_true rfl, Nat.le_of_ble_eq_true rfl⟩) (g_preV (q := (RX11, TX11, 7)) (ci := 11) (q0 := 0) hE hPc hDc rfl rfl) rfl rfl hl.1 rfl (lv_room (Nat.le_of_ble_eq_true rfl)) dL_law_324 ⟨Nat.le_of_ble_eq_true rfl, Nat.le_of_ble_eq_true rfl⟩) (fun r1 u2 H locs p3 hP hD hS => ?_)
  have hP : va_P D vwCl [(aM, oM qM 0 0 0 0 0 0 0 0 0 0 0 0 0 0 0 0 0 0), ((qM 6), .inl (cI, 4, .inl (fun _ => 0)))] H := hP
  have hD : va_D A [(aM, oM qM 0 0 0 0 0 0 0 0 0 0 0 0 0 0 0 0 0 0), ((qM 6), .inl (cI, 4, .inl (fun _ => 0)))] := hD
  obtain rfl := p3
  refine lv_aload_n hx hb dL_law_327 rfl (lv_at hl 2 rfl) ?_
  refine lv_aload_n hx hb dL_law_328 rfl (lv_at hl 0 rfl) ?_
  refine lv_iload_n hx hb dL_law_329 rfl (lv_at hl 3 rfl) ?_
  refine lv_iconst (v := 1) hx hb dL_law_330 (by decide +kernel) ?_
  refine lv_iadd hx hb dL_law_331 ?_
  refine g_top 1 (by decide +kernel) ?_
  refine va_sld hx hb hX hbl hbA hS (vp_in_iff.mpr ⟨by decide +kernel, by decide +kernel⟩) dL_law_332 ?_
  refine g_top x1 ex1.symm ?_
  refine g_ai (D := D) (wc := [(aM, oM qM 0 0 0 0 0 0 0 0 0 0 0 0 0 0 0 0 0 0), ((qM 6), .inl (cI, 4, .inl (fun _ => 0)))]) (wr := []) hP hD hS hA [0, 1] [] rfl rfl rfl rfl (by decide) (fun hPc hDc => va_runV (As := [.int x1]) (rest := [.int 0]) hF (c_X12_unrule (l := l) (D := D) (cI := cI) (cB := cB) (cS := cS) (cZ := cZ) (cW := cW) (aM := aM) (y0 := x1) (qM := qM)) (cwV 1 hts (gGV GL_sub wm_661 wm_662 wm_663 wm_550 wm_664) rfl rfl rfl (by decide +kernel) ⟨Nat.le_of_ble_eq_true rfl, Nat.le_of_ble_eq_true rfl⟩) (g_preV (q := (RX12, TX12, 97)) (ci := 12) (q0 := 0) hE hPc hDc rfl rfl) rfl rfl hl.1 rfl (lv_room (Nat.le_of_ble_eq_true rfl)) dL_law_333 ⟨Nat.le_of_ble_eq_true rfl, Nat.le_of_ble_eq_true rfl⟩) (fun r4 u5 H locs p6 hP hD hS => ?_)
  have hP : va_P D vwCl [] H := hP
  have hD : va_D A [] := hD
  obtain rfl := p6
  refine lv_icmp_eq (tgt := 1880) hx hb dL_law_336 (by decide) (fun _ => ?_) (fun c9 => absurd rfl c9)
  rw [hAe] at hS
  exact law_tail C0 hS (lv_sub hl [0, 3] rfl) (Nat.le_of_ble_eq_true rfl) (Nat.le_of_ble_eq_true rfl)
set_option maxHeartbeats 8000000 in
set_option maxRecDepth 100000 in
theorem law_case_3 {p : Program} {l : Launch} {e : Env} {s : State} {m : MethodId} {below : List Frame} {meth : Method} {c : Code} {b : Nat} {xs : Nat → Int32} {D : va_G} {cI cB cS cZ cW : ClassId} {aL : Nat} {qL : Nat → Nat} {qW : Nat → Nat} {qT : Nat → Nat} {aM : Nat} {qM : Nat → Nat} (C0 : lw_At p s m meth c b 6 xs) (hE : gE D (gT cI cB cS cZ cW) s) : ∀ {H : Heap} {locs : List Loc} {ls : Array Slot}, va_P D vwCl [(aL, .inr (11, [.ref (qL 0), .ref (qL 1), .null, .null, .null, .null, .null])), ((qL 0), .inr (10, [.int 0, .ref (qW 1), .ref (qW 2), .ref (qW 3), .ref (qW 4), .ref (qW 5)])), ((qW 1), .inr (9, [.int 0, .ref (qT 1), .ref (qT 2), .ref (qT 3), .ref (qT 4), .ref (qT 5), .ref (qT 6), .ref (qT 7), .ref (qT 8)])), (aM, oM qM 0 0 0 0 0 0 0 0 0 0 0 0 0 0 0 0 0 0), ((qM 6), .inl (cI, 4, .inl (fun _ => 0)))] H → va_D (fun q : Nat => s.heap.size ≤ q) [(aL, .inr (11, [.ref (qL 0), .ref (qL 1), .null, .null, .null, .null, .null])), ((qL 0), .inr (10, [.int 0, .ref (qW 1), .ref (qW 2), .ref (qW 3), .ref (qW 4), .ref (qW 5)])), ((qW 1), .inr (9, [.int 0, .ref (qT 1), .ref (qT 2), .ref (qT 3), .ref (qT 4), .ref (qT 5), .ref (qT 6), .ref (qT 7), .ref (qT 8)])), (aM, oM qM 0 0 0 0 0 0 0 0 0 0 0 0 0 0 0 0 0 0), ((qM 6), .inl (cI, 4, .inl (fun _ => 0)))] → va_S (fun q : Nat => s.heap.size ≤ q) s.heap H locs → lv_has ls 4 [(0, .ref b), (1, .ref aL), (2, .ref aM), (3, .int 0)] → W p l e room_1 s m #[Value.ref b] below meth c H locs 136 31006 (lw_Z below #[Value.ref b] s) (F0 m 341 ls []) := by
  obtain ⟨hx, hb, hr, hml, hown, hts0, hX, hbl, hlocks, hgv⟩ := id C0
  have htg : ∀ w ∈ GL, w.before #[Value.ref b] s = true := fun w h => hts0 w (GL_sub w h)
  have hts := hts0
  have hown : s.vm.findClass RL = some m.cls := hown
  have hF : CallFix p m c cL_law 4 s #[Value.ref b] lw_tbl RL := ⟨hx, hb, hml, hown, hts⟩
  have hbA : ¬ (fun q : Nat => s.heap.size ≤ q) b := Nat.not_le.mpr hbl
  obtain ⟨A, hAe⟩ : ∃ A : Nat → Prop, A = (fun q : Nat => s.heap.size ≤ q) := ⟨_, rfl⟩
  have hA : ∀ q, s.heap.size ≤ q → A q := fun q h => by rw [hAe]; exact h
  rw [← hAe]
  rw [← hAe] at hbA
  intro H locs ls hP hD hS hl
  obtain ⟨x1, ex1⟩ : ∃ y : Int32, y = xs (1 : Int32).toNatClampNeg := ⟨_, rfl⟩
  obtain ⟨x2, ex2⟩ : ∃ y : Int32, y = xs (2 : Int32).toNatClampNeg := ⟨_, rfl⟩
  obtain ⟨x3, ex3⟩ : ∃ y : Int32, y = xs (3 : Int32).toNatClampNeg := ⟨_, rfl⟩
  have z0 := t_0
  have z1 := t_1
  have z2 := t_2
  have z3 := t_3
  refine lv_aload_n hx hb dL_law_341 rfl (lv_at hl 1 rfl) ?_
  refine lv_aload_n hx hb dL_law_342 rfl (lv_at hl 0 rfl) ?_
  refine lv_iload_n hx hb dL_law_343 rfl (lv_at hl 3 rfl) ?_
  refine lv_iconst (v := 1) hx hb dL_law_344 (by decide +kernel) ?_
  refine lv_iadd hx hb dL_law_345 ?_
  refine g_top 1 (by decide +kernel) ?_
  refine va_sld hx hb hX hbl hbA hS (vp_in_iff.mpr ⟨by decide +kernel, by decide +kernel⟩) dL_law_346 ?_
  refine g_top x1 ex1.symm ?_
  refine lv_aload_n hx hb dL_law_347 rfl (lv_at hl 0 rfl) ?_
  refine lv_iload_n hx hb dL_law_348 rfl (lv_at hl 3 rfl) ?_
  refine lv_iconst (v := 2) hx hb dL_law_349 (by decide +kernel) ?_
  refine lv_iadd hx hb dL_law_350 ?_
  refine g_top 2 (by decide +kernel) ?_
  refine va_sld hx hb hX hbl hbA hS (vp_in_iff.mpr ⟨by decide +kernel, by decide +kernel⟩) dL_law_351 ?_
  refine g_top x2 ex2.symm ?_
  refine lv_aload_n hx hb dL_law_352 rfl (lv_at hl 0 rfl) ?_
  refine lv_iload_n hx hb dL_law_353 rfl (lv_at hl 3 rfl) ?_
  refine lv_iconst (v := 3) hx hb dL_law_354 (by decide +kernel) ?_
  refine lv_iadd hx hb dL_law_355 ?_
  refine g_top 3 (by decide +kernel) ?_
  refine va_sld hx hb hX hbl hbA hS (vp_in_iff.mpr ⟨by decide +kernel, by decide +kernel⟩) dL_law_356 ?_
  refine g_top x3 ex3.symm ?_
  refine g_ai (D := D) (wc := [(aL, .inr (11, [.ref (qL 0), .ref (qL 1), .null, .null, .null, .null, .null])), ((qL 0), .inr (10, [.int 0, .ref (qW 1), .ref (qW 2), .ref (qW 3), .ref (qW 4), .ref (qW 5)])), ((qW 1), .inr (9, [.int 0, .ref (qT 1), .ref (qT 2), .ref (qT 3), .ref (qT 4), .ref (qT 5), .ref (qT 6), .ref (qT 7), .ref (qT 8)]))]) (wr := [(aM, oM qM 0 0 0 0 0 0 0 0 0 0 0 0 0 0 0 0 0 0), ((qM 6), .inl (cI, 4, .inl (fun _ => 0)))]) hP hD hS hA [0, 1, 2] [3, 4] rfl rfl rfl rfl (by decide) (fun hPc hDc => va_runV (As := [.int x1, .int x2, .int x3]) (rest := []) hF (c_X11_word (l := l) (D := D) (cI := cI) (cB := cB) (cS := cS) (cZ := cZ) (cW := cW) (aL := aL) (y0 := x1) (y1 := x2) (y2 := x3) (qL := qL) (qW := qW) (qT := qT)) (cwV 3 hts (gGV GL_sub wm_665 wm_666 wm_667 wm_151 wm_668) rfl rfl rfl (by decide +kernel) ⟨Nat.le_of_ble_eq_true rfl, Nat.le_of_ble_eq_true rfl⟩) (g_preV (q := (RX11, TX11, 7)) (ci := 11) (q0 := 0) hE hPc hDc rfl rfl) rfl rfl hl.1 rfl (lv_room (Nat.le_of_ble_eq_true rfl)) dL_law_357 ⟨Nat.le_of_ble_eq_true rfl, Nat.le_of_ble_eq_true rfl⟩) (fun r1 u2 H locs p3 hP hD hS => ?_)
  have hP : va_P D vwCl [(aM, oM qM 0 0 0 0 0 0 0 0 0 0 0 0 0 0 0 0 0 0), ((qM 6), .inl (cI, 4, .inl (fun _ => 0)))] H := hP
  have hD : va_D A [(aM, oM qM 0 0 0 0 0 0 0 0 0 0 0 0 0 0 0 0 0 0), ((qM 6), .inl (cI, 4, .inl (fun _ => 0)))] := hD
  obtain rfl := p3
  refine lv_aload_n hx hb dL_law_360 rfl (lv_at hl 2 rfl) ?_
  refine lv_aload_n hx hb dL_law_361 rfl (lv_at hl 0 rfl) ?_
  refine lv_iload_n hx hb dL_law_362 rfl (lv_at hl 3 rfl) ?_
  refine lv_iconst (v := 1) hx hb dL_law_363 (by decide +kernel) ?_
  refine lv_iadd hx hb dL_law_364 ?_
  refine g_top 1 (by decide +kernel) ?_
  refine va_sld hx hb hX hbl hbA hS (vp_in_iff.mpr ⟨by decide +kernel, by decide +kernel⟩) dL_law_365 ?_
  refine g_top x1 ex1.symm ?_
  refine lv_aload_n hx hb dL_law_366 rfl (lv_at hl 0 rfl) ?_
  refine lv_iload_n hx hb dL_law_367 rfl (lv_at hl 3 rfl) ?_
  refine lv_iconst (v := 2) hx hb dL_law_368 (by decide +kernel) ?_
  refine lv_iadd hx hb dL_law_369 ?_
  refine g_top 2 (by decide +kernel) ?_
  refine va_sld hx hb hX hbl hbA hS (vp_in_iff.mpr ⟨by decide +kernel, by decide +kernel⟩) dL_law_370 ?_
  refine g_top x2 ex2.symm ?_
  refine lv_aload_n hx hb dL_law_371 rfl (lv_at hl 0 rfl) ?_
  refine lv_iload_n hx hb dL_law_372 rfl (lv_at hl 3 rfl) ?_
  refine lv_iconst (v := 3) hx hb dL_law_373 (by decide +kernel) ?_
  refine lv_iadd hx hb dL_law_374 ?_
  refine g_top 3 (by decide +kernel) ?_
  refine va_sld hx hb hX hbl hbA hS (vp_in_iff.mpr ⟨by decide +kernel, by decide +kernel⟩) dL_law_375 ?_
  refine g_top x3 ex3.symm ?_
  refine g_ai (D := D) (wc := [(aM, oM qM 0 0 0 0 0 0 0 0 0 0 0 0 0 0 0 0 0 0), ((qM 6), .inl (cI, 4, .inl (fun _ => 0)))]) (wr := []) hP hD hS hA [0, 1] [] rfl rfl rfl rfl (by decide) (fun hPc hDc => va_runV (As := [.int x1, .int x2, .int x3]) (rest := [.int 0]) hF (c_X12_word (l := l) (D := D) (cI := cI) (cB := cB) (cS := cS) (cZ := cZ) (cW := cW) (aM := aM) (y0 := x1) (y1 := x2) (y2 := x3) (qM := qM)) (cwV 3 hts (gGV GL_sub wm_669 wm_670 wm_671 wm_550 wm_672) rfl rfl rfl (by decide +kernel) ⟨Nat.le_of_ble_eq_true rfl, Nat.le_of_ble_eq_true rfl⟩) (g_preV (q := (RX12, TX12, 97)) (ci := 12) (q0 := 0) hE hPc hDc rfl rfl) rfl rfl hl.1 rfl (lv_room (Nat.le_of_ble_eq_true rfl)) dL_law_376 ⟨Nat.le_of_ble_eq_true rfl, Nat.le_of_ble_eq_true rfl⟩) (fun r4 u5 H locs p6 hP hD hS => ?_)
  have hP : va_P D vwCl [] H := hP
  have hD : va_D A [] := hD
  obtain rfl := p6
  refine lv_icmp_eq (tgt := 1880) hx hb dL_law_379 (by decide) (fun _ => ?_) (fun c9 => absurd rfl c9)
  rw [hAe] at hS
  exact law_tail C0 hS (lv_sub hl [0, 3] rfl) (Nat.le_of_ble_eq_true rfl) (Nat.le_of_ble_eq_true rfl)
set_option maxHeartbeats 8000000 in
set_option maxRecDepth 100000 in
theorem law_case_4 {p : Program} {l : Launch} {e : Env} {s : State} {m : MethodId} {below : List Frame} {meth : Method} {c : Code} {b : Nat} {xs : Nat → Int32} {D : va_G} {cI cB cS cZ cW : ClassId} {aL : Nat} {qL : Nat → Nat} {qW : Nat → Nat} {qT : Nat → Nat} {aM : Nat} {qM : Nat → Nat} (C0 : lw_At p s m meth c b 6 xs) (hE : gE D (gT cI cB cS cZ cW) s) : ∀ {H : Heap} {locs : List Loc} {ls : Array Slot}, va_P D vwCl [(aL, .inr (11, [.ref (qL 0), .ref (qL 1), .null, .null, .null, .null, .null])), ((qL 0), .inr (10, [.int 0, .ref (qW 1), .ref (qW 2), .ref (qW 3), .ref (qW 4), .ref (qW 5)])), ((qW 1), .inr (9, [.int 0, .ref (qT 1), .ref (qT 2), .ref (qT 3), .ref (qT 4), .ref (qT 5), .ref (qT 6), .ref (qT 7), .ref (qT 8)])), (aM, oM qM 0 0 0 0 0 0 0 0 0 0 0 0 0 0 0 0 0 0), ((qM 6), .inl (cI, 4, .inl (fun _ => 0)))] H → va_D (fun q : Nat => s.heap.size ≤ q) [(aL, .inr (11, [.ref (qL 0), .ref (qL 1), .null, .null, .null, .null, .null])), ((qL 0), .inr (10, [.int 0, .ref (qW 1), .ref (qW 2), .ref (qW 3), .ref (qW 4), .ref (qW 5)])), ((qW 1), .inr (9, [.int 0, .ref (qT 1), .ref (qT 2), .ref (qT 3), .ref (qT 4), .ref (qT 5), .ref (qT 6), .ref (qT 7), .ref (qT 8)])), (aM, oM qM 0 0 0 0 0 0 0 0 0 0 0 0 0 0 0 0 0 0), ((qM 6), .inl (cI, 4, .inl (fun _ => 0)))] → va_S (fun q : Nat => s.heap.size ≤ q) s.heap H locs → lv_has ls 4 [(0, .ref b), (1, .ref aL), (2, .ref aM), (3, .int 0)] → W p l e room_1 s m #[Value.ref b] below meth c H locs 136 31006 (lw_Z below #[Value.ref b] s) (F0 m 384 ls []) := by
  obtain ⟨hx, hb, hr, hml, hown, hts0, hX, hbl, hlocks, hgv⟩ := id C0
  have htg : ∀ w ∈ GL, w.before #[Value.ref b] s = true := fun w h => hts0 w (GL_sub w h)
  have hts := hts0
  have hown : s.vm.findClass RL = some m.cls := hown
  have hF : CallFix p m c cL_law 4 s #[Value.ref b] lw_tbl RL := ⟨hx, hb, hml, hown, hts⟩
  have hbA : ¬ (fun q : Nat => s.heap.size ≤ q) b := Nat.not_le.mpr hbl
  obtain ⟨A, hAe⟩ : ∃ A : Nat → Prop, A = (fun q : Nat => s.heap.size ≤ q) := ⟨_, rfl⟩
  have hA : ∀ q, s.heap.size ≤ q → A q := fun q h => by rw [hAe]; exact h
  rw [← hAe]
  rw [← hAe] at hbA
  intro H locs ls hP hD hS hl
  obtain ⟨x1, ex1⟩ : ∃ y : Int32, y = xs (1 : Int32).toNatClampNeg := ⟨_, rfl⟩
  obtain ⟨x2, ex2⟩ : ∃ y : Int32, y = xs (2 : Int32).toNatClampNeg := ⟨_, rfl⟩
  have z0 := t_0
  have z1 := t_1
  have z2 := t_2
  refine lv_aload_n hx hb dL_law_384 rfl (lv_at hl 1 rfl) ?_
  refine lv_aload_n hx hb dL_law_385 rfl (lv_at hl 0 rfl) ?_
  refine lv_iload_n hx hb dL_law_386 rfl (lv_at hl 3 rfl) ?_
  refine lv_iconst (v := 1) hx hb dL_law_387 (by decide +kernel) ?_
  refine lv_iadd hx hb dL_law_388 ?_
  refine g_top 1 (by decide +kernel) ?_
  refine va_sld hx hb hX hbl hbA hS (vp_in_iff.mpr ⟨by decide +kernel, by decide +kernel⟩) dL_law_389 ?_
  refine g_top x1 ex1.symm ?_
  refine lv_aload_n hx hb dL_law_390 rfl (lv_at hl 0 rfl) ?_
  refine lv_iload_n hx hb dL_law_391 rfl (lv_at hl 3 rfl) ?_
  refine lv_iconst (v := 2) hx hb dL_law_392 (by decide +kernel) ?_
  refine lv_iadd hx hb dL_law_393 ?_
  refine g_top 2 (by decide +kernel) ?_
  refine va_sld hx hb hX hbl hbA hS (vp_in_iff.mpr ⟨by decide +kernel, by decide +kernel⟩) dL_law_394 ?_
  refine g_top x2 ex2.symm ?_
  refine g_ai (D := D) (wc := [(aL, .inr (11, [.ref (qL 0), .ref (qL 1), .null, .null, .null, .null, .null])), ((qL 0), .inr (10, [.int 0, .ref (qW 1), .ref (qW 2), .ref (qW 3), .ref (qW 4), .ref (qW 5)])), ((qW 1), .inr (9, [.int 0, .ref (qT 1), .ref (qT 2), .ref (qT 3), .ref (qT 4), .ref (qT 5), .ref (qT 6), .ref (qT 7), .ref (qT 8)]))]) (wr := [(aM, oM qM 0 0 0 0 0 0 0 0 0 0 0 0 0 0 0 0 0 0), ((qM 6), .inl (cI, 4, .inl (fun _ => 0)))]) hP hD hS hA [0, 1, 2] [3, 4] rfl rfl rfl rfl (by decide) (fun hPc hDc => va_runV (As := [.int x1, .int x2]) (rest := []) hF (c_X11_form (l := l) (D := D) (cI := cI) (cB := cB) (cS := cS) (cZ := cZ) (cW := cW) (aL := aL) (y0 := x1) (y1 := x2) (qL := qL) (qW := qW) (qT := qT)) (cwV 2 hts (gGV GL_sub wm_673 wm_674 wm_675 wm_151 wm_676) rfl rfl rfl (by decide +kernel) ⟨Nat.le_of_ble_eq_true rfl, Nat.le_of_ble_eq_true rfl⟩) (g_preV (q := (RX11, TX11, 7)) (ci := 11) (q0 := 0) hE hPc hDc rfl rfl) rfl rfl hl.1 rfl (lv_room (Nat.le_of_ble_eq_true rfl)) dL_law_395 ⟨Nat.le_of_ble_eq_true rfl, Nat.le_of_ble_eq_true rfl⟩) (fun r1 u2 H locs p3 hP hD hS => ?_)
  have hP : va_P D vwCl [(aM, oM qM 0 0 0 0 0 0 0 0 0 0 0 0 0 0 0 0 0 0), ((qM 6), .inl (cI, 4, .inl (fun _ => 0)))] H := hP
  have hD : va_D A [(aM, oM qM 0 0 0 0 0 0 0 0 0 0 0 0 0 0 0 0 0 0), ((qM 6), .inl (cI, 4, .inl (fun _ => 0)))] := hD
  obtain rfl := p3
  refine lv_aload_n hx hb dL_law_398 rfl (lv_at hl 2 rfl) ?_
  refine lv_aload_n hx hb dL_law_399 rfl (lv_at hl 0 rfl) ?_
  refine lv_iload_n hx hb dL_law_400 rfl (lv_at hl 3 rfl) ?_
  refine lv_iconst (v := 1) hx hb dL_law_401 (by decide +kernel) ?_
  refine lv_iadd hx hb dL_law_402 ?_
  refine g_top 1 (by decide +kernel) ?_
  refine va_sld hx hb hX hbl hbA hS (vp_in_iff.mpr ⟨by decide +kernel, by decide +kernel⟩) dL_law_403 ?_
  refine g_top x1 ex1.symm ?_
  refine lv_aload_n hx hb dL_law_404 rfl (lv_at hl 0 rfl) ?_
  refine lv_iload_n hx hb dL_law_405 rfl (lv_at hl 3 rfl) ?_
  refine lv_iconst (v := 2) hx hb dL_law_406 (by decide +kernel) ?_
  refine lv_iadd hx hb dL_law_407 ?_
  refine g_top 2 (by decide +kernel) ?_
  refine va_sld hx hb hX hbl hbA hS (vp_in_iff.mpr ⟨by decide +kernel, by decide +kernel⟩) dL_law_408 ?_
  refine g_top x2 ex2.symm ?_
  refine g_ai (D := D) (wc := [(aM, oM qM 0 0 0 0 0 0 0 0 0 0 0 0 0 0 0 0 0 0), ((qM 6), .inl (cI, 4, .inl (fun _ => 0)))]) (wr := []) hP hD hS hA [0, 1] [] rfl rfl rfl rfl (by decide) (fun hPc hDc => va_runV (As := [.int x1, .int x2]) (rest := [.int 0]) hF (c_X12_form (l := l) (D := D) (cI := cI) (cB := cB) (cS := cS) (cZ := cZ) (cW := cW) (aM := aM) (y0 := x1) (y1 := x2) (qM := qM)) (cwV 2 hts (gGV GL_sub wm_677 wm_678 wm_679 wm_550 wm_680) rfl rfl rfl (by decide +kernel) ⟨Nat.le_of_ble_eq_true rfl, Nat.le_of_ble_eq_true rfl⟩) (g_preV (q := (RX12, TX12, 97)) (ci := 12) (q0 := 0) hE hPc hDc rfl rfl) rfl rfl hl.1 rfl (lv_room (Nat.le_of_ble_eq_true rfl)) dL_law_409 ⟨Nat.le_of_ble_eq_true rfl, Nat.le_of_ble_eq_true rfl⟩) (fun r4 u5 H locs p6 hP hD hS => ?_)
  have hP : va_P D vwCl [] H := hP
  have hD : va_D A [] := hD
  obtain rfl := p6
  refine lv_icmp_eq (tgt := 1880) hx hb dL_law_412 (by decide) (fun _ => ?_) (fun c9 => absurd rfl c9)
  rw [hAe] at hS
  exact law_tail C0 hS (lv_sub hl [0, 3] rfl) (Nat.le_of_ble_eq_true rfl) (Nat.le_of_ble_eq_true rfl)
set_option maxHeartbeats 8000000 in
set_option maxRecDepth 100000 in
theorem law_case_5 {p : Program} {l : Launch} {e : Env} {s : State} {m : MethodId} {below : List Frame} {meth : Method} {c : Code} {b : Nat} {xs : Nat → Int32} {D : va_G} {cI cB cS cZ cW : ClassId} {aL : Nat} {qL : Nat → Nat} {qW : Nat → Nat} {qT : Nat → Nat} {aM : Nat} {qM : Nat → Nat} (C0 : lw_At p s m meth c b 6 xs) (hE : gE D (gT cI cB cS cZ cW) s) : ∀ {H : Heap} {locs : List Loc} {ls : Array Slot}, va_P D vwCl [(aL, .inr (11, [.ref (qL 0), .ref (qL 1), .null, .null, .null, .null, .null])), ((qL 0), .inr (10, [.int 0, .ref (qW 1), .ref (qW 2), .ref (qW 3), .ref (qW 4), .ref (qW 5)])), ((qW 1), .inr (9, [.int 0, .ref (qT 1), .ref (qT 2), .ref (qT 3), .ref (qT 4), .ref (qT 5), .ref (qT 6), .ref (qT 7), .ref (qT 8)])), ((qT 8), .inl (cI, 24, .inl (fun _ => 0))), (aM, oM qM 0 0 0 0 0 0 0 0 0 0 0 0 0 0 0 0 0 0), ((qM 12), .inl (cI, 96, .inl (fun _ => 0)))] H → va_D (fun q : Nat => s.heap.size ≤ q) [(aL, .inr (11, [.ref (qL 0), .ref (qL 1), .null, .null, .null, .null, .null])), ((qL 0), .inr (10, [.int 0, .ref (qW 1), .ref (qW 2), .ref (qW 3), .ref (qW 4), .ref (qW 5)])), ((qW 1), .inr (9, [.int 0, .ref (qT 1), .ref (qT 2), .ref (qT 3), .ref (qT 4), .ref (qT 5), .ref (qT 6), .ref (qT 7), .ref (qT 8)])), ((qT 8), .inl (cI, 24, .inl (fun _ => 0))), (aM, oM qM 0 0 0 0 0 0 0 0 0 0 0 0 0 0 0 0 0 0), ((qM 12), .inl (cI, 96, .inl (fun _ => 0)))] → va_S (fun q : Nat => s.heap.size ≤ q) s.heap H locs → lv_has ls 4 [(0, .ref b), (1, .ref aL), (2, .ref aM), (3, .int 0)] → W p l e room_1 s m #[Value.ref b] below meth c H locs 136 31006 (lw_Z below #[Value.ref b] s) (F0 m 417 ls []) := by
  obtain ⟨hx, hb, hr, hml, hown, hts0, hX, hbl, hlocks, hgv⟩ := id C0
  have htg : ∀ w ∈ GL, w.before #[Value.ref b] s = true := fun w h => hts0 w (GL_sub w h)
  have hts := hts0
  have hown : s.vm.findClass RL = some m.cls := hown
  have hF : CallFix p m c cL_law 4 s #[Value.ref b] lw_tbl RL := ⟨hx, hb, hml, hown, hts⟩
  have hbA : ¬ (fun q : Nat => s.heap.size ≤ q) b := Nat.not_le.mpr hbl
  obtain ⟨A, hAe⟩ : ∃ A : Nat → Prop, A = (fun q : Nat => s.heap.size ≤ q) := ⟨_, rfl⟩
  have hA : ∀ q, s.heap.size ≤ q → A q := fun q h => by rw [hAe]; exact h
  rw [← hAe]
  rw [← hAe] at hbA
  intro H locs ls hP hD hS hl
  obtain ⟨x1, ex1⟩ : ∃ y : Int32, y = xs (1 : Int32).toNatClampNeg := ⟨_, rfl⟩
  obtain ⟨x2, ex2⟩ : ∃ y : Int32, y = xs (2 : Int32).toNatClampNeg := ⟨_, rfl⟩
  have z1 := t_1
  have z2 := t_2
  refine lv_aload_n hx hb dL_law_417 rfl (lv_at hl 1 rfl) ?_
  refine lv_aload_n hx hb dL_law_418 rfl (lv_at hl 0 rfl) ?_
  refine lv_iload_n hx hb dL_law_419 rfl (lv_at hl 3 rfl) ?_
  refine lv_iconst (v := 1) hx hb dL_law_420 (by decide +kernel) ?_
  refine lv_iadd hx hb dL_law_421 ?_
  refine g_top 1 (by decide +kernel) ?_
  refine va_sld hx hb hX hbl hbA hS (vp_in_iff.mpr ⟨by decide +kernel, by decide +kernel⟩) dL_law_422 ?_
  refine g_top x1 ex1.symm ?_
  refine lv_aload_n hx hb dL_law_423 rfl (lv_at hl 0 rfl) ?_
  refine lv_iload_n hx hb dL_law_424 rfl (lv_at hl 3 rfl) ?_
  refine lv_iconst (v := 2) hx hb dL_law_425 (by decide +kernel) ?_
  refine lv_iadd hx hb dL_law_426 ?_
  refine g_top 2 (by decide +kernel) ?_
  refine va_sld hx hb hX hbl hbA hS (vp_in_iff.mpr ⟨by decide +kernel, by decide +kernel⟩) dL_law_427 ?_
  refine g_top x2 ex2.symm ?_
  refine g_ai (D := D) (wc := [(aL, .inr (11, [.ref (qL 0), .ref (qL 1), .null, .null, .null, .null, .null])), ((qL 0), .inr (10, [.int 0, .ref (qW 1), .ref (qW 2), .ref (qW 3), .ref (qW 4), .ref (qW 5)])), ((qW 1), .inr (9, [.int 0, .ref (qT 1), .ref (qT 2), .ref (qT 3), .ref (qT 4), .ref (qT 5), .ref (qT 6), .ref (qT 7), .ref (qT 8)])), ((qT 8), .inl (cI, 24, .inl (fun _ => 0)))]) (wr := [(aM, oM qM 0 0 0 0 0 0 0 0 0 0 0 0 0 0 0 0 0 0), ((qM 12), .inl (cI, 96, .inl (fun _ => 0)))]) hP hD hS hA [0, 1, 2, 3] [4, 5] rfl rfl rfl rfl (by decide) (fun hPc hDc => va_runV (As := [.int x1, .int x2]) (rest := []) hF (c_X11_field (l := l) (D := D) (cI := cI) (cB := cB) (cS := cS) (cZ := cZ) (cW := cW) (aL := aL) (y0 := x1) (y1 := x2) (qL := qL) (qW := qW) (qT := qT)) (cwV 2 hts (gGV GL_sub wm_681 wm_682 wm_683 wm_151 wm_684) rfl rfl rfl (by decide +kernel) ⟨Nat.le_of_ble_eq_true rfl, Nat.le_of_ble_eq_true rfl⟩) (g_preV (q := (RX11, TX11, 7)) (ci := 11) (q0 := 0) hE hPc hDc rfl rfl) rfl rfl hl.1 rfl (lv_room (Nat.le_of_ble_eq_true rfl)) dL_law_428 ⟨Nat.le_of_ble_eq_true rfl, Nat.le_of_ble_eq_true rfl⟩) (fun r1 u2 H locs p3 hP hD hS => ?_)
  have hP : va_P D vwCl [(aM, oM qM 0 0 0 0 0 0 0 0 0 0 0 0 0 0 0 0 0 0), ((qM 12), .inl (cI, 96, .inl (fun _ => 0)))] H := hP
  have hD : va_D A [(aM, oM qM 0 0 0 0 0 0 0 0 0 0 0 0 0 0 0 0 0 0), ((qM 12), .inl (cI, 96, .inl (fun _ => 0)))] := hD
  refine lv_aload_n hx hb dL_law_431 rfl (lv_at hl 2 rfl) ?_
  refine lv_aload_n hx hb dL_law_432 rfl (lv_at hl 0 rfl) ?_
  refine lv_iload_n hx hb dL_law_433 rfl (lv_at hl 3 rfl) ?_
  refine lv_iconst (v := 1) hx hb dL_law_434 (by decide +kernel) ?_
  refine lv_iadd hx hb dL_law_435 ?_
  refine g_top 1 (by decide +kernel) ?_
  refine va_sld hx hb hX hbl hbA hS (vp_in_iff.mpr ⟨by decide +kernel, by decide +kernel⟩) dL_law_436 ?_
  refine g_top x1 ex1.symm ?_
  refine lv_aload_n hx hb dL_law_437 rfl (lv_at hl 0 rfl) ?_
  refine lv_iload_n hx hb dL_law_438 rfl (lv_at hl 3 rfl) ?_
  refine lv_iconst (v := 2) hx hb dL_law_439 (by decide +kernel) ?_
  refine lv_iadd hx hb dL_law_440 ?_
  refine g_top 2 (by decide +kernel) ?_
  refine va_sld hx hb hX hbl hbA hS (vp_in_iff.mpr ⟨by decide +kernel, by decide +kernel⟩) dL_law_441 ?_
  refine g_top x2 ex2.symm ?_
  refine g_ai (D := D) (wc := [(aM, oM qM 0 0 0 0 0 0 0 0 0 0 0 0 0 0 0 0 0 0), ((qM 12), .inl (cI, 96, .inl (fun _ => 0)))]) (wr := []) hP hD hS hA [0, 1] [] rfl rfl rfl rfl (by decide) (fun hPc hDc => va_runV (As := [.int x1, .int x2]) (rest := [.int r1]) hF (c_X12_field (l := l) (D := D) (cI := cI) (cB := cB) (cS := cS) (cZ := cZ) (cW := cW) (aM := aM) (y0 := x1) (y1 := x2) (qM := qM)) (cwV 2 hts (gGV GL_sub wm_685 wm_686 wm_687 wm_550 wm_688) rfl rfl rfl (by decide +kernel) ⟨Nat.le_of_ble_eq_true rfl, Nat.le_of_ble_eq_true rfl⟩) (g_preV (q := (RX12, TX12, 97)) (ci := 12) (q0 := 0) hE hPc hDc rfl rfl) rfl rfl hl.1 rfl (lv_room (Nat.le_of_ble_eq_true rfl)) dL_law_442 ⟨Nat.le_of_ble_eq_true rfl, Nat.le_of_ble_eq_true rfl⟩) (fun r4 u5 H locs p6 hP hD hS => ?_)
  have hP : va_P D vwCl [] H := hP
  have hD : va_D A [] := hD
  refine lv_icmp_eq (tgt := 1880) hx hb dL_law_445 (by decide) (fun _ => ?_) (fun c9 => absurd (p3.trans p6.symm) c9)
  rw [hAe] at hS
  exact law_tail C0 hS (lv_sub hl [0, 3] rfl) (Nat.le_of_ble_eq_true rfl) (Nat.le_of_ble_eq_true rfl)
