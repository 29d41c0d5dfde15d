set_option maxHeartbeats 8000000 in
set_option maxRecDepth 100000 in
theorem c_X12_same {l : Launch} {D : va_G} {cI cB cS cZ cW : ClassId} {aM : Nat} {y0 : Int32} {y1 : Int32} {qM : Nat → Nat}  {sz : Nat} : MI l D (gT cI cB cS cZ cW) yX12_same (wG yX12_same cX12_same 7 (some .int)) { frames := 1, cells := 0, slots := 0, locals := 22 } [.ref aM, .int y0, .int y1] [(aM, oM qM 0 0 0 0 0 0 0 0 0 0 0 0 0 0 0 0 0 0), ((qM 41), .inl (cI, 4, .inl (fun _ => 0)))] sz (fun (r : Int32) (u : Unit) => r = (-1)) (fun (u : Unit) => [] : (Unit) → va_W) 0 0 := by
  refine g_enter (y := yX12_same) (w := (wG yX12_same cX12_same 7 (some .int))) (As := [.ref aM, .int y0, .int y1]) (D := D) (T := gT cI cB cS cZ cW) (ws := [(aM, oM qM 0 0 0 0 0 0 0 0 0 0 0 0 0 0 0 0 0 0), ((qM 41), .inl (cI, 4, .inl (fun _ => 0)))]) (gQi D (fun (r : Int32) (u : Unit) => r = (-1)) (fun (u : Unit) => [] : (Unit) → va_W)) (cc := cX12_same) (maxL := 7) (ret := (some .int)) (by decide) rfl (Nat.le_of_ble_eq_true rfl) ?_
  intro p e s m below meth c A ls hF hr hlocks hname hsz hE hA hP hD hS hl
  have hF : CallFix p m c cX12_same 7 s ([.ref aM, .int y0, .int y1] : List Value).toArray (wG yX12_same cX12_same 7 (some .int)) RX12 := hF
  obtain ⟨hx, hb, hml, hown, hts⟩ := id hF
  have htg : ∀ w ∈ GL, w.before ([.ref aM, .int y0, .int y1] : List Value).toArray s = true := fun w h => hts w (List.mem_cons_of_mem _ h)
  have hl : lv_has ls 7 [(0, .ref aM), (1, .int y0), (2, .int y1)] := hl
  have zm1 := tm_1
  have z0 := t_0
  have z1 := t_1
  refine lv_aload_n hx hb dX12_same_0 rfl (lv_at hl 0 rfl) ?_
  refine lv_iconst (v := 0) hx hb dX12_same_1 (by decide +kernel) ?_
  refine va_put (D := D) (ci := 12) (v := .int 0) (ty := tyX12 0) (C := RX12) (T := TX12) (N := 97) hx hb htg iwG_12 tyX12 tyX12_ok nmX12 hown hE.1 hP hD hS 0 rfl rfl 0 (by decide) (htg _ wm_588) (fun _ h9 => h9) rfl (by decide +kernel) rfl rfl (Nat.le_of_ble_eq_true rfl) dX12_same_2 (fun H locs hP hD hS => ?_)
  have hP : va_P D vwCl [(aM, oM qM 0 0 0 0 0 0 0 0 0 0 0 0 0 0 0 0 0 0), ((qM 41), .inl (cI, 4, .inl (fun _ => 0)))] H := hP
  have hD : va_D A [(aM, oM qM 0 0 0 0 0 0 0 0 0 0 0 0 0 0 0 0 0 0), ((qM 41), .inl (cI, 4, .inl (fun _ => 0)))] := hD
  refine lv_iload_n hx hb dX12_same_5 rfl (lv_at hl 1 rfl) ?_
  refine lv_iconst (v := 0) hx hb dX12_same_6 (by decide +kernel) ?_
  refine lv_aload_n hx hb dX12_same_7 rfl (lv_at hl 0 rfl) ?_
  refine va_get (D := D) (ci := 12) (v := .ref (qM 41)) (C := RX12) (T := TX12) (N := 97) hx hb htg iwG_12 hown hE.1 hP 0 rfl rfl 41 (by decide) (htg _ wm_508) (fun _ h9 => h9) rfl dX12_same_8 ?_
  refine lv_iconst (v := 0) hx hb dX12_same_11 (by decide +kernel) ?_
  refine va_iald hx hb hE.1 hP 1 0 rfl rfl (vp_in_iff.mpr ⟨by decide +kernel, by decide +kernel⟩) dX12_same_12 ?_
  refine g_top 0 rfl ?_
  refine lv_iconst (v := 1) hx hb dX12_same_13 (by decide +kernel) ?_
  refine lv_isub hx hb dX12_same_14 ?_
  refine g_top (-1) (by decide +kernel) ?_
  refine g_ai (D := D) (wc := []) (wr := [(aM, oM qM 0 0 0 0 0 0 0 0 0 0 0 0 0 0 0 0 0 0), ((qM 41), .inl (cI, 4, .inl (fun _ => 0)))]) hP hD hS hA [] [0, 1] rfl rfl rfl rfl (by decide) (fun hPc hDc => va_runS (As := [.int y0, .int 0, .int (-1)]) (rest := []) hF (c_X12_in (l := l) (D := D) (cI := cI) (cB := cB) (cS := cS) (cZ := cZ) (cW := cW) (y0 := y0) (y1 := 0) (y2 := (-1))) (va_cwS 3 hts (gGS (fun _ h => List.mem_cons_of_mem _ h) wm_548 wm_549 wm_550 wm_551) rfl rfl rfl (by decide +kernel) ⟨Nat.le_of_ble_eq_true rfl, Nat.le_of_ble_eq_true rfl⟩) (g_preS hE hPc hDc) rfl rfl hl.1 rfl (lv_room (Nat.le_of_ble_eq_true rfl)) dX12_same_15 ⟨Nat.le_of_ble_eq_true rfl, Nat.le_of_ble_eq_true rfl⟩) (fun r1 u2 H locs p3 hP hD hS => ?_)
  have hP : va_P D vwCl [(aM, oM qM 0 0 0 0 0 0 0 0 0 0 0 0 0 0 0 0 0 0), ((qM 41), .inl (cI, 4, .inl (fun _ => 0)))] H := hP
  have hD : va_D A [(aM, oM qM 0 0 0 0 0 0 0 0 0 0 0 0 0 0 0 0 0 0), ((qM 41), .inl (cI, 4, .inl (fun _ => 0)))] := hD
  rcases p3 with ⟨rfl, p3a⟩ | ⟨rfl, p3a⟩
  · exfalso; omega
  · skip
    refine lv_if_eq (tgt := 42) hx hb dX12_same_18 (by decide) (fun _ => ?_) (fun c9 => absurd c9 (by decide +kernel))
    refine lv_iconst (v := (-1)) hx hb dX12_same_42 (by decide +kernel) ?_
    exact g_iret () hF hr rfl hlocks (hP.sub [] rfl) (hD.sub [] rfl rfl) hS rfl dX12_same_43 (Nat.le_of_ble_eq_true rfl) (Nat.le_of_ble_eq_true rfl)
set_option maxHeartbeats 8000000 in
set_option maxRecDepth 100000 in
theorem c_X12_find {l : Launch} {D : va_G} {cI cB cS cZ cW : ClassId} {aM : Nat} {y0 : Int32} {y1 : Int32} {qM : Nat → Nat}  {sz : Nat} : MI l D (gT cI cB cS cZ cW) yX12_find (wG yX12_find cX12_find 3 (some .int)) { frames := 3, cells := 0, slots := 0, locals := 64 } [.ref aM, .int y0, .int y1] [(aM, oM qM 0 0 0 0 0 0 0 0 0 0 0 0 0 0 0 0 0 0), ((qM 6), .inl (cI, 4, .inl (fun _ => 0)))] sz (fun (r : Int32) (u : Unit) => r = (-1)) (fun (u : Unit) => [] : (Unit) → va_W) 0 0 := by
  refine g_enter (y := yX12_find) (w := (wG yX12_find cX12_find 3 (some .int))) (As := [.ref aM, .int y0, .int y1]) (D := D) (T := gT cI cB cS cZ cW) (ws := [(aM, oM qM 0 0 0 0 0 0 0 0 0 0 0 0 0 0 0 0 0 0), ((qM 6), .inl (cI, 4, .inl (fun _ => 0)))]) (gQi D (fun (r : Int32) (u : Unit) => r = (-1)) (fun (u : Unit) => [] : (Unit) → va_W)) (cc := cX12_find) (maxL := 3) (ret := (some .int)) (by decide) rfl (Nat.le_of_ble_eq_true rfl) ?_
  intro p e s m below meth c A ls hF hr hlocks hname hsz hE hA hP hD hS hl
  have hF : CallFix p m c cX12_find 3 s ([.ref aM, .int y0, .int y1] : List Value).toArray (wG yX12_find cX12_find 3 (some .int)) RX12 := hF
  obtain ⟨hx, hb, hml, hown, hts⟩ := id hF
  have htg : ∀ w ∈ GL, w.before ([.ref aM, .int y0, .int y1] : List Value).toArray s = true := fun w h => hts w (List.mem_cons_of_mem _ h)
  have hl : lv_has ls 3 [(0, .ref aM), (1, .int y0), (2, .int y1)] := hl
  have zm1 := tm_1
  have z0 := t_0
  refine lv_aload_n hx hb dX12_find_0 rfl (lv_at hl 0 rfl) ?_
  refine lv_iconst (v := 0) hx hb dX12_find_1 (by decide +kernel) ?_
  refine va_put (D := D) (ci := 12) (v := .int 0) (ty := tyX12 0) (C := RX12) (T := TX12) (N := 97) hx hb htg iwG_12 tyX12 tyX12_ok nmX12 hown hE.1 hP hD hS 0 rfl rfl 0 (by decide) (htg _ wm_588) (fun _ h9 => h9) rfl (by decide +kernel) rfl rfl (Nat.le_of_ble_eq_true rfl) dX12_find_2 (fun H locs hP hD hS => ?_)
  have hP : va_P D vwCl [(aM, oM qM 0 0 0 0 0 0 0 0 0 0 0 0 0 0 0 0 0 0), ((qM 6), .inl (cI, 4, .inl (fun _ => 0)))] H := hP
  have hD : va_D A [(aM, oM qM 0 0 0 0 0 0 0 0 0 0 0 0 0 0 0 0 0 0), ((qM 6), .inl (cI, 4, .inl (fun _ => 0)))] := hD
  refine lv_aload_n hx hb dX12_find_5 rfl (lv_at hl 0 rfl) ?_
  refine lv_iload_n hx hb dX12_find_6 rfl (lv_at hl 1 rfl) ?_
  refine g_ai (D := D) (wc := [(aM, oM qM 0 0 0 0 0 0 0 0 0 0 0 0 0 0 0 0 0 0), ((qM 6), .inl (cI, 4, .inl (fun _ => 0)))]) (wr := []) hP hD hS hA [0, 1] [] rfl rfl rfl rfl (by decide) (fun hPc hDc => va_runV (As := [.int y0]) (rest := []) hF (c_X12_isBorn (l := l) (D := D) (cI := cI) (cB := cB) (cS := cS) (cZ := cZ) (cW := cW) (aM := aM) (y0 := y0) (qM := qM)) (cwV 1 hts (gGV (fun _ h => List.mem_cons_of_mem _ h) wm_625 wm_626 wm_627 wm_550 wm_628) rfl rfl rfl (by decide +kernel) ⟨Nat.le_of_ble_eq_true rfl, Nat.le_of_ble_eq_true rfl⟩) (g_preV (q := (RX12, TX12, 97)) (ci := 12) (q0 := 0) hE hPc hDc rfl rfl) rfl rfl hl.1 rfl (lv_room (Nat.le_of_ble_eq_true rfl)) dX12_find_7 ⟨Nat.le_of_ble_eq_true rfl, Nat.le_of_ble_eq_true rfl⟩) (fun r1 u2 H locs p3 hP hD hS => ?_)
  have hP : va_P D vwCl [(aM, oM qM 0 0 0 0 0 0 0 0 0 0 0 0 0 0 0 0 0 0), ((qM 6), .inl (cI, 4, .inl (fun _ => 0)))] H := hP
  have hD : va_D A [(aM, oM qM 0 0 0 0 0 0 0 0 0 0 0 0 0 0 0 0 0 0), ((qM 6), .inl (cI, 4, .inl (fun _ => 0)))] := hD
  obtain rfl := p3
  refine lv_if_eq (tgt := 22) hx hb dX12_find_10 (by decide) (fun _ => ?_) (fun c9 => absurd c9 (by decide +kernel))
  refine lv_iconst (v := (-1)) hx hb dX12_find_22 (by decide +kernel) ?_
  exact g_iret () hF hr rfl hlocks (hP.sub [] rfl) (hD.sub [] rfl rfl) hS rfl dX12_find_23 (Nat.le_of_ble_eq_true rfl) (Nat.le_of_ble_eq_true rfl)
set_option maxHeartbeats 8000000 in
set_option maxRecDepth 100000 in
theorem c_X12_reading {l : Launch} {D : va_G} {cI cB cS cZ cW : ClassId} {aM : Nat} {y0 : Int32} {y1 : Int32} {qM : Nat → Nat}  {sz : Nat} : MI l D (gT cI cB cS cZ cW) yX12_reading (wG yX12_reading cX12_reading 3 (some .int)) { frames := 3, cells := 0, slots := 0, locals := 64 } [.ref aM, .int y0, .int y1] [(aM, oM qM 0 0 0 0 0 0 0 0 0 0 0 0 0 0 0 0 0 0), ((qM 6), .inl (cI, 4, .inl (fun _ => 0)))] sz (fun (r : Int32) (u : Unit) => r = (-1)) (fun (u : Unit) => [] : (Unit) → va_W) 0 0 := by
  refine g_enter (y := yX12_reading) (w := (wG yX12_reading cX12_reading 3 (some .int))) (As := [.ref aM, .int y0, .int y1]) (D := D) (T := gT cI cB cS cZ cW) (ws := [(aM, oM qM 0 0 0 0 0 0 0 0 0 0 0 0 0 0 0 0 0 0), ((qM 6), .inl (cI, 4, .inl (fun _ => 0)))]) (gQi D (fun (r : Int32) (u : Unit) => r = (-1)) (fun (u : Unit) => [] : (Unit) → va_W)) (cc := cX12_reading) (maxL := 3) (ret := (some .int)) (by decide) rfl (Nat.le_of_ble_eq_true rfl) ?_
  intro p e s m below meth c A ls hF hr hlocks hname hsz hE hA hP hD hS hl
  have hF : CallFix p m c cX12_reading 3 s ([.ref aM, .int y0, .int y1] : List Value).toArray (wG yX12_reading cX12_reading 3 (some .int)) RX12 := hF
  obtain ⟨hx, hb, hml, hown, hts⟩ := id hF
  have htg : ∀ w ∈ GL, w.before ([.ref aM, .int y0, .int y1] : List Value).toArray s = true := fun w h => hts w (List.mem_cons_of_mem _ h)
  have hl : lv_has ls 3 [(0, .ref aM), (1, .int y0), (2, .int y1)] := hl
  have zm1 := tm_1
  have z0 := t_0
  refine lv_aload_n hx hb dX12_reading_0 rfl (lv_at hl 0 rfl) ?_
  refine lv_iconst (v := 0) hx hb dX12_reading_1 (by decide +kernel) ?_
  refine va_put (D := D) (ci := 12) (v := .int 0) (ty := tyX12 0) (C := RX12) (T := TX12) (N := 97) hx hb htg iwG_12 tyX12 tyX12_ok nmX12 hown hE.1 hP hD hS 0 rfl rfl 0 (by decide) (htg _ wm_588) (fun _ h9 => h9) rfl (by decide +kernel) rfl rfl (Nat.le_of_ble_eq_true rfl) dX12_reading_2 (fun H locs hP hD hS => ?_)
  have hP : va_P D vwCl [(aM, oM qM 0 0 0 0 0 0 0 0 0 0 0 0 0 0 0 0 0 0), ((qM 6), .inl (cI, 4, .inl (fun _ => 0)))] H := hP
  have hD : va_D A [(aM, oM qM 0 0 0 0 0 0 0 0 0 0 0 0 0 0 0 0 0 0), ((qM 6), .inl (cI, 4, .inl (fun _ => 0)))] := hD
  refine lv_aload_n hx hb dX12_reading_5 rfl (lv_at hl 0 rfl) ?_
  refine lv_iload_n hx hb dX12_reading_6 rfl (lv_at hl 1 rfl) ?_
  refine g_ai (D := D) (wc := [(aM, oM qM 0 0 0 0 0 0 0 0 0 0 0 0 0 0 0 0 0 0), ((qM 6), .inl (cI, 4, .inl (fun _ => 0)))]) (wr := []) hP hD hS hA [0, 1] [] rfl rfl rfl rfl (by decide) (fun hPc hDc => va_runV (As := [.int y0]) (rest := []) hF (c_X12_isBorn (l := l) (D := D) (cI := cI) (cB := cB) (cS := cS) (cZ := cZ) (cW := cW) (aM := aM) (y0 := y0) (qM := qM)) (cwV 1 hts (gGV (fun _ h => List.mem_cons_of_mem _ h) wm_625 wm_626 wm_627 wm_550 wm_628) rfl rfl rfl (by decide +kernel) ⟨Nat.le_of_ble_eq_true rfl, Nat.le_of_ble_eq_true rfl⟩) (g_preV (q := (RX12, TX12, 97)) (ci := 12) (q0 := 0) hE hPc hDc rfl rfl) rfl rfl hl.1 rfl (lv_room (Nat.le_of_ble_eq_true rfl)) dX12_reading_7 ⟨Nat.le_of_ble_eq_true rfl, Nat.le_of_ble_eq_true rfl⟩) (fun r1 u2 H locs p3 hP hD hS => ?_)
  have hP : va_P D vwCl [(aM, oM qM 0 0 0 0 0 0 0 0 0 0 0 0 0 0 0 0 0 0), ((qM 6), .inl (cI, 4, .inl (fun _ => 0)))] H := hP
  have hD : va_D A [(aM, oM qM 0 0 0 0 0 0 0 0 0 0 0 0 0 0 0 0 0 0), ((qM 6), .inl (cI, 4, .inl (fun _ => 0)))] := hD
  obtain rfl := p3
  refine lv_if_ne (tgt := 15) hx hb dX12_reading_10 (by decide) (fun c9 => absurd c9 (by decide +kernel)) (fun _ => ?_)
  refine lv_iconst (v := (-1)) hx hb dX12_reading_13 (by decide +kernel) ?_
  exact g_iret () hF hr rfl hlocks (hP.sub [] rfl) (hD.sub [] rfl rfl) hS rfl dX12_reading_14 (Nat.le_of_ble_eq_true rfl) (Nat.le_of_ble_eq_true rfl)
set_option maxHeartbeats 8000000 in
set_option maxRecDepth 100000 in
theorem c_X12_next {l : Launch} {D : va_G} {cI cB cS cZ cW : ClassId} {aM : Nat} {y0 : Int32} {y1 : Int32} {qM : Nat → Nat}  {sz : Nat} : MI l D (gT cI cB cS cZ cW) yX12_next (wG yX12_next cX12_next 8 (some .int)) { frames := 3, cells := 0, slots := 0, locals := 64 } [.ref aM, .int y0, .int y1] [(aM, oM qM 0 0 0 0 0 0 0 0 0 0 0 0 0 0 0 0 0 0), ((qM 6), .inl (cI, 4, .inl (fun _ => 0)))] sz (fun (r : Int32) (u : Unit) => r = (-1)) (fun (u : Unit) => [] : (Unit) → va_W) 0 0 := by
  refine g_enter (y := yX12_next) (w := (wG yX12_next cX12_next 8 (some .int))) (As := [.ref aM, .int y0, .int y1]) (D := D) (T := gT cI cB cS cZ cW) (ws := [(aM, oM qM 0 0 0 0 0 0 0 0 0 0 0 0 0 0 0 0 0 0), ((qM 6), .inl (cI, 4, .inl (fun _ => 0)))]) (gQi D (fun (r : Int32) (u : Unit) => r = (-1)) (fun (u : Unit) => [] : (Unit) → va_W)) (cc := cX12_next) (maxL := 8) (ret := (some .int)) (by decide) rfl (Nat.le_of_ble_eq_true rfl) ?_
  intro p e s m below meth c A ls hF hr hlocks hname hsz hE hA hP hD hS hl
  have hF : CallFix p m c cX12_next 8 s ([.ref aM, .int y0, .int y1] : List Value).toArray (wG yX12_next cX12_next 8 (some .int)) RX12 := hF
  obtain ⟨hx, hb, hml, hown, hts⟩ := id hF
  have htg : ∀ w ∈ GL, w.before ([.ref aM, .int y0, .int y1] : List Value).toArray s = true := fun w h => hts w (List.mem_cons_of_mem _ h)
  have hl : lv_has ls 8 [(0, .ref aM), (1, .int y0), (2, .int y1)] := hl
  have zm1 := tm_1
  have z0 := t_0
  refine lv_aload_n hx hb dX12_next_0 rfl (lv_at hl 0 rfl) ?_
  refine lv_iconst (v := 0) hx hb dX12_next_1 (by decide +kernel) ?_
  refine va_put (D := D) (ci := 12) (v := .int 0) (ty := tyX12 0) (C := RX12) (T := TX12) (N := 97) hx hb htg iwG_12 tyX12 tyX12_ok nmX12 hown hE.1 hP hD hS 0 rfl rfl 0 (by decide) (htg _ wm_588) (fun _ h9 => h9) rfl (by decide +kernel) rfl rfl (Nat.le_of_ble_eq_true rfl) dX12_next_2 (fun H locs hP hD hS => ?_)
  have hP : va_P D vwCl [(aM, oM qM 0 0 0 0 0 0 0 0 0 0 0 0 0 0 0 0 0 0), ((qM 6), .inl (cI, 4, .inl (fun _ => 0)))] H := hP
  have hD : va_D A [(aM, oM qM 0 0 0 0 0 0 0 0 0 0 0 0 0 0 0 0 0 0), ((qM 6), .inl (cI, 4, .inl (fun _ => 0)))] := hD
  refine lv_aload_n hx hb dX12_next_5 rfl (lv_at hl 0 rfl) ?_
  refine lv_iload_n hx hb dX12_next_6 rfl (lv_at hl 1 rfl) ?_
  refine g_ai (D := D) (wc := [(aM, oM qM 0 0 0 0 0 0 0 0 0 0 0 0 0 0 0 0 0 0), ((qM 6), .inl (cI, 4, .inl (fun _ => 0)))]) (wr := []) hP hD hS hA [0, 1] [] rfl rfl rfl rfl (by decide) (fun hPc hDc => va_runV (As := [.int y0]) (rest := []) hF (c_X12_isBorn (l := l) (D := D) (cI := cI) (cB := cB) (cS := cS) (cZ := cZ) (cW := cW) (aM := aM) (y0 := y0) (qM := qM)) (cwV 1 hts (gGV (fun _ h => List.mem_cons_of_mem _ h) wm_625 wm_626 wm_627 wm_550 wm_628) rfl rfl rfl (by decide +kernel) ⟨Nat.le_of_ble_eq_true rfl, Nat.le_of_ble_eq_true rfl⟩) (g_preV (q := (RX12, TX12, 97)) (ci := 12) (q0 := 0) hE hPc hDc rfl rfl) rfl rfl hl.1 rfl (lv_room (Nat.le_of_ble_eq_true rfl)) dX12_next_7 ⟨Nat.le_of_ble_eq_true rfl, Nat.le_of_ble_eq_true rfl⟩) (fun r1 u2 H locs p3 hP hD hS => ?_)
  have hP : va_P D vwCl [(aM, oM qM 0 0 0 0 0 0 0 0 0 0 0 0 0 0 0 0 0 0), ((qM 6), .inl (cI, 4, .inl (fun _ => 0)))] H := hP
  have hD : va_D A [(aM, oM qM 0 0 0 0 0 0 0 0 0 0 0 0 0 0 0 0 0 0), ((qM 6), .inl (cI, 4, .inl (fun _ => 0)))] := hD
  obtain rfl := p3
  refine lv_if_eq (tgt := 22) hx hb dX12_next_10 (by decide) (fun _ => ?_) (fun c9 => absurd c9 (by decide +kernel))
  refine lv_iconst (v := (-1)) hx hb dX12_next_22 (by decide +kernel) ?_
  exact g_iret () hF hr rfl hlocks (hP.sub [] rfl) (hD.sub [] rfl rfl) hS rfl dX12_next_23 (Nat.le_of_ble_eq_true rfl) (Nat.le_of_ble_eq_true rfl)
set_option maxHeartbeats 8000000 in
set_option maxRecDepth 100000 in
theorem c_X12_visits {l : Launch} {D : va_G} {cI cB cS cZ cW : ClassId} {aM : Nat} {y0 : Int32} {y1 : Int32} {y2 : Int32} {qM : Nat → Nat}  {sz : Nat} : MI l D (gT cI cB cS cZ cW) yX12_visits (wG yX12_visits cX12_visits 6 (some .int)) { frames := 4, cells := 0, slots := 0, locals := 86 } [.ref aM, .int y0, .int y1, .int y2] [(aM, oM qM 0 0 0 0 0 0 0 0 0 0 0 0 0 0 0 0 0 0), ((qM 14), .inl (cI, 4, .inl (fun _ => 0)))] sz (fun (r : Int32) (u : Unit) => r = (-1)) (fun (u : Unit) => [] : (Unit) → va_W) 0 0 := by
  refine g_enter (y := yX12_visits) (w := (wG yX12_visits cX12_visits 6 (some .int))) (As := [.ref aM, .int y0, .int y1, .int y2]) (D := D) (T := gT cI cB cS cZ cW) (ws := [(aM, oM qM 0 0 0 0 0 0 0 0 0 0 0 0 0 0 0 0 0 0), ((qM 14), .inl (cI, 4, .inl (fun _ => 0)))]) (gQi D (fun (r : Int32) (u : Unit) => r = (-1)) (fun (u : Unit) => [] : (Unit) → va_W)) (cc := cX12_visits) (maxL := 6) (ret := (some .int)) (by decide) rfl (Nat.le_of_ble_eq_true rfl) ?_
  intro p e s m below meth c A ls hF hr hlocks hname hsz hE hA hP hD hS hl
  have hF : CallFix p m c cX12_visits 6 s ([.ref aM, .int y0, .int y1, .int y2] : List Value).toArray (wG yX12_visits cX12_visits 6 (some .int)) RX12 := hF
  obtain ⟨hx, hb, hml, hown, hts⟩ := id hF
  have htg : ∀ w ∈ GL, w.before ([.ref aM, .int y0, .int y1, .int y2] : List Value).toArray s = true := fun w h => hts w (List.mem_cons_of_mem _ h)
  have hl : lv_has ls 6 [(0, .ref aM), (1, .int y0), (2, .int y1), (3, .int y2)] := hl
  have zm1 := tm_1
  have z0 := t_0
  refine lv_aload_n hx hb dX12_visits_0 rfl (lv_at hl 0 rfl) ?_
  refine lv_iconst (v := 0) hx hb dX12_visits_1 (by decide +kernel) ?_
  refine va_put (D := D) (ci := 12) (v := .int 0) (ty := tyX12 0) (C := RX12) (T := TX12) (N := 97) hx hb htg iwG_12 tyX12 tyX12_ok nmX12 hown hE.1 hP hD hS 0 rfl rfl 0 (by decide) (htg _ wm_588) (fun _ h9 => h9) rfl (by decide +kernel) rfl rfl (Nat.le_of_ble_eq_true rfl) dX12_visits_2 (fun H locs hP hD hS => ?_)
  have hP : va_P D vwCl [(aM, oM qM 0 0 0 0 0 0 0 0 0 0 0 0 0 0 0 0 0 0), ((qM 14), .inl (cI, 4, .inl (fun _ => 0)))] H := hP
  have hD : va_D A [(aM, oM qM 0 0 0 0 0 0 0 0 0 0 0 0 0 0 0 0 0 0), ((qM 14), .inl (cI, 4, .inl (fun _ => 0)))] := hD
  refine lv_aload_n hx hb dX12_visits_5 rfl (lv_at hl 0 rfl) ?_
  refine lv_iload_n hx hb dX12_visits_6 rfl (lv_at hl 1 rfl) ?_
  refine lv_iload_n hx hb dX12_visits_7 rfl (lv_at hl 2 rfl) ?_
  refine g_ai (D := D) (wc := [(aM, oM qM 0 0 0 0 0 0 0 0 0 0 0 0 0 0 0 0 0 0), ((qM 14), .inl (cI, 4, .inl (fun _ => 0)))]) (wr := []) hP hD hS hA [0, 1] [] rfl rfl rfl rfl (by decide) (fun hPc hDc => va_runV (As := [.int y0, .int y1]) (rest := []) hF (c_X12_canVisit (l := l) (D := D) (cI := cI) (cB := cB) (cS := cS) (cZ := cZ) (cW := cW) (aM := aM) (y0 := y0) (y1 := y1) (qM := qM)) (cwV 2 hts (gGV (fun _ h => List.mem_cons_of_mem _ h) wm_629 wm_630 wm_631 wm_550 wm_632) rfl rfl rfl (by decide +kernel) ⟨Nat.le_of_ble_eq_true rfl, Nat.le_of_ble_eq_true rfl⟩) (g_preV (q := (RX12, TX12, 97)) (ci := 12) (q0 := 0) hE hPc hDc rfl rfl) rfl rfl hl.1 rfl (lv_room (Nat.le_of_ble_eq_true rfl)) dX12_visits_8 ⟨Nat.le_of_ble_eq_true rfl, Nat.le_of_ble_eq_true rfl⟩) (fun r1 u2 H locs p3 hP hD hS => ?_)
  have hP : va_P D vwCl [(aM, oM qM 0 0 0 0 0 0 0 0 0 0 0 0 0 0 0 0 0 0), ((qM 14), .inl (cI, 4, .inl (fun _ => 0)))] H := hP
  have hD : va_D A [(aM, oM qM 0 0 0 0 0 0 0 0 0 0 0 0 0 0 0 0 0 0), ((qM 14), .inl (cI, 4, .inl (fun _ => 0)))] := hD
  obtain rfl := p3
  refine lv_if_eq (tgt := 23) hx hb dX12_visits_11 (by decide) (fun _ => ?_) (fun c9 => absurd c9 (by decide +kernel))
  refine lv_iconst (v := (-1)) hx hb dX12_visits_23 (by decide +kernel) ?_
  exact g_iret () hF hr rfl hlocks (hP.sub [] rfl) (hD.sub [] rfl rfl) hS rfl dX12_visits_24 (Nat.le_of_ble_eq_true rfl) (Nat.le_of_ble_eq_true rfl)
set_option maxHeartbeats 8000000 in
set_option maxRecDepth 100000 in
theorem c_X12_visited {l : Launch} {D : va_G} {cI cB cS cZ cW : ClassId} {aM : Nat} {y0 : Int32} {y1 : Int32} {y2 : Int32} {qM : Nat → Nat}  {sz : Nat} : MI l D (gT cI cB cS cZ cW) yX12_visited (wG yX12_visited cX12_visited 8 (some .int)) { frames := 4, cells := 0, slots := 0, locals := 86 } [.ref aM, .int y0, .int y1, .int y2] [(aM, oM qM 0 0 0 0 0 0 0 0 0 0 0 0 0 0 0 0 0 0), ((qM 14), .inl (cI, 4, .inl (fun _ => 0)))] sz (fun (r : Int32) (u : Unit) => r = (-1)) (fun (u : Unit) => [] : (Unit) → va_W) 0 0 := by
  refine g_enter (y := yX12_visited) (w := (wG yX12_visited cX12_visited 8 (some .int))) (As := [.ref aM, .int y0, .int y1, .int y2]) (D := D) (T := gT cI cB cS cZ cW) (ws := [(aM, oM qM 0 0 0 0 0 0 0 0 0 0 0 0 0 0 0 0 0 0), ((qM 14), .inl (cI, 4, .inl (fun _ => 0)))]) (gQi D (fun (r : Int32) (u : Unit) => r = (-1)) (fun (u : Unit) => [] : (Unit) → va_W)) (cc := cX12_visited) (maxL := 8) (ret := (some .int)) (by decide) rfl (Nat.le_of_ble_eq_true rfl) ?_
  intro p e s m below meth c A ls hF hr hlocks hname hsz hE hA hP hD hS hl
  have hF : CallFix p m c cX12_visited 8 s ([.ref aM, .int y0, .int y1, .int y2] : List Value).toArray (wG yX12_visited cX12_visited 8 (some .int)) RX12 := hF
  obtain ⟨hx, hb, hml, hown, hts⟩ := id hF
  have htg : ∀ w ∈ GL, w.before ([.ref aM, .int y0, .int y1, .int y2] : List Value).toArray s = true := fun w h => hts w (List.mem_cons_of_mem _ h)
  have hl : lv_has ls 8 [(0, .ref aM), (1, .int y0), (2, .int y1), (3, .int y2)] := hl
  have zm1 := tm_1
  have z0 := t_0
  refine lv_aload_n hx hb dX12_visited_0 rfl (lv_at hl 0 rfl) ?_
  refine lv_iconst (v := 0) hx hb dX12_visited_1 (by decide +kernel) ?_
  refine va_put (D := D) (ci := 12) (v := .int 0) (ty := tyX12 0) (C := RX12) (T := TX12) (N := 97) hx hb htg iwG_12 tyX12 tyX12_ok nmX12 hown hE.1 hP hD hS 0 rfl rfl 0 (by decide) (htg _ wm_588) (fun _ h9 => h9) rfl (by decide +kernel) rfl rfl (Nat.le_of_ble_eq_true rfl) dX12_visited_2 (fun H locs hP hD hS => ?_)
  have hP : va_P D vwCl [(aM, oM qM 0 0 0 0 0 0 0 0 0 0 0 0 0 0 0 0 0 0), ((qM 14), .inl (cI, 4, .inl (fun _ => 0)))] H := hP
  have hD : va_D A [(aM, oM qM 0 0 0 0 0 0 0 0 0 0 0 0 0 0 0 0 0 0), ((qM 14), .inl (cI, 4, .inl (fun _ => 0)))] := hD
  refine lv_aload_n hx hb dX12_visited_5 rfl (lv_at hl 0 rfl) ?_
  refine lv_iload_n hx hb dX12_visited_6 rfl (lv_at hl 1 rfl) ?_
  refine lv_iload_n hx hb dX12_visited_7 rfl (lv_at hl 2 rfl) ?_
  refine g_ai (D := D) (wc := [(aM, oM qM 0 0 0 0 0 0 0 0 0 0 0 0 0 0 0 0 0 0), ((qM 14), .inl (cI, 4, .inl (fun _ => 0)))]) (wr := []) hP hD hS hA [0, 1] [] rfl rfl rfl rfl (by decide) (fun hPc hDc => va_runV (As := [.int y0, .int y1]) (rest := []) hF (c_X12_canVisit (l := l) (D := D) (cI := cI) (cB := cB) (cS := cS) (cZ := cZ) (cW := cW) (aM := aM) (y0 := y0) (y1 := y1) (qM := qM)) (cwV 2 hts (gGV (fun _ h => List.mem_cons_of_mem _ h) wm_629 wm_630 wm_631 wm_550 wm_632) rfl rfl rfl (by decide +kernel) ⟨Nat.le_of_ble_eq_true rfl, Nat.le_of_ble_eq_true rfl⟩) (g_preV (q := (RX12, TX12, 97)) (ci := 12) (q0 := 0) hE hPc hDc rfl rfl) rfl rfl hl.1 rfl (lv_room (Nat.le_of_ble_eq_true rfl)) dX12_visited_8 ⟨Nat.le_of_ble_eq_true rfl, Nat.le_of_ble_eq_true rfl⟩) (fun r1 u2 H locs p3 hP hD hS => ?_)
  have hP : va_P D vwCl [(aM, oM qM 0 0 0 0 0 0 0 0 0 0 0 0 0 0 0 0 0 0), ((qM 14), .inl (cI, 4, .inl (fun _ => 0)))] H := hP
  have hD : va_D A [(aM, oM qM 0 0 0 0 0 0 0 0 0 0 0 0 0 0 0 0 0 0), ((qM 14), .inl (cI, 4, .inl (fun _ => 0)))] := hD
  obtain rfl := p3
  refine lv_if_ne (tgt := 16) hx hb dX12_visited_11 (by decide) (fun c9 => absurd c9 (by decide +kernel)) (fun _ => ?_)
  refine lv_iconst (v := (-1)) hx hb dX12_visited_14 (by decide +kernel) ?_
  exact g_iret () hF hr rfl hlocks (hP.sub [] rfl) (hD.sub [] rfl rfl) hS rfl dX12_visited_15 (Nat.le_of_ble_eq_true rfl) (Nat.le_of_ble_eq_true rfl)
set_option maxHeartbeats 8000000 in
set_option maxRecDepth 100000 in
theorem c_X12_copies {l : Launch} {D : va_G} {cI cB cS cZ cW : ClassId} {aM : Nat} {y0 : Int32} {qM : Nat → Nat}  {sz : Nat} : MI l D (gT cI cB cS cZ cW) yX12_copies (wG yX12_copies cX12_copies 13 (some .int)) { frames := 1, cells := 0, slots := 0, locals := 22 } [.ref aM, .int y0] [(aM, oM qM 0 0 0 0 0 0 0 0 0 0 0 0 0 0 0 0 0 0), ((qM 38), .inl (cI, 4, .inl (fun _ => 0)))] sz (fun (r : Int32) (u : Unit) => r = S_copies y0) (fun (u : Unit) => [] : (Unit) → va_W) 0 0 := by
  refine g_enter (y := yX12_copies) (w := (wG yX12_copies cX12_copies 13 (some .int))) (As := [.ref aM, .int y0]) (D := D) (T := gT cI cB cS cZ cW) (ws := [(aM, oM qM 0 0 0 0 0 0 0 0 0 0 0 0 0 0 0 0 0 0), ((qM 38), .inl (cI, 4, .inl (fun _ => 0)))]) (gQi D (fun (r : Int32) (u : Unit) => r = S_copies y0) (fun (u : Unit) => [] : (Unit) → va_W)) (cc := cX12_copies) (maxL := 13) (ret := (some .int)) (by decide) rfl (Nat.le_of_ble_eq_true rfl) ?_
  intro p e s m below meth c A ls hF hr hlocks hname hsz hE hA hP hD hS hl
  have hF : CallFix p m c cX12_copies 13 s ([.ref aM, .int y0] : List Value).toArray (wG yX12_copies cX12_copies 13 (some .int)) RX12 := hF
  obtain ⟨hx, hb, hml, hown, hts⟩ := id hF
  have htg : ∀ w ∈ GL, w.before ([.ref aM, .int y0] : List Value).toArray s = true := fun w h => hts w (List.mem_cons_of_mem _ h)
  have hl : lv_has ls 13 [(0, .ref aM), (1, .int y0)] := hl
  have zm1 := tm_1
  have z0 := t_0
  have z1 := t_1
  have z2 := t_2
  refine lv_aload_n hx hb dX12_copies_0 rfl (lv_at hl 0 rfl) ?_
  refine lv_iconst (v := 0) hx hb dX12_copies_1 (by decide +kernel) ?_
  refine va_put (D := D) (ci := 12) (v := .int 0) (ty := tyX12 0) (C := RX12) (T := TX12) (N := 97) hx hb htg iwG_12 tyX12 tyX12_ok nmX12 hown hE.1 hP hD hS 0 rfl rfl 0 (by decide) (htg _ wm_588) (fun _ h9 => h9) rfl (by decide +kernel) rfl rfl (Nat.le_of_ble_eq_true rfl) dX12_copies_2 (fun H locs hP hD hS => ?_)
  have hP : va_P D vwCl [(aM, oM qM 0 0 0 0 0 0 0 0 0 0 0 0 0 0 0 0 0 0), ((qM 38), .inl (cI, 4, .inl (fun _ => 0)))] H := hP
  have hD : va_D A [(aM, oM qM 0 0 0 0 0 0 0 0 0 0 0 0 0 0 0 0 0 0), ((qM 38), .inl (cI, 4, .inl (fun _ => 0)))] := hD
  refine lv_iload_n hx hb dX12_copies_5 rfl (lv_at hl 1 rfl) ?_
  refine lv_iconst (v := 0) hx hb dX12_copies_6 (by decide +kernel) ?_
  refine lv_iconst (v := 2) hx hb dX12_copies_7 (by decide +kernel) ?_
  refine g_ai (D := D) (wc := []) (wr := [(aM, oM qM 0 0 0 0 0 0 0 0 0 0 0 0 0 0 0 0 0 0), ((qM 38), .inl (cI, 4, .inl (fun _ => 0)))]) hP hD hS hA [] [0, 1] rfl rfl rfl rfl (by decide) (fun hPc hDc => va_runS (As := [.int y0, .int 0, .int 2]) (rest := []) hF (c_X12_in (l := l) (D := D) (cI := cI) (cB := cB) (cS := cS) (cZ := cZ) (cW := cW) (y0 := y0) (y1 := 0) (y2 := 2)) (va_cwS 3 hts (gGS (fun _ h => List.mem_cons_of_mem _ h) wm_548 wm_549 wm_550 wm_551) rfl rfl rfl (by decide +kernel) ⟨Nat.le_of_ble_eq_true rfl, Nat.le_of_ble_eq_true rfl⟩) (g_preS hE hPc hDc) rfl rfl hl.1 rfl (lv_room (Nat.le_of_ble_eq_true rfl)) dX12_copies_8 ⟨Nat.le_of_ble_eq_true rfl, Nat.le_of_ble_eq_true rfl⟩) (fun r1 u2 H locs p3 hP hD hS => ?_)
  have hP : va_P D vwCl [(aM, oM qM 0 0 0 0 0 0 0 0 0 0 0 0 0 0 0 0 0 0), ((qM 38), .inl (cI, 4, .inl (fun _ => 0)))] H := hP
  have hD : va_D A [(aM, oM qM 0 0 0 0 0 0 0 0 0 0 0 0 0 0 0 0 0 0), ((qM 38), .inl (cI, 4, .inl (fun _ => 0)))] := hD
  rcases p3 with ⟨rfl, p3a⟩ | ⟨rfl, p3a⟩
  · skip
    refine lv_if_ne (tgt := 16) hx hb dX12_copies_11 (by decide) (fun _ => ?_) (fun c9 => absurd c9 (by decide +kernel))
    refine lv_iconst (v := 0) hx hb dX12_copies_16 (by decide +kernel) ?_
    refine lv_istore_n (lv' := [(2, .int 0), (0, .ref aM), (1, .int y0)]) hx hb dX12_copies_17 rfl hl (by decide) rfl (fun ls hl => ?_)
    refine lv_iconst (v := 0) hx hb dX12_copies_18 (by decide +kernel) ?_
    refine lv_istore_n (lv' := [(3, .int 0), (2, .int 0), (0, .ref aM), (1, .int y0)]) hx hb dX12_copies_19 rfl hl (by decide) rfl (fun ls hl => ?_)
    refine lv_iload_n hx hb dX12_copies_20 rfl (lv_at hl 0 rfl) ?_
    refine lv_aload_n hx hb dX12_copies_21 rfl (lv_at hl 2 rfl) ?_
    refine va_get (D := D) (ci := 12) (v := .ref (qM 38)) (C := RX12) (T := TX12) (N := 97) hx hb htg iwG_12 hown hE.1 hP 0 rfl rfl 38 (by decide) (htg _ wm_505) (fun _ h9 => h9) rfl dX12_copies_22 ?_
    refine lv_iconst (v := 0) hx hb dX12_copies_25 (by decide +kernel) ?_
    refine va_iald hx hb hE.1 hP 1 0 rfl rfl (vp_in_iff.mpr ⟨by decide +kernel, by decide +kernel⟩) dX12_copies_26 ?_
    refine g_top 0 rfl ?_
    refine lv_icmp_ge (tgt := 99) hx hb dX12_copies_27 (by decide) (fun _ => ?_) (fun c9 => absurd c9 (by decide +kernel))
    refine lv_iconst (v := 0) hx hb dX12_copies_99 (by decide +kernel) ?_
    refine lv_istore_n (lv' := [(3, .int 0), (2, .int 0), (0, .ref aM), (1, .int y0)]) hx hb dX12_copies_100 rfl hl (by decide) rfl (fun ls hl => ?_)
    refine lv_iconst (v := 0) hx hb dX12_copies_101 (by decide +kernel) ?_
    refine lv_istore (lv' := [(4, .int 0), (3, .int 0), (2, .int 0), (0, .ref aM), (1, .int y0)]) hx hb dX12_copies_102 hl (by decide) rfl (fun ls hl => ?_)
    refine lv_iconst (v := 0) hx hb dX12_copies_104 (by decide +kernel) ?_
    refine lv_istore (lv' := [(5, .int 0), (4, .int 0), (3, .int 0), (2, .int 0), (0, .ref aM), (1, .int y0)]) hx hb dX12_copies_105 hl (by decide) rfl (fun ls hl => ?_)
    refine lv_iconst (v := 1) hx hb dX12_copies_107 (by decide +kernel) ?_
    refine lv_istore (lv' := [(6, .int 1), (5, .int 0), (4, .int 0), (3, .int 0), (2, .int 0), (0, .ref aM), (1, .int y0)]) hx hb dX12_copies_108 hl (by decide) rfl (fun ls hl => ?_)
    refine lv_iload hx hb dX12_copies_110 (lv_at hl 0 rfl) ?_
    refine lv_iconst (v := 1) hx hb dX12_copies_112 (by decide +kernel) ?_
    refine lv_iload_n hx hb dX12_copies_113 rfl (lv_at hl 4 rfl) ?_
    refine lv_ishl hx hb dX12_copies_114 ?_
    refine g_top 1 (by decide +kernel) ?_
    refine lv_icmp_ge (tgt := 324) hx hb dX12_copies_115 (by decide) (fun _ => ?_) (fun c9 => absurd c9 (by decide +kernel))
    refine lv_iconst (v := 0) hx hb dX12_copies_324 (by decide +kernel) ?_
    refine lv_istore (lv' := [(6, .int 0), (5, .int 0), (4, .int 0), (3, .int 0), (2, .int 0), (0, .ref aM), (1, .int y0)]) hx hb dX12_copies_325 hl (by decide) rfl (fun ls hl => ?_)
    refine lv_iconst (v := 0) hx hb dX12_copies_327 (by decide +kernel) ?_
    refine lv_istore (lv' := [(7, .int 0), (6, .int 0), (5, .int 0), (4, .int 0), (3, .int 0), (2, .int 0), (0, .ref aM), (1, .int y0)]) hx hb dX12_copies_328 hl (by decide) rfl (fun ls hl => ?_)
    refine lv_iload hx hb dX12_copies_330 (lv_at hl 0 rfl) ?_
    refine lv_iload_n hx hb dX12_copies_332 rfl (lv_at hl 5 rfl) ?_
    refine lv_icmp_ge (tgt := 369) hx hb dX12_copies_333 (by decide) (fun _ => ?_) (fun c9 => absurd c9 (by decide +kernel))
    refine lv_iload_n hx hb dX12_copies_369 rfl (lv_at hl 7 rfl) ?_
    refine lv_if_ne (tgt := 378) hx hb dX12_copies_370 (by decide) (fun c4 => ?_) (fun c4 => ?_)
    · rw [i_eq] at c4
      refine lv_iload_n hx hb dX12_copies_378 rfl (lv_at hl 7 rfl) ?_
      refine lv_iconst (v := 1) hx hb dX12_copies_379 (by decide +kernel) ?_
      refine lv_icmp_ne (tgt := 388) hx hb dX12_copies_380 (by decide) (fun c5 => ?_) (fun c5 => ?_)
      · rw [i_eq] at c5
        refine lv_iload hx hb dX12_copies_388 (lv_at hl 1 rfl) ?_
        exact g_iret () hF hr rfl hlocks (hP.sub [] rfl) (hD.sub [] rfl rfl) hS (by show (_ : Int32) = _; unfold S_copies; (repeat' split) <;> first | rfl | (exfalso; omega) | omega) dX12_copies_390 (Nat.le_of_ble_eq_true rfl) (Nat.le_of_ble_eq_true rfl)
      · rw [i_eq] at c5
        refine lv_iload hx hb dX12_copies_383 (lv_at hl 2 rfl) ?_
        refine lv_goto (tgt := 390) hx hb dX12_copies_385 (by decide) ?_
        exact g_iret () hF hr rfl hlocks (hP.sub [] rfl) (hD.sub [] rfl rfl) hS (by show (_ : Int32) = _; unfold S_copies; (repeat' split) <;> first | rfl | (exfalso; omega) | omega) dX12_copies_390 (Nat.le_of_ble_eq_true rfl) (Nat.le_of_ble_eq_true rfl)
    · rw [i_eq] at c4
      refine lv_iload hx hb dX12_copies_373 (lv_at hl 3 rfl) ?_
      refine lv_goto (tgt := 390) hx hb dX12_copies_375 (by decide) ?_
      exact g_iret () hF hr rfl hlocks (hP.sub [] rfl) (hD.sub [] rfl rfl) hS (by show (_ : Int32) = _; unfold S_copies; (repeat' split) <;> first | rfl | (exfalso; omega) | omega) dX12_copies_390 (Nat.le_of_ble_eq_true rfl) (Nat.le_of_ble_eq_true rfl)
  · skip
    refine lv_if_ne (tgt := 16) hx hb dX12_copies_11 (by decide) (fun c9 => absurd c9 (by decide +kernel)) (fun _ => ?_)
    refine lv_iconst (v := (-1)) hx hb dX12_copies_14 (by decide +kernel) ?_
    exact g_iret () hF hr rfl hlocks (hP.sub [] rfl) (hD.sub [] rfl rfl) hS (by show (_ : Int32) = _; unfold S_copies; (repeat' split) <;> first | rfl | (exfalso; omega) | omega) dX12_copies_15 (Nat.le_of_ble_eq_true rfl) (Nat.le_of_ble_eq_true rfl)
set_option maxHeartbeats 8000000 in
set_option maxRecDepth 100000 in
theorem c_X12_cost {l : Launch} {D : va_G} {cI cB cS cZ cW : ClassId} {aM : Nat} {y0 : Int32} {y1 : Int32} {qM : Nat → Nat}  {sz : Nat} : MI l D (gT cI cB cS cZ cW) yX12_cost (wG yX12_cost cX12_cost 3 (some .boolean)) { frames := 2, cells := 0, slots := 0, locals := 43 } [.ref aM, .int y0, .int y1] [(aM, oM qM 0 0 0 0 0 0 0 0 0 0 0 0 0 0 0 0 0 0), ((qM 6), .inl (cI, 4, .inl (fun _ => 0)))] sz (fun (r : Int32) (u : Unit) => r = 0) (fun (u : Unit) => [] : (Unit) → va_W) 0 0 := by
  refine g_enter (y := yX12_cost) (w := (wG yX12_cost cX12_cost 3 (some .boolean))) (As := [.ref aM, .int y0, .int y1]) (D := D) (T := gT cI cB cS cZ cW) (ws := [(aM, oM qM 0 0 0 0 0 0 0 0 0 0 0 0 0 0 0 0 0 0), ((qM 6), .inl (cI, 4, .inl (fun _ => 0)))]) (gQi D (fun (r : Int32) (u : Unit) => r = 0) (fun (u : Unit) => [] : (Unit) → va_W)) (cc := cX12_cost) (maxL := 3) (ret := (some .boolean)) (by decide) rfl (Nat.le_of_ble_eq_true rfl) ?_
  intro p e s m below meth c A ls hF hr hlocks hname hsz hE hA hP hD hS hl
  have hF : CallFix p m c cX12_cost 3 s ([.ref aM, .int y0, .int y1] : List Value).toArray (wG yX12_cost cX12_cost 3 (some .boolean)) RX12 := hF
  obtain ⟨hx, hb, hml, hown, hts⟩ := id hF
  have htg : ∀ w ∈ GL, w.before ([.ref aM, .int y0, .int y1] : List Value).toArray s = true := fun w h => hts w (List.mem_cons_of_mem _ h)
  have hl : lv_has ls 3 [(0, .ref aM), (1, .int y0), (2, .int y1)] := hl
  have z0 := t_0
  refine lv_aload_n hx hb dX12_cost_0 rfl (lv_at hl 0 rfl) ?_
  refine lv_iconst (v := 0) hx hb dX12_cost_1 (by decide +kernel) ?_
  refine va_put (D := D) (ci := 12) (v := .int 0) (ty := tyX12 0) (C := RX12) (T := TX12) (N := 97) hx hb htg iwG_12 tyX12 tyX12_ok nmX12 hown hE.1 hP hD hS 0 rfl rfl 0 (by decide) (htg _ wm_588) (fun _ h9 => h9) rfl (by decide +kernel) rfl rfl (Nat.le_of_ble_eq_true rfl) dX12_cost_2 (fun H locs hP hD hS => ?_)
  have hP : va_P D vwCl [(aM, oM qM 0 0 0 0 0 0 0 0 0 0 0 0 0 0 0 0 0 0), ((qM 6), .inl (cI, 4, .inl (fun _ => 0)))] H := hP
  have hD : va_D A [(aM, oM qM 0 0 0 0 0 0 0 0 0 0 0 0 0 0 0 0 0 0), ((qM 6), .inl (cI, 4, .inl (fun _ => 0)))] := hD
  refine lv_aload_n hx hb dX12_cost_5 rfl (lv_at hl 0 rfl) ?_
  refine lv_iload_n hx hb dX12_cost_6 rfl (lv_at hl 1 rfl) ?_
  refine g_ai (D := D) (wc := [(aM, oM qM 0 0 0 0 0 0 0 0 0 0 0 0 0 0 0 0 0 0), ((qM 6), .inl (cI, 4, .inl (fun _ => 0)))]) (wr := []) hP hD hS hA [0, 1] [] rfl rfl rfl rfl (by decide) (fun hPc hDc => va_runV (As := [.int y0]) (rest := []) hF (c_X12_isTongue (l := l) (D := D) (cI := cI) (cB := cB) (cS := cS) (cZ := cZ) (cW := cW) (aM := aM) (y0 := y0) (qM := qM)) (cwV 1 hts (gGV (fun _ h => List.mem_cons_of_mem _ h) wm_556 wm_557 wm_558 wm_550 wm_559) rfl rfl rfl (by decide +kernel) ⟨Nat.le_of_ble_eq_true rfl, Nat.le_of_ble_eq_true rfl⟩) (g_preV (q := (RX12, TX12, 97)) (ci := 12) (q0 := 0) hE hPc hDc rfl rfl) rfl rfl hl.1 rfl (lv_room (Nat.le_of_ble_eq_true rfl)) dX12_cost_7 ⟨Nat.le_of_ble_eq_true rfl, Nat.le_of_ble_eq_true rfl⟩) (fun r1 u2 H locs p3 hP hD hS => ?_)
  have hP : va_P D vwCl [(aM, oM qM 0 0 0 0 0 0 0 0 0 0 0 0 0 0 0 0 0 0), ((qM 6), .inl (cI, 4, .inl (fun _ => 0)))] H := hP
  have hD : va_D A [(aM, oM qM 0 0 0 0 0 0 0 0 0 0 0 0 0 0 0 0 0 0), ((qM 6), .inl (cI, 4, .inl (fun _ => 0)))] := hD
  obtain rfl := p3
  refine lv_if_eq (tgt := 24) hx hb dX12_cost_10 (by decide) (fun _ => ?_) (fun c9 => absurd c9 (by decide +kernel))
  refine lv_iconst (v := 0) hx hb dX12_cost_24 (by decide +kernel) ?_
  exact g_iret () hF hr rfl hlocks (hP.sub [] rfl) (hD.sub [] rfl rfl) hS rfl dX12_cost_25 (Nat.le_of_ble_eq_true rfl) (Nat.le_of_ble_eq_true rfl)
set_option maxHeartbeats 8000000 in
set_option maxRecDepth 100000 in
theorem c_X12_schools {l : Launch} {D : va_G} {cI cB cS cZ cW : ClassId} {aM : Nat} {y0 : Int32} {y1 : Int32} {qM : Nat → Nat}  {sz : Nat} : MI l D (gT cI cB cS cZ cW) yX12_schools (wG yX12_schools cX12_schools 10 (some .int)) { frames := 1, cells := 0, slots := 0, locals := 22 } [.ref aM, .int y0, .int y1] [(aM, oM qM 0 0 0 0 0 0 0 0 0 0 0 0 0 0 0 0 0 0), ((qM 6), .inl (cI, 4, .inl (fun _ => 0)))] sz (fun (r : Int32) (u : Unit) => r = S_schools y0 y1) (fun (u : Unit) => [] : (Unit) → va_W) 0 0 := by
  refine g_enter (y := yX12_schools) (w := (wG yX12_schools cX12_schools 10 (some .int))) (As := [.ref aM, .int y0, .int y1]) (D := D) (T := gT cI cB cS cZ cW) (ws := [(aM, oM qM 0 0 0 0 0 0 0 0 0 0 0 0 0 0 0 0 0 0), ((qM 6), .inl (cI, 4, .inl (fun _ => 0)))]) (gQi D (fun (r : Int32) (u : Unit) => r = S_schools y0 y1) (fun (u : Unit) => [] : (Unit) → va_W)) (cc := cX12_schools) (maxL := 10) (ret := (some .int)) (by decide) rfl (Nat.le_of_ble_eq_true rfl) ?_
  intro p e s m below meth c A ls hF hr hlocks hname hsz hE hA hP hD hS hl
  have hF : CallFix p m c cX12_schools 10 s ([.ref aM, .int y0, .int y1] : List Value).toArray (wG yX12_schools cX12_schools 10 (some .int)) RX12 := hF
  obtain ⟨hx, hb, hml, hown, hts⟩ := id hF
  have htg : ∀ w ∈ GL, w.before ([.ref aM, .int y0, .int y1] : List Value).toArray s = true := fun w h => hts w (List.mem_cons_of_mem _ h)
  have hl : lv_has ls 10 [(0, .ref aM), (1, .int y0), (2, .int y1)] := hl
  have zm1 := tm_1
  have z0 := t_0
  have z1 := t_1
  have z2 := t_2
  have z10000 := t_10000
  refine lv_aload_n hx hb dX12_schools_0 rfl (lv_at hl 0 rfl) ?_
  refine lv_iconst (v := 0) hx hb dX12_schools_1 (by decide +kernel) ?_
  refine va_put (D := D) (ci := 12) (v := .int 0) (ty := tyX12 0) (C := RX12) (T := TX12) (N := 97) hx hb htg iwG_12 tyX12 tyX12_ok nmX12 hown hE.1 hP hD hS 0 rfl rfl 0 (by decide) (htg _ wm_588) (fun _ h9 => h9) rfl (by decide +kernel) rfl rfl (Nat.le_of_ble_eq_true rfl) dX12_schools_2 (fun H locs hP hD hS => ?_)
  have hP : va_P D vwCl [(aM, oM qM 0 0 0 0 0 0 0 0 0 0 0 0 0 0 0 0 0 0), ((qM 6), .inl (cI, 4, .inl (fun _ => 0)))] H := hP
  have hD : va_D A [(aM, oM qM 0 0 0 0 0 0 0 0 0 0 0 0 0 0 0 0 0 0), ((qM 6), .inl (cI, 4, .inl (fun _ => 0)))] := hD
  refine lv_iload_n hx hb dX12_schools_5 rfl (lv_at hl 1 rfl) ?_
  refine lv_iconst (v := 0) hx hb dX12_schools_6 (by decide +kernel) ?_
  refine lv_sipush (v := 10000) hx hb dX12_schools_7 (by decide +kernel) ?_
  refine g_ai (D := D) (wc := []) (wr := [(aM, oM qM 0 0 0 0 0 0 0 0 0 0 0 0 0 0 0 0 0 0), ((qM 6), .inl (cI, 4, .inl (fun _ => 0)))]) hP hD hS hA [] [0, 1] rfl rfl rfl rfl (by decide) (fun hPc hDc => va_runS (As := [.int y0, .int 0, .int 10000]) (rest := []) hF (c_X12_in (l := l) (D := D) (cI := cI) (cB := cB) (cS := cS) (cZ := cZ) (cW := cW) (y0 := y0) (y1 := 0) (y2 := 10000)) (va_cwS 3 hts (gGS (fun _ h => List.mem_cons_of_mem _ h) wm_548 wm_549 wm_550 wm_551) rfl rfl rfl (by decide +kernel) ⟨Nat.le_of_ble_eq_true rfl, Nat.le_of_ble_eq_true rfl⟩) (g_preS hE hPc hDc) rfl rfl hl.1 rfl (lv_room (Nat.le_of_ble_eq_true rfl)) dX12_schools_10 ⟨Nat.le_of_ble_eq_true rfl, Nat.le_of_ble_eq_true rfl⟩) (fun r1 u2 H locs p3 hP hD hS => ?_)
  have hP : va_P D vwCl [(aM, oM qM 0 0 0 0 0 0 0 0 0 0 0 0 0 0 0 0 0 0), ((qM 6), .inl (cI, 4, .inl (fun _ => 0)))] H := hP
  have hD : va_D A [(aM, oM qM 0 0 0 0 0 0 0 0 0 0 0 0 0 0 0 0 0 0), ((qM 6), .inl (cI, 4, .inl (fun _ => 0)))] := hD
  rcases p3 with ⟨rfl, p3a⟩ | ⟨rfl, p3a⟩
  · skip
    refine lv_if_eq (tgt := 25) hx hb dX12_schools_13 (by decide) (fun c9 => absurd c9 (by decide +kernel)) (fun _ => ?_)
    refine lv_iload_n hx hb dX12_schools_16 rfl (lv_at hl 2 rfl) ?_
    refine lv_iconst (v := 0) hx hb dX12_schools_17 (by decide +kernel) ?_
    refine lv_iconst (v := 2) hx hb dX12_schools_18 (by decide +kernel) ?_
    refine g_ai (D := D) (wc := []) (wr := [(aM, oM qM 0 0 0 0 0 0 0 0 0 0 0 0 0 0 0 0 0 0), ((qM 6), .inl (cI, 4, .inl (fun _ => 0)))]) hP hD hS hA [] [0, 1] rfl rfl rfl rfl (by decide) (fun hPc hDc => va_runS (As := [.int y1, .int 0, .int 2]) (rest := []) hF (c_X12_in (l := l) (D := D) (cI := cI) (cB := cB) (cS := cS) (cZ := cZ) (cW := cW) (y0 := y1) (y1 := 0) (y2 := 2)) (va_cwS 3 hts (gGS (fun _ h => List.mem_cons_of_mem _ h) wm_548 wm_549 wm_550 wm_551) rfl rfl rfl (by decide +kernel) ⟨Nat.le_of_ble_eq_true rfl, Nat.le_of_ble_eq_true rfl⟩) (g_preS hE hPc hDc) rfl rfl hl.1 rfl (lv_room (Nat.le_of_ble_eq_true rfl)) dX12_schools_19 ⟨Nat.le_of_ble_eq_true rfl, Nat.le_of_ble_eq_true rfl⟩) (fun r4 u5 H locs p6 hP hD hS => ?_)
    have hP : va_P D vwCl [(aM, oM qM 0 0 0 0 0 0 0 0 0 0 0 0 0 0 0 0 0 0), ((qM 6), .inl (cI, 4, .inl (fun _ => 0)))] H := hP
    have hD : va_D A [(aM, oM qM 0 0 0 0 0 0 0 0 0 0 0 0 0 0 0 0 0 0), ((qM 6), .inl (cI, 4, .inl (fun _ => 0)))] := hD
    rcases p6 with ⟨rfl, p6a⟩ | ⟨rfl, p6a⟩
    · skip
      refine lv_if_ne (tgt := 27) hx hb dX12_schools_22 (by decide) (fun _ => ?_) (fun c9 => absurd c9 (by decide +kernel))
      refine lv_iconst (v := 0) hx hb dX12_schools_27 (by decide +kernel) ?_
      refine lv_istore_n (lv' := [(3, .int 0), (0, .ref aM), (1, .int y0), (2, .int y1)]) hx hb dX12_schools_28 rfl hl (by decide) rfl (fun ls hl => ?_)
      refine lv_iconst (v := 0) hx hb dX12_schools_29 (by decide +kernel) ?_
      refine lv_istore (lv' := [(4, .int 0), (3, .int 0), (0, .ref aM), (1, .int y0), (2, .int y1)]) hx hb dX12_schools_30 hl (by decide) rfl (fun ls hl => ?_)
      refine lv_iconst (v := 0) hx hb dX12_schools_32 (by decide +kernel) ?_
      refine lv_istore (lv' := [(5, .int 0), (4, .int 0), (3, .int 0), (0, .ref aM), (1, .int y0), (2, .int y1)]) hx hb dX12_schools_33 hl (by decide) rfl (fun ls hl => ?_)
      refine lv_iconst (v := 0) hx hb dX12_schools_35 (by decide +kernel) ?_
      refine lv_istore (lv' := [(6, .int 0), (5, .int 0), (4, .int 0), (3, .int 0), (0, .ref aM), (1, .int y0), (2, .int y1)]) hx hb dX12_schools_36 hl (by decide) rfl (fun ls hl => ?_)
      refine lv_iload hx hb dX12_schools_38 (lv_at hl 0 rfl) ?_
      refine lv_aload_n hx hb dX12_schools_40 rfl (lv_at hl 4 rfl) ?_
      refine va_get (D := D) (ci := 12) (v := .ref (qM 6)) (C := RX12) (T := TX12) (N := 97) hx hb htg iwG_12 hown hE.1 hP 0 rfl rfl 6 (by decide) (htg _ wm_472) (fun _ h9 => h9) rfl dX12_schools_41 ?_
      refine lv_iconst (v := 0) hx hb dX12_schools_44 (by decide +kernel) ?_
      refine va_iald hx hb hE.1 hP 1 0 rfl rfl (vp_in_iff.mpr ⟨by decide +kernel, by decide +kernel⟩) dX12_schools_45 ?_
      refine g_top 0 rfl ?_
      refine lv_icmp_ge (tgt := 72) hx hb dX12_schools_46 (by decide) (fun _ => ?_) (fun c9 => absurd c9 (by decide +kernel))
      refine lv_iconst (v := 1) hx hb dX12_schools_72 (by decide +kernel) ?_
      refine lv_istore (lv' := [(6, .int 1), (5, .int 0), (4, .int 0), (3, .int 0), (0, .ref aM), (1, .int y0), (2, .int y1)]) hx hb dX12_schools_73 hl (by decide) rfl (fun ls hl => ?_)
      refine lv_iload hx hb dX12_schools_75 (lv_at hl 0 rfl) ?_
      refine lv_iconst (v := 1) hx hb dX12_schools_77 (by decide +kernel) ?_
      refine lv_aload_n hx hb dX12_schools_78 rfl (lv_at hl 4 rfl) ?_
      refine va_get (D := D) (ci := 12) (v := .ref (qM 6)) (C := RX12) (T := TX12) (N := 97) hx hb htg iwG_12 hown hE.1 hP 0 rfl rfl 6 (by decide) (htg _ wm_472) (fun _ h9 => h9) rfl dX12_schools_79 ?_
      refine lv_iconst (v := 0) hx hb dX12_schools_82 (by decide +kernel) ?_
      refine va_iald hx hb hE.1 hP 1 0 rfl rfl (vp_in_iff.mpr ⟨by decide +kernel, by decide +kernel⟩) dX12_schools_83 ?_
      refine g_top 0 rfl ?_
      refine lv_ishl hx hb dX12_schools_84 ?_
      refine g_top 1 (by decide +kernel) ?_
      refine lv_icmp_ge (tgt := 210) hx hb dX12_schools_85 (by decide) (fun _ => ?_) (fun c9 => absurd c9 (by decide +kernel))
      refine lv_iload_n hx hb dX12_schools_210 rfl (lv_at hl 6 rfl) ?_
      refine lv_if_ne (tgt := 219) hx hb dX12_schools_211 (by decide) (fun c7 => ?_) (fun c7 => ?_)
      · rw [i_eq] at c7
        refine lv_iload_n hx hb dX12_schools_219 rfl (lv_at hl 6 rfl) ?_
        refine lv_iconst (v := 1) hx hb dX12_schools_220 (by decide +kernel) ?_
        refine lv_icmp_ne (tgt := 229) hx hb dX12_schools_221 (by decide) (fun c8 => ?_) (fun c8 => ?_)
        · rw [i_eq] at c8
          refine lv_iload_n hx hb dX12_schools_229 rfl (lv_at hl 3 rfl) ?_
          exact g_iret () hF hr rfl hlocks (hP.sub [] rfl) (hD.sub [] rfl rfl) hS (by show (_ : Int32) = _; unfold S_schools; (repeat' split) <;> first | rfl | (exfalso; omega) | omega) dX12_schools_230 (Nat.le_of_ble_eq_true rfl) (Nat.le_of_ble_eq_true rfl)
        · rw [i_eq] at c8
          refine lv_iload hx hb dX12_schools_224 (lv_at hl 1 rfl) ?_
          refine lv_goto (tgt := 230) hx hb dX12_schools_226 (by decide) ?_
          exact g_iret () hF hr rfl hlocks (hP.sub [] rfl) (hD.sub [] rfl rfl) hS (by show (_ : Int32) = _; unfold S_schools; (repeat' split) <;> first | rfl | (exfalso; omega) | omega) dX12_schools_230 (Nat.le_of_ble_eq_true rfl) (Nat.le_of_ble_eq_true rfl)
      · rw [i_eq] at c7
        refine lv_iload hx hb dX12_schools_214 (lv_at hl 2 rfl) ?_
        refine lv_goto (tgt := 230) hx hb dX12_schools_216 (by decide) ?_
        exact g_iret () hF hr rfl hlocks (hP.sub [] rfl) (hD.sub [] rfl rfl) hS (by show (_ : Int32) = _; unfold S_schools; (repeat' split) <;> first | rfl | (exfalso; omega) | omega) dX12_schools_230 (Nat.le_of_ble_eq_true rfl) (Nat.le_of_ble_eq_true rfl)
    · skip
      refine lv_if_ne (tgt := 27) hx hb dX12_schools_22 (by decide) (fun c9 => absurd c9 (by decide +kernel)) (fun _ => ?_)
      refine lv_iconst (v := (-1)) hx hb dX12_schools_25 (by decide +kernel) ?_
      exact g_iret () hF hr rfl hlocks (hP.sub [] rfl) (hD.sub [] rfl rfl) hS (by show (_ : Int32) = _; unfold S_schools; (repeat' split) <;> first | rfl | (exfalso; omega) | omega) dX12_schools_26 (Nat.le_of_ble_eq_true rfl) (Nat.le_of_ble_eq_true rfl)
  · skip
    refine lv_if_eq (tgt := 25) hx hb dX12_schools_13 (by decide) (fun _ => ?_) (fun c9 => absurd c9 (by decide +kernel))
    refine lv_iconst (v := (-1)) hx hb dX12_schools_25 (by decide +kernel) ?_
    exact g_iret () hF hr rfl hlocks (hP.sub [] rfl) (hD.sub [] rfl rfl) hS (by show (_ : Int32) = _; unfold S_schools; (repeat' split) <;> first | rfl | (exfalso; omega) | omega) dX12_schools_26 (Nat.le_of_ble_eq_true rfl) (Nat.le_of_ble_eq_true rfl)
set_option maxHeartbeats 8000000 in
set_option maxRecDepth 100000 in
theorem c_X12_teach {l : Launch} {D : va_G} {cI cB cS cZ cW : ClassId} {aM : Nat} {y0 : Int32} {y1 : Int32} {y2 : Int32} {qM : Nat → Nat}  {sz : Nat} : MI l D (gT cI cB cS cZ cW) yX12_teach (wG yX12_teach cX12_teach 8 (some .int)) { frames := 3, cells := 0, slots := 0, locals := 64 } [.ref aM, .int y0, .int y1, .int y2] [(aM, oM qM 0 0 0 0 0 0 0 0 0 0 0 0 0 0 0 0 0 0), ((qM 14), .inl (cI, 4, .inl (fun _ => 0)))] sz (fun (r : Int32) (u : Unit) => r = (-1)) (fun (u : Unit) => [] : (Unit) → va_W) 0 0 := by
  refine g_enter (y := yX12_teach) (w := (wG yX12_teach cX12_teach 8 (some .int))) (As := [.ref aM, .int y0, .int y1, .int y2]) (D := D) (T := gT cI cB cS cZ cW) (ws := [(aM, oM qM 0 0 0 0 0 0 0 0 0 0 0 0 0 0 0 0 0 0), ((qM 14), .inl (cI, 4, .inl (fun _ => 0)))]) (gQi D (fun (r : Int32) (u : Unit) => r = (-1)) (fun (u : Unit) => [] : (Unit) → va_W)) (cc := cX12_teach) (maxL := 8) (ret := (some .int)) (by decide) rfl (Nat.le_of_ble_eq_true rfl) ?_
  intro p e s m below meth c A ls hF hr hlocks hname hsz hE hA hP hD hS hl
  have hF : CallFix p m c cX12_teach 8 s ([.ref aM, .int y0, .int y1, .int y2] : List Value).toArray (wG yX12_teach cX12_teach 8 (some .int)) RX12 := hF
  obtain ⟨hx, hb, hml, hown, hts⟩ := id hF
  have htg : ∀ w ∈ GL, w.before ([.ref aM, .int y0, .int y1, .int y2] : List Value).toArray s = true := fun w h => hts w (List.mem_cons_of_mem _ h)
  have hl : lv_has ls 8 [(0, .ref aM), (1, .int y0), (2, .int y1), (3, .int y2)] := hl
  have zm1 := tm_1
  have z0 := t_0
  refine lv_aload_n hx hb dX12_teach_0 rfl (lv_at hl 0 rfl) ?_
  refine lv_iconst (v := 0) hx hb dX12_teach_1 (by decide +kernel) ?_
  refine va_put (D := D) (ci := 12) (v := .int 0) (ty := tyX12 0) (C := RX12) (T := TX12) (N := 97) hx hb htg iwG_12 tyX12 tyX12_ok nmX12 hown hE.1 hP hD hS 0 rfl rfl 0 (by decide) (htg _ wm_588) (fun _ h9 => h9) rfl (by decide +kernel) rfl rfl (Nat.le_of_ble_eq_true rfl) dX12_teach_2 (fun H locs hP hD hS => ?_)
  have hP : va_P D vwCl [(aM, oM qM 0 0 0 0 0 0 0 0 0 0 0 0 0 0 0 0 0 0), ((qM 14), .inl (cI, 4, .inl (fun _ => 0)))] H := hP
  have hD : va_D A [(aM, oM qM 0 0 0 0 0 0 0 0 0 0 0 0 0 0 0 0 0 0), ((qM 14), .inl (cI, 4, .inl (fun _ => 0)))] := hD
  refine lv_aload_n hx hb dX12_teach_5 rfl (lv_at hl 0 rfl) ?_
  refine lv_iload_n hx hb dX12_teach_6 rfl (lv_at hl 1 rfl) ?_
  refine g_ai (D := D) (wc := [(aM, oM qM 0 0 0 0 0 0 0 0 0 0 0 0 0 0 0 0 0 0), ((qM 14), .inl (cI, 4, .inl (fun _ => 0)))]) (wr := []) hP hD hS hA [0, 1] [] rfl rfl rfl rfl (by decide) (fun hPc hDc => va_runV (As := [.int y0]) (rest := []) hF (c_X12_isAlive (l := l) (D := D) (cI := cI) (cB := cB) (cS := cS) (cZ := cZ) (cW := cW) (aM := aM) (y0 := y0) (qM := qM)) (cwV 1 hts (gGV (fun _ h => List.mem_cons_of_mem _ h) wm_595 wm_596 wm_597 wm_550 wm_598) rfl rfl rfl (by decide +kernel) ⟨Nat.le_of_ble_eq_true rfl, Nat.le_of_ble_eq_true rfl⟩) (g_preV (q := (RX12, TX12, 97)) (ci := 12) (q0 := 0) hE hPc hDc rfl rfl) rfl rfl hl.1 rfl (lv_room (Nat.le_of_ble_eq_true rfl)) dX12_teach_7 ⟨Nat.le_of_ble_eq_true rfl, Nat.le_of_ble_eq_true rfl⟩) (fun r1 u2 H locs p3 hP hD hS => ?_)
  have hP : va_P D vwCl [(aM, oM qM 0 0 0 0 0 0 0 0 0 0 0 0 0 0 0 0 0 0), ((qM 14), .inl (cI, 4, .inl (fun _ => 0)))] H := hP
  have hD : va_D A [(aM, oM qM 0 0 0 0 0 0 0 0 0 0 0 0 0 0 0 0 0 0), ((qM 14), .inl (cI, 4, .inl (fun _ => 0)))] := hD
  obtain rfl := p3
  refine lv_if_eq (tgt := 51) hx hb dX12_teach_10 (by decide) (fun _ => ?_) (fun c9 => absurd c9 (by decide +kernel))
  refine lv_iconst (v := (-1)) hx hb dX12_teach_51 (by decide +kernel) ?_
  exact g_iret () hF hr rfl hlocks (hP.sub [] rfl) (hD.sub [] rfl rfl) hS rfl dX12_teach_52 (Nat.le_of_ble_eq_true rfl) (Nat.le_of_ble_eq_true rfl)
set_option maxHeartbeats 8000000 in
set_option maxRecDepth 100000 in
theorem c_X12_make {l : Launch} {D : va_G} {cI cB cS cZ cW : ClassId} {aM : Nat} {y0 : Int32} {y1 : Int32} {y2 : Int32} {y3 : Int32} {qM : Nat → Nat}  {sz : Nat} : MI l D (gT cI cB cS cZ cW) yX12_make (wG yX12_make cX12_make 6 (some .int)) { frames := 2, cells := 0, slots := 0, locals := 43 } [.ref aM, .int y0, .int y1, .int y2, .int y3] [(aM, oM qM 0 0 0 0 0 0 0 0 0 0 0 0 0 0 0 0 0 0), ((qM 14), .inl (cI, 4, .inl (fun _ => 0)))] sz (fun (r : Int32) (u : Unit) => r = (-1)) (fun (u : Unit) => [] : (Unit) → va_W) 0 0 := by
  refine g_enter (y := yX12_make) (w := (wG yX12_make cX12_make 6 (some .int))) (As := [.ref aM, .int y0, .int y1, .int y2, .int y3]) (D := D) (T := gT cI cB cS cZ cW) (ws := [(aM, oM qM 0 0 0 0 0 0 0 0 0 0 0 0 0 0 0 0 0 0), ((qM 14), .inl (cI, 4, .inl (fun _ => 0)))]) (gQi D (fun (r : Int32) (u : Unit) => r = (-1)) (fun (u : Unit) => [] : (Unit) → va_W)) (cc := cX12_make) (maxL := 6) (ret := (some .int)) (by decide) rfl (Nat.le_of_ble_eq_true rfl) ?_
  intro p e s m below meth c A ls hF hr hlocks hname hsz hE hA hP hD hS hl
  have hF : CallFix p m c cX12_make 6 s ([.ref aM, .int y0, .int y1, .int y2, .int y3] : List Value).toArray (wG yX12_make cX12_make 6 (some .int)) RX12 := hF
  obtain ⟨hx, hb, hml, hown, hts⟩ := id hF
  have htg : ∀ w ∈ GL, w.before ([.ref aM, .int y0, .int y1, .int y2, .int y3] : List Value).toArray s = true := fun w h => hts w (List.mem_cons_of_mem _ h)
  have hl : lv_has ls 6 [(0, .ref aM), (1, .int y0), (2, .int y1), (3, .int y2), (4, .int y3)] := hl
  have zm1 := tm_1
  have z0 := t_0
  refine lv_aload_n hx hb dX12_make_0 rfl (lv_at hl 0 rfl) ?_
  refine lv_iconst (v := 0) hx hb dX12_make_1 (by decide +kernel) ?_
  refine va_put (D := D) (ci := 12) (v := .int 0) (ty := tyX12 0) (C := RX12) (T := TX12) (N := 97) hx hb htg iwG_12 tyX12 tyX12_ok nmX12 hown hE.1 hP hD hS 0 rfl rfl 0 (by decide) (htg _ wm_588) (fun _ h9 => h9) rfl (by decide +kernel) rfl rfl (Nat.le_of_ble_eq_true rfl) dX12_make_2 (fun H locs hP hD hS => ?_)
  have hP : va_P D vwCl [(aM, oM qM 0 0 0 0 0 0 0 0 0 0 0 0 0 0 0 0 0 0), ((qM 14), .inl (cI, 4, .inl (fun _ => 0)))] H := hP
  have hD : va_D A [(aM, oM qM 0 0 0 0 0 0 0 0 0 0 0 0 0 0 0 0 0 0), ((qM 14), .inl (cI, 4, .inl (fun _ => 0)))] := hD
  refine lv_aload_n hx hb dX12_make_5 rfl (lv_at hl 0 rfl) ?_
  refine lv_iload_n hx hb dX12_make_6 rfl (lv_at hl 1 rfl) ?_
  refine g_ai (D := D) (wc := [(aM, oM qM 0 0 0 0 0 0 0 0 0 0 0 0 0 0 0 0 0 0), ((qM 14), .inl (cI, 4, .inl (fun _ => 0)))]) (wr := []) hP hD hS hA [0, 1] [] rfl rfl rfl rfl (by decide) (fun hPc hDc => va_runV (As := [.int y0]) (rest := []) hF (c_X12_isPerson (l := l) (D := D) (cI := cI) (cB := cB) (cS := cS) (cZ := cZ) (cW := cW) (aM := aM) (y0 := y0) (qM := qM)) (cwV 1 hts (gGV (fun _ h => List.mem_cons_of_mem _ h) wm_552 wm_553 wm_554 wm_550 wm_555) rfl rfl rfl (by decide +kernel) ⟨Nat.le_of_ble_eq_true rfl, Nat.le_of_ble_eq_true rfl⟩) (g_preV (q := (RX12, TX12, 97)) (ci := 12) (q0 := 0) hE hPc hDc rfl rfl) rfl rfl hl.1 rfl (lv_room (Nat.le_of_ble_eq_true rfl)) dX12_make_7 ⟨Nat.le_of_ble_eq_true rfl, Nat.le_of_ble_eq_true rfl⟩) (fun r1 u2 H locs p3 hP hD hS => ?_)
  have hP : va_P D vwCl [(aM, oM qM 0 0 0 0 0 0 0 0 0 0 0 0 0 0 0 0 0 0), ((qM 14), .inl (cI, 4, .inl (fun _ => 0)))] H := hP
  have hD : va_D A [(aM, oM qM 0 0 0 0 0 0 0 0 0 0 0 0 0 0 0 0 0 0), ((qM 14), .inl (cI, 4, .inl (fun _ => 0)))] := hD
  obtain rfl := p3
  refine lv_if_eq (tgt := 39) hx hb dX12_make_10 (by decide) (fun _ => ?_) (fun c9 => absurd c9 (by decide +kernel))
  refine lv_iconst (v := (-1)) hx hb dX12_make_39 (by decide +kernel) ?_
  exact g_iret () hF hr rfl hlocks (hP.sub [] rfl) (hD.sub [] rfl rfl) hS rfl dX12_make_40 (Nat.le_of_ble_eq_true rfl) (Nat.le_of_ble_eq_true rfl)
set_option maxHeartbeats 8000000 in
set_option maxRecDepth 100000 in
theorem c_X12_print {l : Launch} {D : va_G} {cI cB cS cZ cW : ClassId} {aM : Nat} {y0 : Int32} {y1 : Int32} {y2 : Int32} {qM : Nat → Nat}  {sz : Nat} : MI l D (gT cI cB cS cZ cW) yX12_print (wG yX12_print cX12_print 7 (some .int)) { frames := 2, cells := 0, slots := 0, locals := 43 } [.ref aM, .int y0, .int y1, .int y2] [(aM, oM qM 0 0 0 0 0 0 0 0 0 0 0 0 0 0 0 0 0 0), ((qM 14), .inl (cI, 4, .inl (fun _ => 0))), ((qM 51), .inl (cI, 4, .inl (fun _ => 0)))] sz (fun (r : Int32) (u : Unit) => r = (-1)) (fun (u : Unit) => [] : (Unit) → va_W) 0 0 := by
  refine g_enter (y := yX12_print) (w := (wG yX12_print cX12_print 7 (some .int))) (As := [.ref aM, .int y0, .int y1, .int y2]) (D := D) (T := gT cI cB cS cZ cW) (ws := [(aM, oM qM 0 0 0 0 0 0 0 0 0 0 0 0 0 0 0 0 0 0), ((qM 14), .inl (cI, 4, .inl (fun _ => 0))), ((qM 51), .inl (cI, 4, .inl (fun _ => 0)))]) (gQi D (fun (r : Int32) (u : Unit) => r = (-1)) (fun (u : Unit) => [] : (Unit) → va_W)) (cc := cX12_print) (maxL := 7) (ret := (some .int)) (by decide) rfl (Nat.le_of_ble_eq_true rfl) ?_
  intro p e s m below meth c A ls hF hr hlocks hname hsz hE hA hP hD hS hl
  have hF : CallFix p m c cX12_print 7 s ([.ref aM, .int y0, .int y1, .int y2] : List Value).toArray (wG yX12_print cX12_print 7 (some .int)) RX12 := hF
  obtain ⟨hx, hb, hml, hown, hts⟩ := id hF
  have htg : ∀ w ∈ GL, w.before ([.ref aM, .int y0, .int y1, .int y2] : List Value).toArray s = true := fun w h => hts w (List.mem_cons_of_mem _ h)
  have hl : lv_has ls 7 [(0, .ref aM), (1, .int y0), (2, .int y1), (3, .int y2)] := hl
  have zm1 := tm_1
  have z0 := t_0
  have z40 := t_40
  refine lv_aload_n hx hb dX12_print_0 rfl (lv_at hl 0 rfl) ?_
  refine lv_iconst (v := 0) hx hb dX12_print_1 (by decide +kernel) ?_
  refine va_put (D := D) (ci := 12) (v := .int 0) (ty := tyX12 0) (C := RX12) (T := TX12) (N := 97) hx hb htg iwG_12 tyX12 tyX12_ok nmX12 hown hE.1 hP hD hS 0 rfl rfl 0 (by decide) (htg _ wm_588) (fun _ h9 => h9) rfl (by decide +kernel) rfl rfl (Nat.le_of_ble_eq_true rfl) dX12_print_2 (fun H locs hP hD hS => ?_)
  have hP : va_P D vwCl [(aM, oM qM 0 0 0 0 0 0 0 0 0 0 0 0 0 0 0 0 0 0), ((qM 14), .inl (cI, 4, .inl (fun _ => 0))), ((qM 51), .inl (cI, 4, .inl (fun _ => 0)))] H := hP
  have hD : va_D A [(aM, oM qM 0 0 0 0 0 0 0 0 0 0 0 0 0 0 0 0 0 0), ((qM 14), .inl (cI, 4, .inl (fun _ => 0))), ((qM 51), .inl (cI, 4, .inl (fun _ => 0)))] := hD
  refine lv_aload_n hx hb dX12_print_5 rfl (lv_at hl 0 rfl) ?_
  refine va_get (D := D) (ci := 12) (v := .ref (qM 51)) (C := RX12) (T := TX12) (N := 97) hx hb htg iwG_12 hown hE.1 hP 0 rfl rfl 51 (by decide) (htg _ wm_519) (fun _ h9 => h9) rfl dX12_print_6 ?_
  refine lv_iconst (v := 0) hx hb dX12_print_9 (by decide +kernel) ?_
  refine va_iald hx hb hE.1 hP 2 0 rfl rfl (vp_in_iff.mpr ⟨by decide +kernel, by decide +kernel⟩) dX12_print_10 ?_
  refine g_top 0 rfl ?_
  refine lv_bipush (v := 40) hx hb dX12_print_11 (by decide +kernel) ?_
  refine lv_icmp_eq (tgt := 39) hx hb dX12_print_13 (by decide) (fun c9 => absurd c9 (by decide +kernel)) (fun _ => ?_)
  refine lv_aload_n hx hb dX12_print_16 rfl (lv_at hl 0 rfl) ?_
  refine lv_iload_n hx hb dX12_print_17 rfl (lv_at hl 1 rfl) ?_
  refine g_ai (D := D) (wc := [(aM, oM qM 0 0 0 0 0 0 0 0 0 0 0 0 0 0 0 0 0 0), ((qM 14), .inl (cI, 4, .inl (fun _ => 0)))]) (wr := [((qM 51), .inl (cI, 4, .inl (fun _ => 0)))]) hP hD hS hA [0, 1] [2] rfl rfl rfl rfl (by decide) (fun hPc hDc => va_runV (As := [.int y0]) (rest := []) hF (c_X12_isPerson (l := l) (D := D) (cI := cI) (cB := cB) (cS := cS) (cZ := cZ) (cW := cW) (aM := aM) (y0 := y0) (qM := qM)) (cwV 1 hts (gGV (fun _ h => List.mem_cons_of_mem _ h) wm_552 wm_553 wm_554 wm_550 wm_555) rfl rfl rfl (by decide +kernel) ⟨Nat.le_of_ble_eq_true rfl, Nat.le_of_ble_eq_true rfl⟩) (g_preV (q := (RX12, TX12, 97)) (ci := 12) (q0 := 0) hE hPc hDc rfl rfl) rfl rfl hl.1 rfl (lv_room (Nat.le_of_ble_eq_true rfl)) dX12_print_18 ⟨Nat.le_of_ble_eq_true rfl, Nat.le_of_ble_eq_true rfl⟩) (fun r1 u2 H locs p3 hP hD hS => ?_)
  have hP : va_P D vwCl [((qM 51), .inl (cI, 4, .inl (fun _ => 0))), (aM, oM qM 0 0 0 0 0 0 0 0 0 0 0 0 0 0 0 0 0 0), ((qM 14), .inl (cI, 4, .inl (fun _ => 0)))] H := hP
  have hD : va_D A [((qM 51), .inl (cI, 4, .inl (fun _ => 0))), (aM, oM qM 0 0 0 0 0 0 0 0 0 0 0 0 0 0 0 0 0 0), ((qM 14), .inl (cI, 4, .inl (fun _ => 0)))] := hD
  obtain rfl := p3
  refine lv_if_eq (tgt := 39) hx hb dX12_print_21 (by decide) (fun _ => ?_) (fun c9 => absurd c9 (by decide +kernel))
  refine lv_iconst (v := (-1)) hx hb dX12_print_39 (by decide +kernel) ?_
  exact g_iret () hF hr rfl hlocks (hP.sub [] rfl) (hD.sub [] rfl rfl) hS rfl dX12_print_40 (Nat.le_of_ble_eq_true rfl) (Nat.le_of_ble_eq_true rfl)
set_option maxHeartbeats 8000000 in
set_option maxRecDepth 100000 in
theorem c_X12_printed {l : Launch} {D : va_G} {cI cB cS cZ cW : ClassId} {aM : Nat} {y0 : Int32} {y1 : Int32} {qM : Nat → Nat}  {sz : Nat} : MI l D (gT cI cB cS cZ cW) yX12_printed (wG yX12_printed cX12_printed 3 (some .int)) { frames := 1, cells := 0, slots := 0, locals := 22 } [.ref aM, .int y0, .int y1] [(aM, oM qM 0 0 0 0 0 0 0 0 0 0 0 0 0 0 0 0 0 0), ((qM 51), .inl (cI, 4, .inl (fun _ => 0)))] sz (fun (r : Int32) (u : Unit) => r = (-1)) (fun (u : Unit) => [] : (Unit) → va_W) 0 0 := by
  refine g_enter (y := yX12_printed) (w := (wG yX12_printed cX12_printed 3 (some .int))) (As := [.ref aM, .int y0, .int y1]) (D := D) (T := gT cI cB cS cZ cW) (ws := [(aM, oM qM 0 0 0 0 0 0 0 0 0 0 0 0 0 0 0 0 0 0), ((qM 51), .inl (cI, 4, .inl (fun _ => 0)))]) (gQi D (fun (r : Int32) (u : Unit) => r = (-1)) (fun (u : Unit) => [] : (Unit) → va_W)) (cc := cX12_printed) (maxL := 3) (ret := (some .int)) (by decide) rfl (Nat.le_of_ble_eq_true rfl) ?_
  intro p e s m below meth c A ls hF hr hlocks hname hsz hE hA hP hD hS hl
  have hF : CallFix p m c cX12_printed 3 s ([.ref aM, .int y0, .int y1] : List Value).toArray (wG yX12_printed cX12_printed 3 (some .int)) RX12 := hF
  obtain ⟨hx, hb, hml, hown, hts⟩ := id hF
  have htg : ∀ w ∈ GL, w.before ([.ref aM, .int y0, .int y1] : List Value).toArray s = true := fun w h => hts w (List.mem_cons_of_mem _ h)
  have hl : lv_has ls 3 [(0, .ref aM), (1, .int y0), (2, .int y1)] := hl
  have zm1 := tm_1
  have z0 := t_0
  have z1 := t_1
  refine lv_aload_n hx hb dX12_printed_0 rfl (lv_at hl 0 rfl) ?_
  refine lv_iconst (v := 0) hx hb dX12_printed_1 (by decide +kernel) ?_
  refine va_put (D := D) (ci := 12) (v := .int 0) (ty := tyX12 0) (C := RX12) (T := TX12) (N := 97) hx hb htg iwG_12 tyX12 tyX12_ok nmX12 hown hE.1 hP hD hS 0 rfl rfl 0 (by decide) (htg _ wm_588) (fun _ h9 => h9) rfl (by decide +kernel) rfl rfl (Nat.le_of_ble_eq_true rfl) dX12_printed_2 (fun H locs hP hD hS => ?_)
  have hP : va_P D vwCl [(aM, oM qM 0 0 0 0 0 0 0 0 0 0 0 0 0 0 0 0 0 0), ((qM 51), .inl (cI, 4, .inl (fun _ => 0)))] H := hP
  have hD : va_D A [(aM, oM qM 0 0 0 0 0 0 0 0 0 0 0 0 0 0 0 0 0 0), ((qM 51), .inl (cI, 4, .inl (fun _ => 0)))] := hD
  refine lv_iload_n hx hb dX12_printed_5 rfl (lv_at hl 1 rfl) ?_
  refine lv_iconst (v := 0) hx hb dX12_printed_6 (by decide +kernel) ?_
  refine lv_aload_n hx hb dX12_printed_7 rfl (lv_at hl 0 rfl) ?_
  refine va_get (D := D) (ci := 12) (v := .ref (qM 51)) (C := RX12) (T := TX12) (N := 97) hx hb htg iwG_12 hown hE.1 hP 0 rfl rfl 51 (by decide) (htg _ wm_519) (fun _ h9 => h9) rfl dX12_printed_8 ?_
  refine lv_iconst (v := 0) hx hb dX12_printed_11 (by decide +kernel) ?_
  refine va_iald hx hb hE.1 hP 1 0 rfl rfl (vp_in_iff.mpr ⟨by decide +kernel, by decide +kernel⟩) dX12_printed_12 ?_
  refine g_top 0 rfl ?_
  refine lv_iconst (v := 1) hx hb dX12_printed_13 (by decide +kernel) ?_
  refine lv_isub hx hb dX12_printed_14 ?_
  refine g_top (-1) (by decide +kernel) ?_
  refine g_ai (D := D) (wc := []) (wr := [(aM, oM qM 0 0 0 0 0 0 0 0 0 0 0 0 0 0 0 0 0 0), ((qM 51), .inl (cI, 4, .inl (fun _ => 0)))]) hP hD hS hA [] [0, 1] rfl rfl rfl rfl (by decide) (fun hPc hDc => va_runS (As := [.int y0, .int 0, .int (-1)]) (rest := []) hF (c_X12_in (l := l) (D := D) (cI := cI) (cB := cB) (cS := cS) (cZ := cZ) (cW := cW) (y0 := y0) (y1 := 0) (y2 := (-1))) (va_cwS 3 hts (gGS (fun _ h => List.mem_cons_of_mem _ h) wm_548 wm_549 wm_550 wm_551) rfl rfl rfl (by decide +kernel) ⟨Nat.le_of_ble_eq_true rfl, Nat.le_of_ble_eq_true rfl⟩) (g_preS hE hPc hDc) rfl rfl hl.1 rfl (lv_room (Nat.le_of_ble_eq_true rfl)) dX12_printed_15 ⟨Nat.le_of_ble_eq_true rfl, Nat.le_of_ble_eq_true rfl⟩) (fun r1 u2 H locs p3 hP hD hS => ?_)
  have hP : va_P D vwCl [(aM, oM qM 0 0 0 0 0 0 0 0 0 0 0 0 0 0 0 0 0 0), ((qM 51), .inl (cI, 4, .inl (fun _ => 0)))] H := hP
  have hD : va_D A [(aM, oM qM 0 0 0 0 0 0 0 0 0 0 0 0 0 0 0 0 0 0), ((qM 51), .inl (cI, 4, .inl (fun _ => 0)))] := hD
  rcases p3 with ⟨rfl, p3a⟩ | ⟨rfl, p3a⟩
  · exfalso; omega
  · skip
    refine lv_if_ne (tgt := 23) hx hb dX12_printed_18 (by decide) (fun c9 => absurd c9 (by decide +kernel)) (fun _ => ?_)
    refine lv_iconst (v := (-1)) hx hb dX12_printed_21 (by decide +kernel) ?_
    exact g_iret () hF hr rfl hlocks (hP.sub [] rfl) (hD.sub [] rfl rfl) hS rfl dX12_printed_22 (Nat.le_of_ble_eq_true rfl) (Nat.le_of_ble_eq_true rfl)
set_option maxHeartbeats 8000000 in
set_option maxRecDepth 100000 in
theorem c_X12_grant {l : Launch} {D : va_G} {cI cB cS cZ cW : ClassId} {aM : Nat} {y0 : Int32} {y1 : Int32} {y2 : Int32} {qM : Nat → Nat}  {sz : Nat} : MI l D (gT cI cB cS cZ cW) yX12_grant (wG yX12_grant cX12_grant 5 (some .int)) { frames := 2, cells := 0, slots := 0, locals := 43 } [.ref aM, .int y0, .int y1, .int y2] [(aM, oM qM 0 0 0 0 0 0 0 0 0 0 0 0 0 0 0 0 0 0), ((qM 6), .inl (cI, 4, .inl (fun _ => 0))), ((qM 56), .inl (cI, 4, .inl (fun _ => 0)))] sz (fun (r : Int32) (u : Unit) => r = (-1)) (fun (u : Unit) => [] : (Unit) → va_W) 0 0 := by
  refine g_enter (y := yX12_grant) (w := (wG yX12_grant cX12_grant 5 (some .int))) (As := [.ref aM, .int y0, .int y1, .int y2]) (D := D) (T := gT cI cB cS cZ cW) (ws := [(aM, oM qM 0 0 0 0 0 0 0 0 0 0 0 0 0 0 0 0 0 0), ((qM 6), .inl (cI, 4, .inl (fun _ => 0))), ((qM 56), .inl (cI, 4, .inl (fun _ => 0)))]) (gQi D (fun (r : Int32) (u : Unit) => r = (-1)) (fun (u : Unit) => [] : (Unit) → va_W)) (cc := cX12_grant) (maxL := 5) (ret := (some .int)) (by decide) rfl (Nat.le_of_ble_eq_true rfl) ?_
  intro p e s m below meth c A ls hF hr hlocks hname hsz hE hA hP hD hS hl
  have hF : CallFix p m c cX12_grant 5 s ([.ref aM, .int y0, .int y1, .int y2] : List Value).toArray (wG yX12_grant cX12_grant 5 (some .int)) RX12 := hF
  obtain ⟨hx, hb, hml, hown, hts⟩ := id hF
  have htg : ∀ w ∈ GL, w.before ([.ref aM, .int y0, .int y1, .int y2] : List Value).toArray s = true := fun w h => hts w (List.mem_cons_of_mem _ h)
  have hl : lv_has ls 5 [(0, .ref aM), (1, .int y0), (2, .int y1), (3, .int y2)] := hl
  have zm1 := tm_1
  have z0 := t_0
  have z8 := t_8
  refine lv_aload_n hx hb dX12_grant_0 rfl (lv_at hl 0 rfl) ?_
  refine lv_iconst (v := 0) hx hb dX12_grant_1 (by decide +kernel) ?_
  refine va_put (D := D) (ci := 12) (v := .int 0) (ty := tyX12 0) (C := RX12) (T := TX12) (N := 97) hx hb htg iwG_12 tyX12 tyX12_ok nmX12 hown hE.1 hP hD hS 0 rfl rfl 0 (by decide) (htg _ wm_588) (fun _ h9 => h9) rfl (by decide +kernel) rfl rfl (Nat.le_of_ble_eq_true rfl) dX12_grant_2 (fun H locs hP hD hS => ?_)
  have hP : va_P D vwCl [(aM, oM qM 0 0 0 0 0 0 0 0 0 0 0 0 0 0 0 0 0 0), ((qM 6), .inl (cI, 4, .inl (fun _ => 0))), ((qM 56), .inl (cI, 4, .inl (fun _ => 0)))] H := hP
  have hD : va_D A [(aM, oM qM 0 0 0 0 0 0 0 0 0 0 0 0 0 0 0 0 0 0), ((qM 6), .inl (cI, 4, .inl (fun _ => 0))), ((qM 56), .inl (cI, 4, .inl (fun _ => 0)))] := hD
  refine lv_aload_n hx hb dX12_grant_5 rfl (lv_at hl 0 rfl) ?_
  refine va_get (D := D) (ci := 12) (v := .ref (qM 56)) (C := RX12) (T := TX12) (N := 97) hx hb htg iwG_12 hown hE.1 hP 0 rfl rfl 56 (by decide) (htg _ wm_524) (fun _ h9 => h9) rfl dX12_grant_6 ?_
  refine lv_iconst (v := 0) hx hb dX12_grant_9 (by decide +kernel) ?_
  refine va_iald hx hb hE.1 hP 2 0 rfl rfl (vp_in_iff.mpr ⟨by decide +kernel, by decide +kernel⟩) dX12_grant_10 ?_
  refine g_top 0 rfl ?_
  refine lv_bipush (v := 8) hx hb dX12_grant_11 (by decide +kernel) ?_
  refine lv_icmp_eq (tgt := 41) hx hb dX12_grant_13 (by decide) (fun c9 => absurd c9 (by decide +kernel)) (fun _ => ?_)
  refine lv_aload_n hx hb dX12_grant_16 rfl (lv_at hl 0 rfl) ?_
  refine lv_iload_n hx hb dX12_grant_17 rfl (lv_at hl 1 rfl) ?_
  refine g_ai (D := D) (wc := [(aM, oM qM 0 0 0 0 0 0 0 0 0 0 0 0 0 0 0 0 0 0), ((qM 6), .inl (cI, 4, .inl (fun _ => 0)))]) (wr := [((qM 56), .inl (cI, 4, .inl (fun _ => 0)))]) hP hD hS hA [0, 1] [2] rfl rfl rfl rfl (by decide) (fun hPc hDc => va_runV (As := [.int y0]) (rest := []) hF (c_X12_isTongue (l := l) (D := D) (cI := cI) (cB := cB) (cS := cS) (cZ := cZ) (cW := cW) (aM := aM) (y0 := y0) (qM := qM)) (cwV 1 hts (gGV (fun _ h => List.mem_cons_of_mem _ h) wm_556 wm_557 wm_558 wm_550 wm_559) rfl rfl rfl (by decide +kernel) ⟨Nat.le_of_ble_eq_true rfl, Nat.le_of_ble_eq_true rfl⟩) (g_preV (q := (RX12, TX12, 97)) (ci := 12) (q0 := 0) hE hPc hDc rfl rfl) rfl rfl hl.1 rfl (lv_room (Nat.le_of_ble_eq_true rfl)) dX12_grant_18 ⟨Nat.le_of_ble_eq_true rfl, Nat.le_of_ble_eq_true rfl⟩) (fun r1 u2 H locs p3 hP hD hS => ?_)
  have hP : va_P D vwCl [((qM 56), .inl (cI, 4, .inl (fun _ => 0))), (aM, oM qM 0 0 0 0 0 0 0 0 0 0 0 0 0 0 0 0 0 0), ((qM 6), .inl (cI, 4, .inl (fun _ => 0)))] H := hP
  have hD : va_D A [((qM 56), .inl (cI, 4, .inl (fun _ => 0))), (aM, oM qM 0 0 0 0 0 0 0 0 0 0 0 0 0 0 0 0 0 0), ((qM 6), .inl (cI, 4, .inl (fun _ => 0)))] := hD
  obtain rfl := p3
  refine lv_if_eq (tgt := 41) hx hb dX12_grant_21 (by decide) (fun _ => ?_) (fun c9 => absurd c9 (by decide +kernel))
  refine lv_iconst (v := (-1)) hx hb dX12_grant_41 (by decide +kernel) ?_
  exact g_iret () hF hr rfl hlocks (hP.sub [] rfl) (hD.sub [] rfl rfl) hS rfl dX12_grant_42 (Nat.le_of_ble_eq_true rfl) (Nat.le_of_ble_eq_true rfl)
set_option maxHeartbeats 8000000 in
set_option maxRecDepth 100000 in
theorem c_X12_granted {l : Launch} {D : va_G} {cI cB cS cZ cW : ClassId} {aM : Nat} {y0 : Int32} {y1 : Int32} {qM : Nat → Nat}  {sz : Nat} : MI l D (gT cI cB cS cZ cW) yX12_granted (wG yX12_granted cX12_granted 5 (some .int)) { frames := 1, cells := 0, slots := 0, locals := 22 } [.ref aM, .int y0, .int y1] [(aM, oM qM 0 0 0 0 0 0 0 0 0 0 0 0 0 0 0 0 0 0), ((qM 56), .inl (cI, 4, .inl (fun _ => 0)))] sz (fun (r : Int32) (u : Unit) => r = (-1)) (fun (u : Unit) => [] : (Unit) → va_W) 0 0 := by
  refine g_enter (y := yX12_granted) (w := (wG yX12_granted cX12_granted 5 (some .int))) (As := [.ref aM, .int y0, .int y1]) (D := D) (T := gT cI cB cS cZ cW) (ws := [(aM, oM qM 0 0 0 0 0 0 0 0 0 0 0 0 0 0 0 0 0 0), ((qM 56), .inl (cI, 4, .inl (fun _ => 0)))]) (gQi D (fun (r : Int32) (u : Unit) => r = (-1)) (fun (u : Unit) => [] : (Unit) → va_W)) (cc := cX12_granted) (maxL := 5) (ret := (some .int)) (by decide) rfl (Nat.le_of_ble_eq_true rfl) ?_
  intro p e s m below meth c A ls hF hr hlocks hname hsz hE hA hP hD hS hl
  have hF : CallFix p m c cX12_granted 5 s ([.ref aM, .int y0, .int y1] : List Value).toArray (wG yX12_granted cX12_granted 5 (some .int)) RX12 := hF
  obtain ⟨hx, hb, hml, hown, hts⟩ := id hF
  have htg : ∀ w ∈ GL, w.before ([.ref aM, .int y0, .int y1] : List Value).toArray s = true := fun w h => hts w (List.mem_cons_of_mem _ h)
  have hl : lv_has ls 5 [(0, .ref aM), (1, .int y0), (2, .int y1)] := hl
  have zm1 := tm_1
  have z0 := t_0
  have z1 := t_1
  refine lv_aload_n hx hb dX12_granted_0 rfl (lv_at hl 0 rfl) ?_
  refine lv_iconst (v := 0) hx hb dX12_granted_1 (by decide +kernel) ?_
  refine va_put (D := D) (ci := 12) (v := .int 0) (ty := tyX12 0) (C := RX12) (T := TX12) (N := 97) hx hb htg iwG_12 tyX12 tyX12_ok nmX12 hown hE.1 hP hD hS 0 rfl rfl 0 (by decide) (htg _ wm_588) (fun _ h9 => h9) rfl (by decide +kernel) rfl rfl (Nat.le_of_ble_eq_true rfl) dX12_granted_2 (fun H locs hP hD hS => ?_)
  have hP : va_P D vwCl [(aM, oM qM 0 0 0 0 0 0 0 0 0 0 0 0 0 0 0 0 0 0), ((qM 56), .inl (cI, 4, .inl (fun _ => 0)))] H := hP
  have hD : va_D A [(aM, oM qM 0 0 0 0 0 0 0 0 0 0 0 0 0 0 0 0 0 0), ((qM 56), .inl (cI, 4, .inl (fun _ => 0)))] := hD
  refine lv_iload_n hx hb dX12_granted_5 rfl (lv_at hl 1 rfl) ?_
  refine lv_iconst (v := 0) hx hb dX12_granted_6 (by decide +kernel) ?_
  refine lv_aload_n hx hb dX12_granted_7 rfl (lv_at hl 0 rfl) ?_
  refine va_get (D := D) (ci := 12) (v := .ref (qM 56)) (C := RX12) (T := TX12) (N := 97) hx hb htg iwG_12 hown hE.1 hP 0 rfl rfl 56 (by decide) (htg _ wm_524) (fun _ h9 => h9) rfl dX12_granted_8 ?_
  refine lv_iconst (v := 0) hx hb dX12_granted_11 (by decide +kernel) ?_
  refine va_iald hx hb hE.1 hP 1 0 rfl rfl (vp_in_iff.mpr ⟨by decide +kernel, by decide +kernel⟩) dX12_granted_12 ?_
  refine g_top 0 rfl ?_
  refine lv_iconst (v := 1) hx hb dX12_granted_13 (by decide +kernel) ?_
  refine lv_isub hx hb dX12_granted_14 ?_
  refine g_top (-1) (by decide +kernel) ?_
  refine g_ai (D := D) (wc := []) (wr := [(aM, oM qM 0 0 0 0 0 0 0 0 0 0 0 0 0 0 0 0 0 0), ((qM 56), .inl (cI, 4, .inl (fun _ => 0)))]) hP hD hS hA [] [0, 1] rfl rfl rfl rfl (by decide) (fun hPc hDc => va_runS (As := [.int y0, .int 0, .int (-1)]) (rest := []) hF (c_X12_in (l := l) (D := D) (cI := cI) (cB := cB) (cS := cS) (cZ := cZ) (cW := cW) (y0 := y0) (y1 := 0) (y2 := (-1))) (va_cwS 3 hts (gGS (fun _ h => List.mem_cons_of_mem _ h) wm_548 wm_549 wm_550 wm_551) rfl rfl rfl (by decide +kernel) ⟨Nat.le_of_ble_eq_true rfl, Nat.le_of_ble_eq_true rfl⟩) (g_preS hE hPc hDc) rfl rfl hl.1 rfl (lv_room (Nat.le_of_ble_eq_true rfl)) dX12_granted_15 ⟨Nat.le_of_ble_eq_true rfl, Nat.le_of_ble_eq_true rfl⟩) (fun r1 u2 H locs p3 hP hD hS => ?_)
  have hP : va_P D vwCl [(aM, oM qM 0 0 0 0 0 0 0 0 0 0 0 0 0 0 0 0 0 0), ((qM 56), .inl (cI, 4, .inl (fun _ => 0)))] H := hP
  have hD : va_D A [(aM, oM qM 0 0 0 0 0 0 0 0 0 0 0 0 0 0 0 0 0 0), ((qM 56), .inl (cI, 4, .inl (fun _ => 0)))] := hD
  rcases p3 with ⟨rfl, p3a⟩ | ⟨rfl, p3a⟩
  · exfalso; omega
  · skip
    refine lv_if_eq (tgt := 30) hx hb dX12_granted_18 (by decide) (fun _ => ?_) (fun c9 => absurd c9 (by decide +kernel))
    refine lv_iconst (v := (-1)) hx hb dX12_granted_30 (by decide +kernel) ?_
    exact g_iret () hF hr rfl hlocks (hP.sub [] rfl) (hD.sub [] rfl rfl) hS rfl dX12_granted_31 (Nat.le_of_ble_eq_true rfl) (Nat.le_of_ble_eq_true rfl)
