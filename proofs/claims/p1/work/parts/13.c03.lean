set_option maxHeartbeats 8000000 in
set_option maxRecDepth 100000 in
theorem c_X9_setField {l : Launch} {D : va_G} {cI cB cS cZ cW : ClassId} {aT : Nat} {y0 : Int32} {y1 : Int32} {qT : Nat → Nat}  {sz : Nat} : MI l D (gT cI cB cS cZ cW) yX9_setField (wG yX9_setField cX9_setField 3 (some .boolean)) { frames := 1, cells := 0, slots := 0, locals := 22 } [.ref aT, .int y0, .int y1] [(aT, .inr (9, [.int 0, .ref (qT 1), .ref (qT 2), .ref (qT 3), .ref (qT 4), .ref (qT 5), .ref (qT 6), .ref (qT 7), .ref (qT 8)])), ((qT 8), .inl (cI, 24, .inl (fun _ => 0)))] sz (fun (r : Int32) (u : Unit) => r = S_field y0 y1) (fun (u : Unit) => [] : (Unit) → va_W) 0 0 := by
  refine g_enter (y := yX9_setField) (w := (wG yX9_setField cX9_setField 3 (some .boolean))) (As := [.ref aT, .int y0, .int y1]) (D := D) (T := gT cI cB cS cZ cW) (ws := [(aT, .inr (9, [.int 0, .ref (qT 1), .ref (qT 2), .ref (qT 3), .ref (qT 4), .ref (qT 5), .ref (qT 6), .ref (qT 7), .ref (qT 8)])), ((qT 8), .inl (cI, 24, .inl (fun _ => 0)))]) (gQi D (fun (r : Int32) (u : Unit) => r = S_field y0 y1) (fun (u : Unit) => [] : (Unit) → va_W)) (cc := cX9_setField) (maxL := 3) (ret := (some .boolean)) (by decide) rfl (Nat.le_of_ble_eq_true rfl) ?_
  intro p e s m below meth c A ls hF hr hlocks hname hsz hE hA hP hD hS hl
  have hF : CallFix p m c cX9_setField 3 s ([.ref aT, .int y0, .int y1] : List Value).toArray (wG yX9_setField cX9_setField 3 (some .boolean)) RX9 := hF
  obtain ⟨hx, hb, hml, hown, hts⟩ := id hF
  have htg : ∀ w ∈ GL, w.before ([.ref aT, .int y0, .int y1] : List Value).toArray s = true := fun w h => hts w (List.mem_cons_of_mem _ h)
  have hl : lv_has ls 3 [(0, .ref aT), (1, .int y0), (2, .int y1)] := hl
  have z0 := t_0
  have z1 := t_1
  have z3 := t_3
  have z23 := t_23
  refine lv_iload_n hx hb dX9_setField_0 rfl (lv_at hl 1 rfl) ?_
  refine lv_iconst (v := 0) hx hb dX9_setField_1 (by decide +kernel) ?_
  refine lv_bipush (v := 23) hx hb dX9_setField_2 (by decide +kernel) ?_
  refine g_ai (D := D) (wc := []) (wr := [(aT, .inr (9, [.int 0, .ref (qT 1), .ref (qT 2), .ref (qT 3), .ref (qT 4), .ref (qT 5), .ref (qT 6), .ref (qT 7), .ref (qT 8)])), ((qT 8), .inl (cI, 24, .inl (fun _ => 0)))]) hP hD hS hA [] [0, 1] rfl rfl rfl rfl (by decide) (fun hPc hDc => va_runSN (As := [.int y0, .int 0, .int 23]) (rest := []) hF (c_X11_within (l := l) (D := D) (cI := cI) (cB := cB) (cS := cS) (cZ := cZ) (cW := cW) (y0 := y0) (y1 := 0) (y2 := 23)) ⟨(va_cnB (host := "LastTongue") 3 hts (gGI (fun _ h => List.mem_cons_of_mem _ h) wm_150) rfl rfl rfl (hE.2.1 (RX9, 54, yX11_within, "LastTongue") (List.mem_of_getElem? (i := 4) rfl)) (htg _ wm_151) (by decide +kernel) ⟨Nat.le_of_ble_eq_true rfl, Nat.le_of_ble_eq_true rfl⟩), (htg _ wm_152), trivial⟩ (g_preS hE hPc hDc) rfl rfl hl.1 rfl (lv_room (Nat.le_of_ble_eq_true rfl)) dX9_setField_4 ⟨Nat.le_of_ble_eq_true rfl, Nat.le_of_ble_eq_true rfl⟩) (fun r1 u2 H locs p3 hP hD hS => ?_)
  have hP : va_P D vwCl [(aT, .inr (9, [.int 0, .ref (qT 1), .ref (qT 2), .ref (qT 3), .ref (qT 4), .ref (qT 5), .ref (qT 6), .ref (qT 7), .ref (qT 8)])), ((qT 8), .inl (cI, 24, .inl (fun _ => 0)))] H := hP
  have hD : va_D A [(aT, .inr (9, [.int 0, .ref (qT 1), .ref (qT 2), .ref (qT 3), .ref (qT 4), .ref (qT 5), .ref (qT 6), .ref (qT 7), .ref (qT 8)])), ((qT 8), .inl (cI, 24, .inl (fun _ => 0)))] := hD
  rcases p3 with ⟨rfl, p3a⟩ | ⟨rfl, p3a⟩
  · skip
    refine lv_if_eq (tgt := 19) hx hb dX9_setField_7 (by decide) (fun c9 => absurd c9 (by decide +kernel)) (fun _ => ?_)
    refine lv_iload_n hx hb dX9_setField_10 rfl (lv_at hl 2 rfl) ?_
    refine lv_iconst (v := 0) hx hb dX9_setField_11 (by decide +kernel) ?_
    refine lv_iconst (v := 3) hx hb dX9_setField_12 (by decide +kernel) ?_
    refine g_ai (D := D) (wc := []) (wr := [(aT, .inr (9, [.int 0, .ref (qT 1), .ref (qT 2), .ref (qT 3), .ref (qT 4), .ref (qT 5), .ref (qT 6), .ref (qT 7), .ref (qT 8)])), ((qT 8), .inl (cI, 24, .inl (fun _ => 0)))]) hP hD hS hA [] [0, 1] rfl rfl rfl rfl (by decide) (fun hPc hDc => va_runSN (As := [.int y1, .int 0, .int 3]) (rest := []) hF (c_X11_within (l := l) (D := D) (cI := cI) (cB := cB) (cS := cS) (cZ := cZ) (cW := cW) (y0 := y1) (y1 := 0) (y2 := 3)) ⟨(va_cnB (host := "LastTongue") 3 hts (gGI (fun _ h => List.mem_cons_of_mem _ h) wm_150) rfl rfl rfl (hE.2.1 (RX9, 54, yX11_within, "LastTongue") (List.mem_of_getElem? (i := 4) rfl)) (htg _ wm_151) (by decide +kernel) ⟨Nat.le_of_ble_eq_true rfl, Nat.le_of_ble_eq_true rfl⟩), (htg _ wm_152), trivial⟩ (g_preS hE hPc hDc) rfl rfl hl.1 rfl (lv_room (Nat.le_of_ble_eq_true rfl)) dX9_setField_13 ⟨Nat.le_of_ble_eq_true rfl, Nat.le_of_ble_eq_true rfl⟩) (fun r4 u5 H locs p6 hP hD hS => ?_)
    have hP : va_P D vwCl [(aT, .inr (9, [.int 0, .ref (qT 1), .ref (qT 2), .ref (qT 3), .ref (qT 4), .ref (qT 5), .ref (qT 6), .ref (qT 7), .ref (qT 8)])), ((qT 8), .inl (cI, 24, .inl (fun _ => 0)))] H := hP
    have hD : va_D A [(aT, .inr (9, [.int 0, .ref (qT 1), .ref (qT 2), .ref (qT 3), .ref (qT 4), .ref (qT 5), .ref (qT 6), .ref (qT 7), .ref (qT 8)])), ((qT 8), .inl (cI, 24, .inl (fun _ => 0)))] := hD
    rcases p6 with ⟨rfl, p6a⟩ | ⟨rfl, p6a⟩
    · skip
      refine lv_if_ne (tgt := 21) hx hb dX9_setField_16 (by decide) (fun _ => ?_) (fun c9 => absurd c9 (by decide +kernel))
      refine lv_aload_n hx hb dX9_setField_21 rfl (lv_at hl 0 rfl) ?_
      refine va_get (D := D) (ci := 9) (v := .ref (qT 8)) (C := RX9) (T := TX9) (N := 9) hx hb htg iwG_9 hown hE.1 hP 0 rfl rfl 8 (by decide) (htg _ wm_12) (fun _ h9 => h9) rfl dX9_setField_22 ?_
      refine lv_iload_n hx hb dX9_setField_25 rfl (lv_at hl 1 rfl) ?_
      refine lv_iload_n hx hb dX9_setField_26 rfl (lv_at hl 2 rfl) ?_
      refine va_iast hx hb hE.1 hP hD hS 1 0 rfl rfl (vp_in_iff.mpr ⟨by omega, by omega⟩) dX9_setField_27 (fun H locs hP hD hS => ?_)
      obtain ⟨g7, eg7⟩ : ∃ gz : Nat → Int32, gz = upd (fun _ => 0) (y0 : Int32).toNatClampNeg y1 := ⟨_, rfl⟩
      have hP : va_P D vwCl [(aT, .inr (9, [.int 0, .ref (qT 1), .ref (qT 2), .ref (qT 3), .ref (qT 4), .ref (qT 5), .ref (qT 6), .ref (qT 7), .ref (qT 8)])), ((qT 8), .inl (cI, 24, .inl g7))] H := by rw [eg7]; exact hP
      have hD : va_D A [(aT, .inr (9, [.int 0, .ref (qT 1), .ref (qT 2), .ref (qT 3), .ref (qT 4), .ref (qT 5), .ref (qT 6), .ref (qT 7), .ref (qT 8)])), ((qT 8), .inl (cI, 24, .inl g7))] := by rw [eg7]; exact hD
      refine lv_iconst (v := 1) hx hb dX9_setField_28 (by decide +kernel) ?_
      exact g_iret () hF hr rfl hlocks (hP.sub [] rfl) (hD.sub [] rfl rfl) hS (by show (_ : Int32) = _; unfold S_field; (repeat' split) <;> first | rfl | (exfalso; omega) | omega) dX9_setField_29 (Nat.le_of_ble_eq_true rfl) (Nat.le_of_ble_eq_true rfl)
    · skip
      refine lv_if_ne (tgt := 21) hx hb dX9_setField_16 (by decide) (fun c9 => absurd c9 (by decide +kernel)) (fun _ => ?_)
      refine lv_iconst (v := 0) hx hb dX9_setField_19 (by decide +kernel) ?_
      exact g_iret () hF hr rfl hlocks (hP.sub [] rfl) (hD.sub [] rfl rfl) hS (by show (_ : Int32) = _; unfold S_field; (repeat' split) <;> first | rfl | (exfalso; omega) | omega) dX9_setField_20 (Nat.le_of_ble_eq_true rfl) (Nat.le_of_ble_eq_true rfl)
  · skip
    refine lv_if_eq (tgt := 19) hx hb dX9_setField_7 (by decide) (fun _ => ?_) (fun c9 => absurd c9 (by decide +kernel))
    refine lv_iconst (v := 0) hx hb dX9_setField_19 (by decide +kernel) ?_
    exact g_iret () hF hr rfl hlocks (hP.sub [] rfl) (hD.sub [] rfl rfl) hS (by show (_ : Int32) = _; unfold S_field; (repeat' split) <;> first | rfl | (exfalso; omega) | omega) dX9_setField_20 (Nat.le_of_ble_eq_true rfl) (Nat.le_of_ble_eq_true rfl)
set_option maxHeartbeats 8000000 in
set_option maxRecDepth 100000 in
theorem c_X9_setCost {l : Launch} {D : va_G} {cI cB cS cZ cW : ClassId} {aT : Nat} {y0 : Int32} {y1 : Int32} {qT : Nat → Nat}  {sz : Nat} : MI l D (gT cI cB cS cZ cW) yX9_setCost (wG yX9_setCost cX9_setCost 3 (some .boolean)) { frames := 1, cells := 0, slots := 0, locals := 21 } [.ref aT, .int y0, .int y1] [(aT, .inr (9, [.int 0, .ref (qT 1), .ref (qT 2), .ref (qT 3), .ref (qT 4), .ref (qT 5), .ref (qT 6), .ref (qT 7), .ref (qT 8)]))] sz (fun (r : Int32) (u : Unit) => r = 0) (fun (u : Unit) => [] : (Unit) → va_W) 0 0 := by
  refine g_enter (y := yX9_setCost) (w := (wG yX9_setCost cX9_setCost 3 (some .boolean))) (As := [.ref aT, .int y0, .int y1]) (D := D) (T := gT cI cB cS cZ cW) (ws := [(aT, .inr (9, [.int 0, .ref (qT 1), .ref (qT 2), .ref (qT 3), .ref (qT 4), .ref (qT 5), .ref (qT 6), .ref (qT 7), .ref (qT 8)]))]) (gQi D (fun (r : Int32) (u : Unit) => r = 0) (fun (u : Unit) => [] : (Unit) → va_W)) (cc := cX9_setCost) (maxL := 3) (ret := (some .boolean)) (by decide) rfl (Nat.le_of_ble_eq_true rfl) ?_
  intro p e s m below meth c A ls hF hr hlocks hname hsz hE hA hP hD hS hl
  have hF : CallFix p m c cX9_setCost 3 s ([.ref aT, .int y0, .int y1] : List Value).toArray (wG yX9_setCost cX9_setCost 3 (some .boolean)) RX9 := hF
  obtain ⟨hx, hb, hml, hown, hts⟩ := id hF
  have htg : ∀ w ∈ GL, w.before ([.ref aT, .int y0, .int y1] : List Value).toArray s = true := fun w h => hts w (List.mem_cons_of_mem _ h)
  have hl : lv_has ls 3 [(0, .ref aT), (1, .int y0), (2, .int y1)] := hl
  have z0 := t_0
  refine lv_aload_n hx hb dX9_setCost_0 rfl (lv_at hl 0 rfl) ?_
  refine lv_iload_n hx hb dX9_setCost_1 rfl (lv_at hl 1 rfl) ?_
  refine g_ai (D := D) (wc := [(aT, .inr (9, [.int 0, .ref (qT 1), .ref (qT 2), .ref (qT 3), .ref (qT 4), .ref (qT 5), .ref (qT 6), .ref (qT 7), .ref (qT 8)]))]) (wr := []) hP hD hS hA [0] [] rfl rfl rfl rfl (by decide) (fun hPc hDc => va_runV (As := [.int y0]) (rest := []) hF (c_X9_has (l := l) (D := D) (cI := cI) (cB := cB) (cS := cS) (cZ := cZ) (cW := cW) (aT := aT) (y0 := y0) (qT := qT)) (cwV 1 hts (gGV (fun _ h => List.mem_cons_of_mem _ h) wm_130 wm_131 wm_132 wm_75 wm_133) rfl rfl rfl (by decide +kernel) ⟨Nat.le_of_ble_eq_true rfl, Nat.le_of_ble_eq_true rfl⟩) (g_preV (q := (RX9, TX9, 9)) (ci := 9) (q0 := 0) hE hPc hDc rfl rfl) rfl rfl hl.1 rfl (lv_room (Nat.le_of_ble_eq_true rfl)) dX9_setCost_2 ⟨Nat.le_of_ble_eq_true rfl, Nat.le_of_ble_eq_true rfl⟩) (fun r1 u2 H locs p3 hP hD hS => ?_)
  have hP : va_P D vwCl [(aT, .inr (9, [.int 0, .ref (qT 1), .ref (qT 2), .ref (qT 3), .ref (qT 4), .ref (qT 5), .ref (qT 6), .ref (qT 7), .ref (qT 8)]))] H := hP
  have hD : va_D A [(aT, .inr (9, [.int 0, .ref (qT 1), .ref (qT 2), .ref (qT 3), .ref (qT 4), .ref (qT 5), .ref (qT 6), .ref (qT 7), .ref (qT 8)]))] := hD
  obtain rfl := p3
  refine lv_if_eq (tgt := 19) hx hb dX9_setCost_5 (by decide) (fun _ => ?_) (fun c9 => absurd c9 (by decide +kernel))
  refine lv_iconst (v := 0) hx hb dX9_setCost_19 (by decide +kernel) ?_
  exact g_iret () hF hr rfl hlocks (hP.sub [] rfl) (hD.sub [] rfl rfl) hS rfl dX9_setCost_20 (Nat.le_of_ble_eq_true rfl) (Nat.le_of_ble_eq_true rfl)
set_option maxHeartbeats 8000000 in
set_option maxRecDepth 100000 in
theorem c_X6_has {l : Launch} {D : va_G} {cI cB cS cZ cW : ClassId} {aP : Nat} {y0 : Int32} {qP : Nat → Nat}  {sz : Nat} : MI l D (gT cI cB cS cZ cW) yX6_has (wG yX6_has cX6_has 2 (some .boolean)) { frames := 0, cells := 0, slots := 0, locals := 0 } [.ref aP, .int y0] [(aP, .inr (6, [.int 0, .ref (qP 1), .ref (qP 2), .ref (qP 3), .ref (qP 4), .ref (qP 5), .ref (qP 6), .ref (qP 7), .ref (qP 8), .ref (qP 9), .ref (qP 10), .ref (qP 11), .ref (qP 12), .ref (qP 13), .ref (qP 14)]))] sz (fun (r : Int32) (u : Unit) => r = 0) (fun (u : Unit) => [(aP, .inr (6, [.int 0, .ref (qP 1), .ref (qP 2), .ref (qP 3), .ref (qP 4), .ref (qP 5), .ref (qP 6), .ref (qP 7), .ref (qP 8), .ref (qP 9), .ref (qP 10), .ref (qP 11), .ref (qP 12), .ref (qP 13), .ref (qP 14)]))] : (Unit) → va_W) 0 0 := by
  refine g_enter (y := yX6_has) (w := (wG yX6_has cX6_has 2 (some .boolean))) (As := [.ref aP, .int y0]) (D := D) (T := gT cI cB cS cZ cW) (ws := [(aP, .inr (6, [.int 0, .ref (qP 1), .ref (qP 2), .ref (qP 3), .ref (qP 4), .ref (qP 5), .ref (qP 6), .ref (qP 7), .ref (qP 8), .ref (qP 9), .ref (qP 10), .ref (qP 11), .ref (qP 12), .ref (qP 13), .ref (qP 14)]))]) (gQi D (fun (r : Int32) (u : Unit) => r = 0) (fun (u : Unit) => [(aP, .inr (6, [.int 0, .ref (qP 1), .ref (qP 2), .ref (qP 3), .ref (qP 4), .ref (qP 5), .ref (qP 6), .ref (qP 7), .ref (qP 8), .ref (qP 9), .ref (qP 10), .ref (qP 11), .ref (qP 12), .ref (qP 13), .ref (qP 14)]))] : (Unit) → va_W)) (cc := cX6_has) (maxL := 2) (ret := (some .boolean)) (by decide) rfl (Nat.le_of_ble_eq_true rfl) ?_
  intro p e s m below meth c A ls hF hr hlocks hname hsz hE hA hP hD hS hl
  have hF : CallFix p m c cX6_has 2 s ([.ref aP, .int y0] : List Value).toArray (wG yX6_has cX6_has 2 (some .boolean)) RX6 := hF
  obtain ⟨hx, hb, hml, hown, hts⟩ := id hF
  have htg : ∀ w ∈ GL, w.before ([.ref aP, .int y0] : List Value).toArray s = true := fun w h => hts w (List.mem_cons_of_mem _ h)
  have hl : lv_has ls 2 [(0, .ref aP), (1, .int y0)] := hl
  have z0 := t_0
  refine lv_iload_n hx hb dX6_has_0 rfl (lv_at hl 1 rfl) ?_
  refine lv_if_lt (tgt := 16) hx hb dX6_has_1 (by decide) (fun c1 => ?_) (fun c1 => ?_)
  · rw [i_lt] at c1
    refine lv_iconst (v := 0) hx hb dX6_has_16 (by decide +kernel) ?_
    exact g_iret () hF hr rfl hlocks (hP.sub [0] rfl) (hD.sub [0] rfl rfl) hS rfl dX6_has_17 (Nat.le_of_ble_eq_true rfl) (Nat.le_of_ble_eq_true rfl)
  · rw [i_lt] at c1
    refine lv_iload_n hx hb dX6_has_4 rfl (lv_at hl 1 rfl) ?_
    refine lv_aload_n hx hb dX6_has_5 rfl (lv_at hl 0 rfl) ?_
    refine va_get (D := D) (ci := 6) (v := .int 0) (C := RX6) (T := TX6) (N := 15) hx hb htg iwG_6 hown hE.1 hP 0 rfl rfl 0 (by decide) (htg _ wm_14) (fun _ h9 => h9) rfl dX6_has_6 ?_
    refine lv_icmp_ge (tgt := 16) hx hb dX6_has_9 (by decide) (fun _ => ?_) (fun c9 => absurd (i_le.mpr (by omega)) c9)
    refine lv_iconst (v := 0) hx hb dX6_has_16 (by decide +kernel) ?_
    exact g_iret () hF hr rfl hlocks (hP.sub [0] rfl) (hD.sub [0] rfl rfl) hS rfl dX6_has_17 (Nat.le_of_ble_eq_true rfl) (Nat.le_of_ble_eq_true rfl)
set_option maxHeartbeats 8000000 in
set_option maxRecDepth 100000 in
theorem c_X6_isAlive {l : Launch} {D : va_G} {cI cB cS cZ cW : ClassId} {aP : Nat} {y0 : Int32} {qP : Nat → Nat}  {sz : Nat} : MI l D (gT cI cB cS cZ cW) yX6_isAlive (wG yX6_isAlive cX6_isAlive 2 (some .boolean)) { frames := 0, cells := 0, slots := 0, locals := 0 } [.ref aP, .int y0] [(aP, .inr (6, [.int 0, .ref (qP 1), .ref (qP 2), .ref (qP 3), .ref (qP 4), .ref (qP 5), .ref (qP 6), .ref (qP 7), .ref (qP 8), .ref (qP 9), .ref (qP 10), .ref (qP 11), .ref (qP 12), .ref (qP 13), .ref (qP 14)]))] sz (fun (r : Int32) (u : Unit) => r = 0) (fun (u : Unit) => [(aP, .inr (6, [.int 0, .ref (qP 1), .ref (qP 2), .ref (qP 3), .ref (qP 4), .ref (qP 5), .ref (qP 6), .ref (qP 7), .ref (qP 8), .ref (qP 9), .ref (qP 10), .ref (qP 11), .ref (qP 12), .ref (qP 13), .ref (qP 14)]))] : (Unit) → va_W) 0 0 := by
  refine g_enter (y := yX6_isAlive) (w := (wG yX6_isAlive cX6_isAlive 2 (some .boolean))) (As := [.ref aP, .int y0]) (D := D) (T := gT cI cB cS cZ cW) (ws := [(aP, .inr (6, [.int 0, .ref (qP 1), .ref (qP 2), .ref (qP 3), .ref (qP 4), .ref (qP 5), .ref (qP 6), .ref (qP 7), .ref (qP 8), .ref (qP 9), .ref (qP 10), .ref (qP 11), .ref (qP 12), .ref (qP 13), .ref (qP 14)]))]) (gQi D (fun (r : Int32) (u : Unit) => r = 0) (fun (u : Unit) => [(aP, .inr (6, [.int 0, .ref (qP 1), .ref (qP 2), .ref (qP 3), .ref (qP 4), .ref (qP 5), .ref (qP 6), .ref (qP 7), .ref (qP 8), .ref (qP 9), .ref (qP 10), .ref (qP 11), .ref (qP 12), .ref (qP 13), .ref (qP 14)]))] : (Unit) → va_W)) (cc := cX6_isAlive) (maxL := 2) (ret := (some .boolean)) (by decide) rfl (Nat.le_of_ble_eq_true rfl) ?_
  intro p e s m below meth c A ls hF hr hlocks hname hsz hE hA hP hD hS hl
  have hF : CallFix p m c cX6_isAlive 2 s ([.ref aP, .int y0] : List Value).toArray (wG yX6_isAlive cX6_isAlive 2 (some .boolean)) RX6 := hF
  obtain ⟨hx, hb, hml, hown, hts⟩ := id hF
  have htg : ∀ w ∈ GL, w.before ([.ref aP, .int y0] : List Value).toArray s = true := fun w h => hts w (List.mem_cons_of_mem _ h)
  have hl : lv_has ls 2 [(0, .ref aP), (1, .int y0)] := hl
  have z0 := t_0
  refine lv_iload_n hx hb dX6_isAlive_0 rfl (lv_at hl 1 rfl) ?_
  refine lv_if_lt (tgt := 26) hx hb dX6_isAlive_1 (by decide) (fun c1 => ?_) (fun c1 => ?_)
  · rw [i_lt] at c1
    refine lv_iconst (v := 0) hx hb dX6_isAlive_26 (by decide +kernel) ?_
    exact g_iret () hF hr rfl hlocks (hP.sub [0] rfl) (hD.sub [0] rfl rfl) hS rfl dX6_isAlive_27 (Nat.le_of_ble_eq_true rfl) (Nat.le_of_ble_eq_true rfl)
  · rw [i_lt] at c1
    refine lv_iload_n hx hb dX6_isAlive_4 rfl (lv_at hl 1 rfl) ?_
    refine lv_aload_n hx hb dX6_isAlive_5 rfl (lv_at hl 0 rfl) ?_
    refine va_get (D := D) (ci := 6) (v := .int 0) (C := RX6) (T := TX6) (N := 15) hx hb htg iwG_6 hown hE.1 hP 0 rfl rfl 0 (by decide) (htg _ wm_14) (fun _ h9 => h9) rfl dX6_isAlive_6 ?_
    refine lv_icmp_ge (tgt := 26) hx hb dX6_isAlive_9 (by decide) (fun _ => ?_) (fun c9 => absurd (i_le.mpr (by omega)) c9)
    refine lv_iconst (v := 0) hx hb dX6_isAlive_26 (by decide +kernel) ?_
    exact g_iret () hF hr rfl hlocks (hP.sub [0] rfl) (hD.sub [0] rfl rfl) hS rfl dX6_isAlive_27 (Nat.le_of_ble_eq_true rfl) (Nat.le_of_ble_eq_true rfl)
set_option maxHeartbeats 8000000 in
set_option maxRecDepth 100000 in
theorem c_X6_isWorker {l : Launch} {D : va_G} {cI cB cS cZ cW : ClassId} {aP : Nat} {y0 : Int32} {qP : Nat → Nat}  {sz : Nat} : MI l D (gT cI cB cS cZ cW) yX6_isWorker (wG yX6_isWorker cX6_isWorker 2 (some .boolean)) { frames := 1, cells := 0, slots := 0, locals := 21 } [.ref aP, .int y0] [(aP, .inr (6, [.int 0, .ref (qP 1), .ref (qP 2), .ref (qP 3), .ref (qP 4), .ref (qP 5), .ref (qP 6), .ref (qP 7), .ref (qP 8), .ref (qP 9), .ref (qP 10), .ref (qP 11), .ref (qP 12), .ref (qP 13), .ref (qP 14)]))] sz (fun (r : Int32) (u : Unit) => r = 0) (fun (u : Unit) => [(aP, .inr (6, [.int 0, .ref (qP 1), .ref (qP 2), .ref (qP 3), .ref (qP 4), .ref (qP 5), .ref (qP 6), .ref (qP 7), .ref (qP 8), .ref (qP 9), .ref (qP 10), .ref (qP 11), .ref (qP 12), .ref (qP 13), .ref (qP 14)]))] : (Unit) → va_W) 0 0 := by
  refine g_enter (y := yX6_isWorker) (w := (wG yX6_isWorker cX6_isWorker 2 (some .boolean))) (As := [.ref aP, .int y0]) (D := D) (T := gT cI cB cS cZ cW) (ws := [(aP, .inr (6, [.int 0, .ref (qP 1), .ref (qP 2), .ref (qP 3), .ref (qP 4), .ref (qP 5), .ref (qP 6), .ref (qP 7), .ref (qP 8), .ref (qP 9), .ref (qP 10), .ref (qP 11), .ref (qP 12), .ref (qP 13), .ref (qP 14)]))]) (gQi D (fun (r : Int32) (u : Unit) => r = 0) (fun (u : Unit) => [(aP, .inr (6, [.int 0, .ref (qP 1), .ref (qP 2), .ref (qP 3), .ref (qP 4), .ref (qP 5), .ref (qP 6), .ref (qP 7), .ref (qP 8), .ref (qP 9), .ref (qP 10), .ref (qP 11), .ref (qP 12), .ref (qP 13), .ref (qP 14)]))] : (Unit) → va_W)) (cc := cX6_isWorker) (maxL := 2) (ret := (some .boolean)) (by decide) rfl (Nat.le_of_ble_eq_true rfl) ?_
  intro p e s m below meth c A ls hF hr hlocks hname hsz hE hA hP hD hS hl
  have hF : CallFix p m c cX6_isWorker 2 s ([.ref aP, .int y0] : List Value).toArray (wG yX6_isWorker cX6_isWorker 2 (some .boolean)) RX6 := hF
  obtain ⟨hx, hb, hml, hown, hts⟩ := id hF
  have htg : ∀ w ∈ GL, w.before ([.ref aP, .int y0] : List Value).toArray s = true := fun w h => hts w (List.mem_cons_of_mem _ h)
  have hl : lv_has ls 2 [(0, .ref aP), (1, .int y0)] := hl
  have z0 := t_0
  refine lv_aload_n hx hb dX6_isWorker_0 rfl (lv_at hl 0 rfl) ?_
  refine lv_iload_n hx hb dX6_isWorker_1 rfl (lv_at hl 1 rfl) ?_
  refine g_ai (D := D) (wc := [(aP, .inr (6, [.int 0, .ref (qP 1), .ref (qP 2), .ref (qP 3), .ref (qP 4), .ref (qP 5), .ref (qP 6), .ref (qP 7), .ref (qP 8), .ref (qP 9), .ref (qP 10), .ref (qP 11), .ref (qP 12), .ref (qP 13), .ref (qP 14)]))]) (wr := []) hP hD hS hA [0] [] rfl rfl rfl rfl (by decide) (fun hPc hDc => va_runV (As := [.int y0]) (rest := []) hF (c_X6_has (l := l) (D := D) (cI := cI) (cB := cB) (cS := cS) (cZ := cZ) (cW := cW) (aP := aP) (y0 := y0) (qP := qP)) (cwV 1 hts (gGV (fun _ h => List.mem_cons_of_mem _ h) wm_153 wm_154 wm_155 wm_81 wm_156) rfl rfl rfl (by decide +kernel) ⟨Nat.le_of_ble_eq_true rfl, Nat.le_of_ble_eq_true rfl⟩) (g_preV (q := (RX6, TX6, 15)) (ci := 6) (q0 := 0) hE hPc hDc rfl rfl) rfl rfl hl.1 rfl (lv_room (Nat.le_of_ble_eq_true rfl)) dX6_isWorker_2 ⟨Nat.le_of_ble_eq_true rfl, Nat.le_of_ble_eq_true rfl⟩) (fun r1 u2 H locs p3 hP hD hS => ?_)
  have hP : va_P D vwCl [(aP, .inr (6, [.int 0, .ref (qP 1), .ref (qP 2), .ref (qP 3), .ref (qP 4), .ref (qP 5), .ref (qP 6), .ref (qP 7), .ref (qP 8), .ref (qP 9), .ref (qP 10), .ref (qP 11), .ref (qP 12), .ref (qP 13), .ref (qP 14)]))] H := hP
  have hD : va_D A [(aP, .inr (6, [.int 0, .ref (qP 1), .ref (qP 2), .ref (qP 3), .ref (qP 4), .ref (qP 5), .ref (qP 6), .ref (qP 7), .ref (qP 8), .ref (qP 9), .ref (qP 10), .ref (qP 11), .ref (qP 12), .ref (qP 13), .ref (qP 14)]))] := hD
  obtain rfl := p3
  refine lv_if_eq (tgt := 22) hx hb dX6_isWorker_5 (by decide) (fun _ => ?_) (fun c9 => absurd c9 (by decide +kernel))
  refine lv_iconst (v := 0) hx hb dX6_isWorker_22 (by decide +kernel) ?_
  exact g_iret () hF hr rfl hlocks (hP.sub [0] rfl) (hD.sub [0] rfl rfl) hS rfl dX6_isWorker_23 (Nat.le_of_ble_eq_true rfl) (Nat.le_of_ble_eq_true rfl)
set_option maxHeartbeats 8000000 in
set_option maxRecDepth 100000 in
theorem c_X6_isLivingWorker {l : Launch} {D : va_G} {cI cB cS cZ cW : ClassId} {aP : Nat} {y0 : Int32} {qP : Nat → Nat}  {sz : Nat} : MI l D (gT cI cB cS cZ cW) yX6_isLivingWorker (wG yX6_isLivingWorker cX6_isLivingWorker 2 (some .boolean)) { frames := 2, cells := 0, slots := 0, locals := 42 } [.ref aP, .int y0] [(aP, .inr (6, [.int 0, .ref (qP 1), .ref (qP 2), .ref (qP 3), .ref (qP 4), .ref (qP 5), .ref (qP 6), .ref (qP 7), .ref (qP 8), .ref (qP 9), .ref (qP 10), .ref (qP 11), .ref (qP 12), .ref (qP 13), .ref (qP 14)]))] sz (fun (r : Int32) (u : Unit) => r = 0) (fun (u : Unit) => [(aP, .inr (6, [.int 0, .ref (qP 1), .ref (qP 2), .ref (qP 3), .ref (qP 4), .ref (qP 5), .ref (qP 6), .ref (qP 7), .ref (qP 8), .ref (qP 9), .ref (qP 10), .ref (qP 11), .ref (qP 12), .ref (qP 13), .ref (qP 14)]))] : (Unit) → va_W) 0 0 := by
  refine g_enter (y := yX6_isLivingWorker) (w := (wG yX6_isLivingWorker cX6_isLivingWorker 2 (some .boolean))) (As := [.ref aP, .int y0]) (D := D) (T := gT cI cB cS cZ cW) (ws := [(aP, .inr (6, [.int 0, .ref (qP 1), .ref (qP 2), .ref (qP 3), .ref (qP 4), .ref (qP 5), .ref (qP 6), .ref (qP 7), .ref (qP 8), .ref (qP 9), .ref (qP 10), .ref (qP 11), .ref (qP 12), .ref (qP 13), .ref (qP 14)]))]) (gQi D (fun (r : Int32) (u : Unit) => r = 0) (fun (u : Unit) => [(aP, .inr (6, [.int 0, .ref (qP 1), .ref (qP 2), .ref (qP 3), .ref (qP 4), .ref (qP 5), .ref (qP 6), .ref (qP 7), .ref (qP 8), .ref (qP 9), .ref (qP 10), .ref (qP 11), .ref (qP 12), .ref (qP 13), .ref (qP 14)]))] : (Unit) → va_W)) (cc := cX6_isLivingWorker) (maxL := 2) (ret := (some .boolean)) (by decide) rfl (Nat.le_of_ble_eq_true rfl) ?_
  intro p e s m below meth c A ls hF hr hlocks hname hsz hE hA hP hD hS hl
  have hF : CallFix p m c cX6_isLivingWorker 2 s ([.ref aP, .int y0] : List Value).toArray (wG yX6_isLivingWorker cX6_isLivingWorker 2 (some .boolean)) RX6 := hF
  obtain ⟨hx, hb, hml, hown, hts⟩ := id hF
  have htg : ∀ w ∈ GL, w.before ([.ref aP, .int y0] : List Value).toArray s = true := fun w h => hts w (List.mem_cons_of_mem _ h)
  have hl : lv_has ls 2 [(0, .ref aP), (1, .int y0)] := hl
  have z0 := t_0
  refine lv_aload_n hx hb dX6_isLivingWorker_0 rfl (lv_at hl 0 rfl) ?_
  refine lv_iload_n hx hb dX6_isLivingWorker_1 rfl (lv_at hl 1 rfl) ?_
  refine g_ai (D := D) (wc := [(aP, .inr (6, [.int 0, .ref (qP 1), .ref (qP 2), .ref (qP 3), .ref (qP 4), .ref (qP 5), .ref (qP 6), .ref (qP 7), .ref (qP 8), .ref (qP 9), .ref (qP 10), .ref (qP 11), .ref (qP 12), .ref (qP 13), .ref (qP 14)]))]) (wr := []) hP hD hS hA [0] [] rfl rfl rfl rfl (by decide) (fun hPc hDc => va_runV (As := [.int y0]) (rest := []) hF (c_X6_isWorker (l := l) (D := D) (cI := cI) (cB := cB) (cS := cS) (cZ := cZ) (cW := cW) (aP := aP) (y0 := y0) (qP := qP)) (cwV 1 hts (gGV (fun _ h => List.mem_cons_of_mem _ h) wm_157 wm_158 wm_159 wm_81 wm_160) rfl rfl rfl (by decide +kernel) ⟨Nat.le_of_ble_eq_true rfl, Nat.le_of_ble_eq_true rfl⟩) (g_preV (q := (RX6, TX6, 15)) (ci := 6) (q0 := 0) hE hPc hDc rfl rfl) rfl rfl hl.1 rfl (lv_room (Nat.le_of_ble_eq_true rfl)) dX6_isLivingWorker_2 ⟨Nat.le_of_ble_eq_true rfl, Nat.le_of_ble_eq_true rfl⟩) (fun r1 u2 H locs p3 hP hD hS => ?_)
  have hP : va_P D vwCl [(aP, .inr (6, [.int 0, .ref (qP 1), .ref (qP 2), .ref (qP 3), .ref (qP 4), .ref (qP 5), .ref (qP 6), .ref (qP 7), .ref (qP 8), .ref (qP 9), .ref (qP 10), .ref (qP 11), .ref (qP 12), .ref (qP 13), .ref (qP 14)]))] H := hP
  have hD : va_D A [(aP, .inr (6, [.int 0, .ref (qP 1), .ref (qP 2), .ref (qP 3), .ref (qP 4), .ref (qP 5), .ref (qP 6), .ref (qP 7), .ref (qP 8), .ref (qP 9), .ref (qP 10), .ref (qP 11), .ref (qP 12), .ref (qP 13), .ref (qP 14)]))] := hD
  obtain rfl := p3
  refine lv_if_eq (tgt := 20) hx hb dX6_isLivingWorker_5 (by decide) (fun _ => ?_) (fun c9 => absurd c9 (by decide +kernel))
  refine lv_iconst (v := 0) hx hb dX6_isLivingWorker_20 (by decide +kernel) ?_
  exact g_iret () hF hr rfl hlocks (hP.sub [0] rfl) (hD.sub [0] rfl rfl) hS rfl dX6_isLivingWorker_21 (Nat.le_of_ble_eq_true rfl) (Nat.le_of_ble_eq_true rfl)
set_option maxHeartbeats 8000000 in
set_option maxRecDepth 100000 in
theorem c_X6_setRoad {l : Launch} {D : va_G} {cI cB cS cZ cW : ClassId} {aP : Nat} {y0 : Int32} {y1 : Int32} {y2 : Int32} {qP : Nat → Nat} {fR : Nat → Int32}  {sz : Nat} : MI l D (gT cI cB cS cZ cW) yX6_setRoad (wG yX6_setRoad cX6_setRoad 5 (some .boolean)) { frames := 1, cells := 0, slots := 0, locals := 22 } [.ref aP, .int y0, .int y1, .int y2] [(aP, .inr (6, [.int 0, .ref (qP 1), .ref (qP 2), .ref (qP 3), .ref (qP 4), .ref (qP 5), .ref (qP 6), .ref (qP 7), .ref (qP 8), .ref (qP 9), .ref (qP 10), .ref (qP 11), .ref (qP 12), .ref (qP 13), .ref (qP 14)])), ((qP 14), .inl (cI, 36, .inl fR))] sz (fun (r : Int32) (u : Unit) => r = S_road y0 y1 y2) (fun (u : Unit) => [] : (Unit) → va_W) 0 0 := by
  refine g_enter (y := yX6_setRoad) (w := (wG yX6_setRoad cX6_setRoad 5 (some .boolean))) (As := [.ref aP, .int y0, .int y1, .int y2]) (D := D) (T := gT cI cB cS cZ cW) (ws := [(aP, .inr (6, [.int 0, .ref (qP 1), .ref (qP 2), .ref (qP 3), .ref (qP 4), .ref (qP 5), .ref (qP 6), .ref (qP 7), .ref (qP 8), .ref (qP 9), .ref (qP 10), .ref (qP 11), .ref (qP 12), .ref (qP 13), .ref (qP 14)])), ((qP 14), .inl (cI, 36, .inl fR))]) (gQi D (fun (r : Int32) (u : Unit) => r = S_road y0 y1 y2) (fun (u : Unit) => [] : (Unit) → va_W)) (cc := cX6_setRoad) (maxL := 5) (ret := (some .boolean)) (by decide) rfl (Nat.le_of_ble_eq_true rfl) ?_
  intro p e s m below meth c A ls hF hr hlocks hname hsz hE hA hP hD hS hl
  have hF : CallFix p m c cX6_setRoad 5 s ([.ref aP, .int y0, .int y1, .int y2] : List Value).toArray (wG yX6_setRoad cX6_setRoad 5 (some .boolean)) RX6 := hF
  obtain ⟨hx, hb, hml, hown, hts⟩ := id hF
  have htg : ∀ w ∈ GL, w.before ([.ref aP, .int y0, .int y1, .int y2] : List Value).toArray s = true := fun w h => hts w (List.mem_cons_of_mem _ h)
  have hl : lv_has ls 5 [(0, .ref aP), (1, .int y0), (2, .int y1), (3, .int y2)] := hl
  have z0 := t_0
  have z1 := t_1
  have z5 := t_5
  have z6 := t_6
  have z9 := t_9
  refine lv_iload_n hx hb dX6_setRoad_0 rfl (lv_at hl 1 rfl) ?_
  refine lv_iconst (v := 0) hx hb dX6_setRoad_1 (by decide +kernel) ?_
  refine lv_iconst (v := 5) hx hb dX6_setRoad_2 (by decide +kernel) ?_
  refine g_ai (D := D) (wc := []) (wr := [(aP, .inr (6, [.int 0, .ref (qP 1), .ref (qP 2), .ref (qP 3), .ref (qP 4), .ref (qP 5), .ref (qP 6), .ref (qP 7), .ref (qP 8), .ref (qP 9), .ref (qP 10), .ref (qP 11), .ref (qP 12), .ref (qP 13), .ref (qP 14)])), ((qP 14), .inl (cI, 36, .inl fR))]) hP hD hS hA [] [0, 1] rfl rfl rfl rfl (by decide) (fun hPc hDc => va_runSN (As := [.int y0, .int 0, .int 5]) (rest := []) hF (c_X11_within (l := l) (D := D) (cI := cI) (cB := cB) (cS := cS) (cZ := cZ) (cW := cW) (y0 := y0) (y1 := 0) (y2 := 5)) ⟨(va_cnB (host := "LastTongue") 3 hts (gGI (fun _ h => List.mem_cons_of_mem _ h) wm_150) rfl rfl rfl (hE.2.1 (RX6, 80, yX11_within, "LastTongue") (List.mem_of_getElem? (i := 8) rfl)) (htg _ wm_151) (by decide +kernel) ⟨Nat.le_of_ble_eq_true rfl, Nat.le_of_ble_eq_true rfl⟩), (htg _ wm_152), trivial⟩ (g_preS hE hPc hDc) rfl rfl hl.1 rfl (lv_room (Nat.le_of_ble_eq_true rfl)) dX6_setRoad_3 ⟨Nat.le_of_ble_eq_true rfl, Nat.le_of_ble_eq_true rfl⟩) (fun r1 u2 H locs p3 hP hD hS => ?_)
  have hP : va_P D vwCl [(aP, .inr (6, [.int 0, .ref (qP 1), .ref (qP 2), .ref (qP 3), .ref (qP 4), .ref (qP 5), .ref (qP 6), .ref (qP 7), .ref (qP 8), .ref (qP 9), .ref (qP 10), .ref (qP 11), .ref (qP 12), .ref (qP 13), .ref (qP 14)])), ((qP 14), .inl (cI, 36, .inl fR))] H := hP
  have hD : va_D A [(aP, .inr (6, [.int 0, .ref (qP 1), .ref (qP 2), .ref (qP 3), .ref (qP 4), .ref (qP 5), .ref (qP 6), .ref (qP 7), .ref (qP 8), .ref (qP 9), .ref (qP 10), .ref (qP 11), .ref (qP 12), .ref (qP 13), .ref (qP 14)])), ((qP 14), .inl (cI, 36, .inl fR))] := hD
  rcases p3 with ⟨rfl, p3a⟩ | ⟨rfl, p3a⟩
  · skip
    refine lv_if_eq (tgt := 37) hx hb dX6_setRoad_6 (by decide) (fun c9 => absurd c9 (by decide +kernel)) (fun _ => ?_)
    refine lv_iload_n hx hb dX6_setRoad_9 rfl (lv_at hl 2 rfl) ?_
    refine lv_iconst (v := 0) hx hb dX6_setRoad_10 (by decide +kernel) ?_
    refine lv_iconst (v := 5) hx hb dX6_setRoad_11 (by decide +kernel) ?_
    refine g_ai (D := D) (wc := []) (wr := [(aP, .inr (6, [.int 0, .ref (qP 1), .ref (qP 2), .ref (qP 3), .ref (qP 4), .ref (qP 5), .ref (qP 6), .ref (qP 7), .ref (qP 8), .ref (qP 9), .ref (qP 10), .ref (qP 11), .ref (qP 12), .ref (qP 13), .ref (qP 14)])), ((qP 14), .inl (cI, 36, .inl fR))]) hP hD hS hA [] [0, 1] rfl rfl rfl rfl (by decide) (fun hPc hDc => va_runSN (As := [.int y1, .int 0, .int 5]) (rest := []) hF (c_X11_within (l := l) (D := D) (cI := cI) (cB := cB) (cS := cS) (cZ := cZ) (cW := cW) (y0 := y1) (y1 := 0) (y2 := 5)) ⟨(va_cnB (host := "LastTongue") 3 hts (gGI (fun _ h => List.mem_cons_of_mem _ h) wm_150) rfl rfl rfl (hE.2.1 (RX6, 80, yX11_within, "LastTongue") (List.mem_of_getElem? (i := 8) rfl)) (htg _ wm_151) (by decide +kernel) ⟨Nat.le_of_ble_eq_true rfl, Nat.le_of_ble_eq_true rfl⟩), (htg _ wm_152), trivial⟩ (g_preS hE hPc hDc) rfl rfl hl.1 rfl (lv_room (Nat.le_of_ble_eq_true rfl)) dX6_setRoad_12 ⟨Nat.le_of_ble_eq_true rfl, Nat.le_of_ble_eq_true rfl⟩) (fun r4 u5 H locs p6 hP hD hS => ?_)
    have hP : va_P D vwCl [(aP, .inr (6, [.int 0, .ref (qP 1), .ref (qP 2), .ref (qP 3), .ref (qP 4), .ref (qP 5), .ref (qP 6), .ref (qP 7), .ref (qP 8), .ref (qP 9), .ref (qP 10), .ref (qP 11), .ref (qP 12), .ref (qP 13), .ref (qP 14)])), ((qP 14), .inl (cI, 36, .inl fR))] H := hP
    have hD : va_D A [(aP, .inr (6, [.int 0, .ref (qP 1), .ref (qP 2), .ref (qP 3), .ref (qP 4), .ref (qP 5), .ref (qP 6), .ref (qP 7), .ref (qP 8), .ref (qP 9), .ref (qP 10), .ref (qP 11), .ref (qP 12), .ref (qP 13), .ref (qP 14)])), ((qP 14), .inl (cI, 36, .inl fR))] := hD
    rcases p6 with ⟨rfl, p6a⟩ | ⟨rfl, p6a⟩
    · skip
      refine lv_if_eq (tgt := 37) hx hb dX6_setRoad_15 (by decide) (fun c9 => absurd c9 (by decide +kernel)) (fun _ => ?_)
      refine lv_iload_n hx hb dX6_setRoad_18 rfl (lv_at hl 1 rfl) ?_
      refine lv_iload_n hx hb dX6_setRoad_19 rfl (lv_at hl 2 rfl) ?_
      refine lv_icmp_eq (tgt := 37) hx hb dX6_setRoad_20 (by decide) (fun c7 => ?_) (fun c7 => ?_)
      · rw [i_eq] at c7
        refine lv_iconst (v := 0) hx hb dX6_setRoad_37 (by decide +kernel) ?_
        refine lv_istore (lv' := [(4, .int 0), (0, .ref aP), (1, .int y0), (2, .int y1), (3, .int y2)]) hx hb dX6_setRoad_38 hl (by decide) rfl (fun ls hl => ?_)
        refine lv_iload hx hb dX6_setRoad_40 (lv_at hl 0 rfl) ?_
        refine lv_if_ne (tgt := 47) hx hb dX6_setRoad_42 (by decide) (fun c9 => absurd c9 (by decide +kernel)) (fun _ => ?_)
        refine lv_iconst (v := 0) hx hb dX6_setRoad_45 (by decide +kernel) ?_
        exact g_iret () hF hr rfl hlocks (hP.sub [] rfl) (hD.sub [] rfl rfl) hS (by show (_ : Int32) = _; unfold S_road; (repeat' split) <;> first | rfl | (exfalso; omega) | omega) dX6_setRoad_46 (Nat.le_of_ble_eq_true rfl) (Nat.le_of_ble_eq_true rfl)
      · rw [i_eq] at c7
        refine lv_iload_n hx hb dX6_setRoad_23 rfl (lv_at hl 3 rfl) ?_
        refine lv_iconst (v := 0) hx hb dX6_setRoad_24 (by decide +kernel) ?_
        refine lv_bipush (v := 9) hx hb dX6_setRoad_25 (by decide +kernel) ?_
        refine g_ai (D := D) (wc := []) (wr := [(aP, .inr (6, [.int 0, .ref (qP 1), .ref (qP 2), .ref (qP 3), .ref (qP 4), .ref (qP 5), .ref (qP 6), .ref (qP 7), .ref (qP 8), .ref (qP 9), .ref (qP 10), .ref (qP 11), .ref (qP 12), .ref (qP 13), .ref (qP 14)])), ((qP 14), .inl (cI, 36, .inl fR))]) hP hD hS hA [] [0, 1] rfl rfl rfl rfl (by decide) (fun hPc hDc => va_runSN (As := [.int y2, .int 0, .int 9]) (rest := []) hF (c_X11_within (l := l) (D := D) (cI := cI) (cB := cB) (cS := cS) (cZ := cZ) (cW := cW) (y0 := y2) (y1 := 0) (y2 := 9)) ⟨(va_cnB (host := "LastTongue") 3 hts (gGI (fun _ h => List.mem_cons_of_mem _ h) wm_150) rfl rfl rfl (hE.2.1 (RX6, 80, yX11_within, "LastTongue") (List.mem_of_getElem? (i := 8) rfl)) (htg _ wm_151) (by decide +kernel) ⟨Nat.le_of_ble_eq_true rfl, Nat.le_of_ble_eq_true rfl⟩), (htg _ wm_152), trivial⟩ (g_preS hE hPc hDc) rfl rfl hl.1 rfl (lv_room (Nat.le_of_ble_eq_true rfl)) dX6_setRoad_27 ⟨Nat.le_of_ble_eq_true rfl, Nat.le_of_ble_eq_true rfl⟩) (fun r8 u9 H locs p10 hP hD hS => ?_)
        have hP : va_P D vwCl [(aP, .inr (6, [.int 0, .ref (qP 1), .ref (qP 2), .ref (qP 3), .ref (qP 4), .ref (qP 5), .ref (qP 6), .ref (qP 7), .ref (qP 8), .ref (qP 9), .ref (qP 10), .ref (qP 11), .ref (qP 12), .ref (qP 13), .ref (qP 14)])), ((qP 14), .inl (cI, 36, .inl fR))] H := hP
        have hD : va_D A [(aP, .inr (6, [.int 0, .ref (qP 1), .ref (qP 2), .ref (qP 3), .ref (qP 4), .ref (qP 5), .ref (qP 6), .ref (qP 7), .ref (qP 8), .ref (qP 9), .ref (qP 10), .ref (qP 11), .ref (qP 12), .ref (qP 13), .ref (qP 14)])), ((qP 14), .inl (cI, 36, .inl fR))] := hD
        rcases p10 with ⟨rfl, p10a⟩ | ⟨rfl, p10a⟩
        · skip
          refine lv_if_eq (tgt := 37) hx hb dX6_setRoad_30 (by decide) (fun c9 => absurd c9 (by decide +kernel)) (fun _ => ?_)
          refine lv_iconst (v := 1) hx hb dX6_setRoad_33 (by decide +kernel) ?_
          refine lv_goto (tgt := 38) hx hb dX6_setRoad_34 (by decide) ?_
          refine lv_istore (lv' := [(4, .int 1), (0, .ref aP), (1, .int y0), (2, .int y1), (3, .int y2)]) hx hb dX6_setRoad_38 hl (by decide) rfl (fun ls hl => ?_)
          refine lv_iload hx hb dX6_setRoad_40 (lv_at hl 0 rfl) ?_
          refine lv_if_ne (tgt := 47) hx hb dX6_setRoad_42 (by decide) (fun _ => ?_) (fun c9 => absurd c9 (by decide +kernel))
          refine lv_aload_n hx hb dX6_setRoad_47 rfl (lv_at hl 1 rfl) ?_
          refine va_get (D := D) (ci := 6) (v := .ref (qP 14)) (C := RX6) (T := TX6) (N := 15) hx hb htg iwG_6 hown hE.1 hP 0 rfl rfl 14 (by decide) (htg _ wm_28) (fun _ h9 => h9) rfl dX6_setRoad_48 ?_
          refine lv_iload_n hx hb dX6_setRoad_51 rfl (lv_at hl 2 rfl) ?_
          refine lv_bipush (v := 6) hx hb dX6_setRoad_52 (by decide +kernel) ?_
          refine lv_imul hx hb dX6_setRoad_54 ?_
          refine lv_topi (fun v11 ev11 => ?_)
          have iv11 : v11.toInt = y0.toInt * 6 := by
            have h := fb_mulI (x := y0) (y := 6) (by rw [t_6]; omega) (by rw [t_6]; omega)
            rw [t_6] at h; rw [ev11]; exact h
          refine lv_iload_n hx hb dX6_setRoad_55 rfl (lv_at hl 3 rfl) ?_
          refine lv_iadd hx hb dX6_setRoad_56 ?_
          refine lv_topi (fun v12 ev12 => ?_)
          have iv12 : v12.toInt = (v11 : Int32).toInt + (y1 : Int32).toInt := by rw [ev12]; exact fb_addI (by omega) (by omega)
          refine lv_iload_n hx hb dX6_setRoad_57 rfl (lv_at hl 4 rfl) ?_
          refine va_iast hx hb hE.1 hP hD hS 1 0 rfl rfl (vp_in_iff.mpr ⟨by omega, by omega⟩) dX6_setRoad_58 (fun H locs hP hD hS => ?_)
          obtain ⟨g13, eg13⟩ : ∃ gz : Nat → Int32, gz = upd fR (v12 : Int32).toNatClampNeg y2 := ⟨_, rfl⟩
          have hP : va_P D vwCl [(aP, .inr (6, [.int 0, .ref (qP 1), .ref (qP 2), .ref (qP 3), .ref (qP 4), .ref (qP 5), .ref (qP 6), .ref (qP 7), .ref (qP 8), .ref (qP 9), .ref (qP 10), .ref (qP 11), .ref (qP 12), .ref (qP 13), .ref (qP 14)])), ((qP 14), .inl (cI, 36, .inl g13))] H := by rw [eg13]; exact hP
          have hD : va_D A [(aP, .inr (6, [.int 0, .ref (qP 1), .ref (qP 2), .ref (qP 3), .ref (qP 4), .ref (qP 5), .ref (qP 6), .ref (qP 7), .ref (qP 8), .ref (qP 9), .ref (qP 10), .ref (qP 11), .ref (qP 12), .ref (qP 13), .ref (qP 14)])), ((qP 14), .inl (cI, 36, .inl g13))] := by rw [eg13]; exact hD
          refine lv_aload_n hx hb dX6_setRoad_59 rfl (lv_at hl 1 rfl) ?_
          refine va_get (D := D) (ci := 6) (v := .ref (qP 14)) (C := RX6) (T := TX6) (N := 15) hx hb htg iwG_6 hown hE.1 hP 0 rfl rfl 14 (by decide) (htg _ wm_28) (fun _ h9 => h9) rfl dX6_setRoad_60 ?_
          refine lv_iload_n hx hb dX6_setRoad_63 rfl (lv_at hl 3 rfl) ?_
          refine lv_bipush (v := 6) hx hb dX6_setRoad_64 (by decide +kernel) ?_
          refine lv_imul hx hb dX6_setRoad_66 ?_
          refine lv_topi (fun v14 ev14 => ?_)
          have iv14 : v14.toInt = y1.toInt * 6 := by
            have h := fb_mulI (x := y1) (y := 6) (by rw [t_6]; omega) (by rw [t_6]; omega)
            rw [t_6] at h; rw [ev14]; exact h
          refine lv_iload_n hx hb dX6_setRoad_67 rfl (lv_at hl 2 rfl) ?_
          refine lv_iadd hx hb dX6_setRoad_68 ?_
          refine lv_topi (fun v15 ev15 => ?_)
          have iv15 : v15.toInt = (v14 : Int32).toInt + (y0 : Int32).toInt := by rw [ev15]; exact fb_addI (by omega) (by omega)
          refine lv_iload_n hx hb dX6_setRoad_69 rfl (lv_at hl 4 rfl) ?_
          refine va_iast hx hb hE.1 hP hD hS 1 0 rfl rfl (vp_in_iff.mpr ⟨by omega, by omega⟩) dX6_setRoad_70 (fun H locs hP hD hS => ?_)
          obtain ⟨g16, eg16⟩ : ∃ gz : Nat → Int32, gz = upd g13 (v15 : Int32).toNatClampNeg y2 := ⟨_, rfl⟩
          have hP : va_P D vwCl [(aP, .inr (6, [.int 0, .ref (qP 1), .ref (qP 2), .ref (qP 3), .ref (qP 4), .ref (qP 5), .ref (qP 6), .ref (qP 7), .ref (qP 8), .ref (qP 9), .ref (qP 10), .ref (qP 11), .ref (qP 12), .ref (qP 13), .ref (qP 14)])), ((qP 14), .inl (cI, 36, .inl g16))] H := by rw [eg16]; exact hP
          have hD : va_D A [(aP, .inr (6, [.int 0, .ref (qP 1), .ref (qP 2), .ref (qP 3), .ref (qP 4), .ref (qP 5), .ref (qP 6), .ref (qP 7), .ref (qP 8), .ref (qP 9), .ref (qP 10), .ref (qP 11), .ref (qP 12), .ref (qP 13), .ref (qP 14)])), ((qP 14), .inl (cI, 36, .inl g16))] := by rw [eg16]; exact hD
          refine lv_iconst (v := 1) hx hb dX6_setRoad_71 (by decide +kernel) ?_
          exact g_iret () hF hr rfl hlocks (hP.sub [] rfl) (hD.sub [] rfl rfl) hS (by show (_ : Int32) = _; unfold S_road; (repeat' split) <;> first | rfl | (exfalso; omega) | omega) dX6_setRoad_72 (Nat.le_of_ble_eq_true rfl) (Nat.le_of_ble_eq_true rfl)
        · skip
          refine lv_if_eq (tgt := 37) hx hb dX6_setRoad_30 (by decide) (fun _ => ?_) (fun c9 => absurd c9 (by decide +kernel))
          refine lv_iconst (v := 0) hx hb dX6_setRoad_37 (by decide +kernel) ?_
          refine lv_istore (lv' := [(4, .int 0), (0, .ref aP), (1, .int y0), (2, .int y1), (3, .int y2)]) hx hb dX6_setRoad_38 hl (by decide) rfl (fun ls hl => ?_)
          refine lv_iload hx hb dX6_setRoad_40 (lv_at hl 0 rfl) ?_
          refine lv_if_ne (tgt := 47) hx hb dX6_setRoad_42 (by decide) (fun c9 => absurd c9 (by decide +kernel)) (fun _ => ?_)
          refine lv_iconst (v := 0) hx hb dX6_setRoad_45 (by decide +kernel) ?_
          exact g_iret () hF hr rfl hlocks (hP.sub [] rfl) (hD.sub [] rfl rfl) hS (by show (_ : Int32) = _; unfold S_road; (repeat' split) <;> first | rfl | (exfalso; omega) | omega) dX6_setRoad_46 (Nat.le_of_ble_eq_true rfl) (Nat.le_of_ble_eq_true rfl)
    · skip
      refine lv_if_eq (tgt := 37) hx hb dX6_setRoad_15 (by decide) (fun _ => ?_) (fun c9 => absurd c9 (by decide +kernel))
      refine lv_iconst (v := 0) hx hb dX6_setRoad_37 (by decide +kernel) ?_
      refine lv_istore (lv' := [(4, .int 0), (0, .ref aP), (1, .int y0), (2, .int y1), (3, .int y2)]) hx hb dX6_setRoad_38 hl (by decide) rfl (fun ls hl => ?_)
      refine lv_iload hx hb dX6_setRoad_40 (lv_at hl 0 rfl) ?_
      refine lv_if_ne (tgt := 47) hx hb dX6_setRoad_42 (by decide) (fun c9 => absurd c9 (by decide +kernel)) (fun _ => ?_)
      refine lv_iconst (v := 0) hx hb dX6_setRoad_45 (by decide +kernel) ?_
      exact g_iret () hF hr rfl hlocks (hP.sub [] rfl) (hD.sub [] rfl rfl) hS (by show (_ : Int32) = _; unfold S_road; (repeat' split) <;> first | rfl | (exfalso; omega) | omega) dX6_setRoad_46 (Nat.le_of_ble_eq_true rfl) (Nat.le_of_ble_eq_true rfl)
  · skip
    refine lv_if_eq (tgt := 37) hx hb dX6_setRoad_6 (by decide) (fun _ => ?_) (fun c9 => absurd c9 (by decide +kernel))
    refine lv_iconst (v := 0) hx hb dX6_setRoad_37 (by decide +kernel) ?_
    refine lv_istore (lv' := [(4, .int 0), (0, .ref aP), (1, .int y0), (2, .int y1), (3, .int y2)]) hx hb dX6_setRoad_38 hl (by decide) rfl (fun ls hl => ?_)
    refine lv_iload hx hb dX6_setRoad_40 (lv_at hl 0 rfl) ?_
    refine lv_if_ne (tgt := 47) hx hb dX6_setRoad_42 (by decide) (fun c9 => absurd c9 (by decide +kernel)) (fun _ => ?_)
    refine lv_iconst (v := 0) hx hb dX6_setRoad_45 (by decide +kernel) ?_
    exact g_iret () hF hr rfl hlocks (hP.sub [] rfl) (hD.sub [] rfl rfl) hS (by show (_ : Int32) = _; unfold S_road; (repeat' split) <;> first | rfl | (exfalso; omega) | omega) dX6_setRoad_46 (Nat.le_of_ble_eq_true rfl) (Nat.le_of_ble_eq_true rfl)
set_option maxHeartbeats 8000000 in
set_option maxRecDepth 100000 in
theorem c_X6_setMeanings {l : Launch} {D : va_G} {cI cB cS cZ cW : ClassId} {aP : Nat} {y0 : Int32} {y1 : Int32} {qP : Nat → Nat}  {sz : Nat} : MI l D (gT cI cB cS cZ cW) yX6_setMeanings (wG yX6_setMeanings cX6_setMeanings 3 (some .boolean)) { frames := 1, cells := 0, slots := 0, locals := 21 } [.ref aP, .int y0, .int y1] [(aP, .inr (6, [.int 0, .ref (qP 1), .ref (qP 2), .ref (qP 3), .ref (qP 4), .ref (qP 5), .ref (qP 6), .ref (qP 7), .ref (qP 8), .ref (qP 9), .ref (qP 10), .ref (qP 11), .ref (qP 12), .ref (qP 13), .ref (qP 14)]))] sz (fun (r : Int32) (u : Unit) => r = 0) (fun (u : Unit) => [] : (Unit) → va_W) 0 0 := by
  refine g_enter (y := yX6_setMeanings) (w := (wG yX6_setMeanings cX6_setMeanings 3 (some .boolean))) (As := [.ref aP, .int y0, .int y1]) (D := D) (T := gT cI cB cS cZ cW) (ws := [(aP, .inr (6, [.int 0, .ref (qP 1), .ref (qP 2), .ref (qP 3), .ref (qP 4), .ref (qP 5), .ref (qP 6), .ref (qP 7), .ref (qP 8), .ref (qP 9), .ref (qP 10), .ref (qP 11), .ref (qP 12), .ref (qP 13), .ref (qP 14)]))]) (gQi D (fun (r : Int32) (u : Unit) => r = 0) (fun (u : Unit) => [] : (Unit) → va_W)) (cc := cX6_setMeanings) (maxL := 3) (ret := (some .boolean)) (by decide) rfl (Nat.le_of_ble_eq_true rfl) ?_
  intro p e s m below meth c A ls hF hr hlocks hname hsz hE hA hP hD hS hl
  have hF : CallFix p m c cX6_setMeanings 3 s ([.ref aP, .int y0, .int y1] : List Value).toArray (wG yX6_setMeanings cX6_setMeanings 3 (some .boolean)) RX6 := hF
  obtain ⟨hx, hb, hml, hown, hts⟩ := id hF
  have htg : ∀ w ∈ GL, w.before ([.ref aP, .int y0, .int y1] : List Value).toArray s = true := fun w h => hts w (List.mem_cons_of_mem _ h)
  have hl : lv_has ls 3 [(0, .ref aP), (1, .int y0), (2, .int y1)] := hl
  have z0 := t_0
  refine lv_aload_n hx hb dX6_setMeanings_0 rfl (lv_at hl 0 rfl) ?_
  refine lv_iload_n hx hb dX6_setMeanings_1 rfl (lv_at hl 1 rfl) ?_
  refine g_ai (D := D) (wc := [(aP, .inr (6, [.int 0, .ref (qP 1), .ref (qP 2), .ref (qP 3), .ref (qP 4), .ref (qP 5), .ref (qP 6), .ref (qP 7), .ref (qP 8), .ref (qP 9), .ref (qP 10), .ref (qP 11), .ref (qP 12), .ref (qP 13), .ref (qP 14)]))]) (wr := []) hP hD hS hA [0] [] rfl rfl rfl rfl (by decide) (fun hPc hDc => va_runV (As := [.int y0]) (rest := []) hF (c_X6_has (l := l) (D := D) (cI := cI) (cB := cB) (cS := cS) (cZ := cZ) (cW := cW) (aP := aP) (y0 := y0) (qP := qP)) (cwV 1 hts (gGV (fun _ h => List.mem_cons_of_mem _ h) wm_153 wm_154 wm_155 wm_81 wm_156) rfl rfl rfl (by decide +kernel) ⟨Nat.le_of_ble_eq_true rfl, Nat.le_of_ble_eq_true rfl⟩) (g_preV (q := (RX6, TX6, 15)) (ci := 6) (q0 := 0) hE hPc hDc rfl rfl) rfl rfl hl.1 rfl (lv_room (Nat.le_of_ble_eq_true rfl)) dX6_setMeanings_2 ⟨Nat.le_of_ble_eq_true rfl, Nat.le_of_ble_eq_true rfl⟩) (fun r1 u2 H locs p3 hP hD hS => ?_)
  have hP : va_P D vwCl [(aP, .inr (6, [.int 0, .ref (qP 1), .ref (qP 2), .ref (qP 3), .ref (qP 4), .ref (qP 5), .ref (qP 6), .ref (qP 7), .ref (qP 8), .ref (qP 9), .ref (qP 10), .ref (qP 11), .ref (qP 12), .ref (qP 13), .ref (qP 14)]))] H := hP
  have hD : va_D A [(aP, .inr (6, [.int 0, .ref (qP 1), .ref (qP 2), .ref (qP 3), .ref (qP 4), .ref (qP 5), .ref (qP 6), .ref (qP 7), .ref (qP 8), .ref (qP 9), .ref (qP 10), .ref (qP 11), .ref (qP 12), .ref (qP 13), .ref (qP 14)]))] := hD
  obtain rfl := p3
  refine lv_if_eq (tgt := 15) hx hb dX6_setMeanings_5 (by decide) (fun _ => ?_) (fun c9 => absurd c9 (by decide +kernel))
  refine lv_iconst (v := 0) hx hb dX6_setMeanings_15 (by decide +kernel) ?_
  exact g_iret () hF hr rfl hlocks (hP.sub [] rfl) (hD.sub [] rfl rfl) hS rfl dX6_setMeanings_16 (Nat.le_of_ble_eq_true rfl) (Nat.le_of_ble_eq_true rfl)
set_option maxHeartbeats 8000000 in
set_option maxRecDepth 100000 in
theorem c_X6_setWriting {l : Launch} {D : va_G} {cI cB cS cZ cW : ClassId} {aP : Nat} {y0 : Int32} {y1 : Int32} {qP : Nat → Nat}  {sz : Nat} : MI l D (gT cI cB cS cZ cW) yX6_setWriting (wG yX6_setWriting cX6_setWriting 3 (some .boolean)) { frames := 2, cells := 0, slots := 0, locals := 42 } [.ref aP, .int y0, .int y1] [(aP, .inr (6, [.int 0, .ref (qP 1), .ref (qP 2), .ref (qP 3), .ref (qP 4), .ref (qP 5), .ref (qP 6), .ref (qP 7), .ref (qP 8), .ref (qP 9), .ref (qP 10), .ref (qP 11), .ref (qP 12), .ref (qP 13), .ref (qP 14)]))] sz (fun (r : Int32) (u : Unit) => r = 0) (fun (u : Unit) => [] : (Unit) → va_W) 0 0 := by
  refine g_enter (y := yX6_setWriting) (w := (wG yX6_setWriting cX6_setWriting 3 (some .boolean))) (As := [.ref aP, .int y0, .int y1]) (D := D) (T := gT cI cB cS cZ cW) (ws := [(aP, .inr (6, [.int 0, .ref (qP 1), .ref (qP 2), .ref (qP 3), .ref (qP 4), .ref (qP 5), .ref (qP 6), .ref (qP 7), .ref (qP 8), .ref (qP 9), .ref (qP 10), .ref (qP 11), .ref (qP 12), .ref (qP 13), .ref (qP 14)]))]) (gQi D (fun (r : Int32) (u : Unit) => r = 0) (fun (u : Unit) => [] : (Unit) → va_W)) (cc := cX6_setWriting) (maxL := 3) (ret := (some .boolean)) (by decide) rfl (Nat.le_of_ble_eq_true rfl) ?_
  intro p e s m below meth c A ls hF hr hlocks hname hsz hE hA hP hD hS hl
  have hF : CallFix p m c cX6_setWriting 3 s ([.ref aP, .int y0, .int y1] : List Value).toArray (wG yX6_setWriting cX6_setWriting 3 (some .boolean)) RX6 := hF
  obtain ⟨hx, hb, hml, hown, hts⟩ := id hF
  have htg : ∀ w ∈ GL, w.before ([.ref aP, .int y0, .int y1] : List Value).toArray s = true := fun w h => hts w (List.mem_cons_of_mem _ h)
  have hl : lv_has ls 3 [(0, .ref aP), (1, .int y0), (2, .int y1)] := hl
  have z0 := t_0
  refine lv_aload_n hx hb dX6_setWriting_0 rfl (lv_at hl 0 rfl) ?_
  refine lv_iload_n hx hb dX6_setWriting_1 rfl (lv_at hl 1 rfl) ?_
  refine g_ai (D := D) (wc := [(aP, .inr (6, [.int 0, .ref (qP 1), .ref (qP 2), .ref (qP 3), .ref (qP 4), .ref (qP 5), .ref (qP 6), .ref (qP 7), .ref (qP 8), .ref (qP 9), .ref (qP 10), .ref (qP 11), .ref (qP 12), .ref (qP 13), .ref (qP 14)]))]) (wr := []) hP hD hS hA [0] [] rfl rfl rfl rfl (by decide) (fun hPc hDc => va_runV (As := [.int y0]) (rest := []) hF (c_X6_isWorker (l := l) (D := D) (cI := cI) (cB := cB) (cS := cS) (cZ := cZ) (cW := cW) (aP := aP) (y0 := y0) (qP := qP)) (cwV 1 hts (gGV (fun _ h => List.mem_cons_of_mem _ h) wm_157 wm_158 wm_159 wm_81 wm_160) rfl rfl rfl (by decide +kernel) ⟨Nat.le_of_ble_eq_true rfl, Nat.le_of_ble_eq_true rfl⟩) (g_preV (q := (RX6, TX6, 15)) (ci := 6) (q0 := 0) hE hPc hDc rfl rfl) rfl rfl hl.1 rfl (lv_room (Nat.le_of_ble_eq_true rfl)) dX6_setWriting_2 ⟨Nat.le_of_ble_eq_true rfl, Nat.le_of_ble_eq_true rfl⟩) (fun r1 u2 H locs p3 hP hD hS => ?_)
  have hP : va_P D vwCl [(aP, .inr (6, [.int 0, .ref (qP 1), .ref (qP 2), .ref (qP 3), .ref (qP 4), .ref (qP 5), .ref (qP 6), .ref (qP 7), .ref (qP 8), .ref (qP 9), .ref (qP 10), .ref (qP 11), .ref (qP 12), .ref (qP 13), .ref (qP 14)]))] H := hP
  have hD : va_D A [(aP, .inr (6, [.int 0, .ref (qP 1), .ref (qP 2), .ref (qP 3), .ref (qP 4), .ref (qP 5), .ref (qP 6), .ref (qP 7), .ref (qP 8), .ref (qP 9), .ref (qP 10), .ref (qP 11), .ref (qP 12), .ref (qP 13), .ref (qP 14)]))] := hD
  obtain rfl := p3
  refine lv_if_eq (tgt := 17) hx hb dX6_setWriting_5 (by decide) (fun _ => ?_) (fun c9 => absurd c9 (by decide +kernel))
  refine lv_iconst (v := 0) hx hb dX6_setWriting_17 (by decide +kernel) ?_
  exact g_iret () hF hr rfl hlocks (hP.sub [] rfl) (hD.sub [] rfl rfl) hS rfl dX6_setWriting_18 (Nat.le_of_ble_eq_true rfl) (Nat.le_of_ble_eq_true rfl)
set_option maxHeartbeats 8000000 in
set_option maxRecDepth 100000 in
theorem c_X6_setHealth {l : Launch} {D : va_G} {cI cB cS cZ cW : ClassId} {aP : Nat} {y0 : Int32} {y1 : Int32} {qP : Nat → Nat}  {sz : Nat} : MI l D (gT cI cB cS cZ cW) yX6_setHealth (wG yX6_setHealth cX6_setHealth 4 (some .boolean)) { frames := 1, cells := 0, slots := 0, locals := 21 } [.ref aP, .int y0, .int y1, .int 0] [(aP, .inr (6, [.int 0, .ref (qP 1), .ref (qP 2), .ref (qP 3), .ref (qP 4), .ref (qP 5), .ref (qP 6), .ref (qP 7), .ref (qP 8), .ref (qP 9), .ref (qP 10), .ref (qP 11), .ref (qP 12), .ref (qP 13), .ref (qP 14)]))] sz (fun (r : Int32) (u : Unit) => r = 0) (fun (u : Unit) => [] : (Unit) → va_W) 0 0 := by
  refine g_enter (y := yX6_setHealth) (w := (wG yX6_setHealth cX6_setHealth 4 (some .boolean))) (As := [.ref aP, .int y0, .int y1, .int 0]) (D := D) (T := gT cI cB cS cZ cW) (ws := [(aP, .inr (6, [.int 0, .ref (qP 1), .ref (qP 2), .ref (qP 3), .ref (qP 4), .ref (qP 5), .ref (qP 6), .ref (qP 7), .ref (qP 8), .ref (qP 9), .ref (qP 10), .ref (qP 11), .ref (qP 12), .ref (qP 13), .ref (qP 14)]))]) (gQi D (fun (r : Int32) (u : Unit) => r = 0) (fun (u : Unit) => [] : (Unit) → va_W)) (cc := cX6_setHealth) (maxL := 4) (ret := (some .boolean)) (by decide) rfl (Nat.le_of_ble_eq_true rfl) ?_
  intro p e s m below meth c A ls hF hr hlocks hname hsz hE hA hP hD hS hl
  have hF : CallFix p m c cX6_setHealth 4 s ([.ref aP, .int y0, .int y1, .int 0] : List Value).toArray (wG yX6_setHealth cX6_setHealth 4 (some .boolean)) RX6 := hF
  obtain ⟨hx, hb, hml, hown, hts⟩ := id hF
  have htg : ∀ w ∈ GL, w.before ([.ref aP, .int y0, .int y1, .int 0] : List Value).toArray s = true := fun w h => hts w (List.mem_cons_of_mem _ h)
  have hl : lv_has ls 4 [(0, .ref aP), (1, .int y0), (2, .int y1), (3, .int 0)] := hl
  have z0 := t_0
  refine lv_aload_n hx hb dX6_setHealth_0 rfl (lv_at hl 0 rfl) ?_
  refine lv_iload_n hx hb dX6_setHealth_1 rfl (lv_at hl 1 rfl) ?_
  refine g_ai (D := D) (wc := [(aP, .inr (6, [.int 0, .ref (qP 1), .ref (qP 2), .ref (qP 3), .ref (qP 4), .ref (qP 5), .ref (qP 6), .ref (qP 7), .ref (qP 8), .ref (qP 9), .ref (qP 10), .ref (qP 11), .ref (qP 12), .ref (qP 13), .ref (qP 14)]))]) (wr := []) hP hD hS hA [0] [] rfl rfl rfl rfl (by decide) (fun hPc hDc => va_runV (As := [.int y0]) (rest := []) hF (c_X6_isAlive (l := l) (D := D) (cI := cI) (cB := cB) (cS := cS) (cZ := cZ) (cW := cW) (aP := aP) (y0 := y0) (qP := qP)) (cwV 1 hts (gGV (fun _ h => List.mem_cons_of_mem _ h) wm_161 wm_162 wm_163 wm_81 wm_164) rfl rfl rfl (by decide +kernel) ⟨Nat.le_of_ble_eq_true rfl, Nat.le_of_ble_eq_true rfl⟩) (g_preV (q := (RX6, TX6, 15)) (ci := 6) (q0 := 0) hE hPc hDc rfl rfl) rfl rfl hl.1 rfl (lv_room (Nat.le_of_ble_eq_true rfl)) dX6_setHealth_2 ⟨Nat.le_of_ble_eq_true rfl, Nat.le_of_ble_eq_true rfl⟩) (fun r1 u2 H locs p3 hP hD hS => ?_)
  have hP : va_P D vwCl [(aP, .inr (6, [.int 0, .ref (qP 1), .ref (qP 2), .ref (qP 3), .ref (qP 4), .ref (qP 5), .ref (qP 6), .ref (qP 7), .ref (qP 8), .ref (qP 9), .ref (qP 10), .ref (qP 11), .ref (qP 12), .ref (qP 13), .ref (qP 14)]))] H := hP
  have hD : va_D A [(aP, .inr (6, [.int 0, .ref (qP 1), .ref (qP 2), .ref (qP 3), .ref (qP 4), .ref (qP 5), .ref (qP 6), .ref (qP 7), .ref (qP 8), .ref (qP 9), .ref (qP 10), .ref (qP 11), .ref (qP 12), .ref (qP 13), .ref (qP 14)]))] := hD
  obtain rfl := p3
  refine lv_if_eq (tgt := 18) hx hb dX6_setHealth_5 (by decide) (fun _ => ?_) (fun c9 => absurd c9 (by decide +kernel))
  refine lv_iconst (v := 0) hx hb dX6_setHealth_18 (by decide +kernel) ?_
  exact g_iret () hF hr rfl hlocks (hP.sub [] rfl) (hD.sub [] rfl rfl) hS rfl dX6_setHealth_19 (Nat.le_of_ble_eq_true rfl) (Nat.le_of_ble_eq_true rfl)
set_option maxHeartbeats 8000000 in
set_option maxRecDepth 100000 in
theorem c_X6_send {l : Launch} {D : va_G} {cI cB cS cZ cW : ClassId} {aP : Nat} {y0 : Int32} {y1 : Int32} {qP : Nat → Nat}  {sz : Nat} : MI l D (gT cI cB cS cZ cW) yX6_send (wG yX6_send cX6_send 6 (some .boolean)) { frames := 1, cells := 0, slots := 0, locals := 21 } [.ref aP, .int y0, .int y1, .int 0] [(aP, .inr (6, [.int 0, .ref (qP 1), .ref (qP 2), .ref (qP 3), .ref (qP 4), .ref (qP 5), .ref (qP 6), .ref (qP 7), .ref (qP 8), .ref (qP 9), .ref (qP 10), .ref (qP 11), .ref (qP 12), .ref (qP 13), .ref (qP 14)]))] sz (fun (r : Int32) (u : Unit) => r = 0) (fun (u : Unit) => [] : (Unit) → va_W) 0 0 := by
  refine g_enter (y := yX6_send) (w := (wG yX6_send cX6_send 6 (some .boolean))) (As := [.ref aP, .int y0, .int y1, .int 0]) (D := D) (T := gT cI cB cS cZ cW) (ws := [(aP, .inr (6, [.int 0, .ref (qP 1), .ref (qP 2), .ref (qP 3), .ref (qP 4), .ref (qP 5), .ref (qP 6), .ref (qP 7), .ref (qP 8), .ref (qP 9), .ref (qP 10), .ref (qP 11), .ref (qP 12), .ref (qP 13), .ref (qP 14)]))]) (gQi D (fun (r : Int32) (u : Unit) => r = 0) (fun (u : Unit) => [] : (Unit) → va_W)) (cc := cX6_send) (maxL := 6) (ret := (some .boolean)) (by decide) rfl (Nat.le_of_ble_eq_true rfl) ?_
  intro p e s m below meth c A ls hF hr hlocks hname hsz hE hA hP hD hS hl
  have hF : CallFix p m c cX6_send 6 s ([.ref aP, .int y0, .int y1, .int 0] : List Value).toArray (wG yX6_send cX6_send 6 (some .boolean)) RX6 := hF
  obtain ⟨hx, hb, hml, hown, hts⟩ := id hF
  have htg : ∀ w ∈ GL, w.before ([.ref aP, .int y0, .int y1, .int 0] : List Value).toArray s = true := fun w h => hts w (List.mem_cons_of_mem _ h)
  have hl : lv_has ls 6 [(0, .ref aP), (1, .int y0), (2, .int y1), (3, .int 0)] := hl
  have z0 := t_0
  refine lv_aload_n hx hb dX6_send_0 rfl (lv_at hl 0 rfl) ?_
  refine lv_iload_n hx hb dX6_send_1 rfl (lv_at hl 1 rfl) ?_
  refine g_ai (D := D) (wc := [(aP, .inr (6, [.int 0, .ref (qP 1), .ref (qP 2), .ref (qP 3), .ref (qP 4), .ref (qP 5), .ref (qP 6), .ref (qP 7), .ref (qP 8), .ref (qP 9), .ref (qP 10), .ref (qP 11), .ref (qP 12), .ref (qP 13), .ref (qP 14)]))]) (wr := []) hP hD hS hA [0] [] rfl rfl rfl rfl (by decide) (fun hPc hDc => va_runV (As := [.int y0]) (rest := []) hF (c_X6_isAlive (l := l) (D := D) (cI := cI) (cB := cB) (cS := cS) (cZ := cZ) (cW := cW) (aP := aP) (y0 := y0) (qP := qP)) (cwV 1 hts (gGV (fun _ h => List.mem_cons_of_mem _ h) wm_161 wm_162 wm_163 wm_81 wm_164) rfl rfl rfl (by decide +kernel) ⟨Nat.le_of_ble_eq_true rfl, Nat.le_of_ble_eq_true rfl⟩) (g_preV (q := (RX6, TX6, 15)) (ci := 6) (q0 := 0) hE hPc hDc rfl rfl) rfl rfl hl.1 rfl (lv_room (Nat.le_of_ble_eq_true rfl)) dX6_send_2 ⟨Nat.le_of_ble_eq_true rfl, Nat.le_of_ble_eq_true rfl⟩) (fun r1 u2 H locs p3 hP hD hS => ?_)
  have hP : va_P D vwCl [(aP, .inr (6, [.int 0, .ref (qP 1), .ref (qP 2), .ref (qP 3), .ref (qP 4), .ref (qP 5), .ref (qP 6), .ref (qP 7), .ref (qP 8), .ref (qP 9), .ref (qP 10), .ref (qP 11), .ref (qP 12), .ref (qP 13), .ref (qP 14)]))] H := hP
  have hD : va_D A [(aP, .inr (6, [.int 0, .ref (qP 1), .ref (qP 2), .ref (qP 3), .ref (qP 4), .ref (qP 5), .ref (qP 6), .ref (qP 7), .ref (qP 8), .ref (qP 9), .ref (qP 10), .ref (qP 11), .ref (qP 12), .ref (qP 13), .ref (qP 14)]))] := hD
  obtain rfl := p3
  refine lv_if_eq (tgt := 21) hx hb dX6_send_5 (by decide) (fun _ => ?_) (fun c9 => absurd c9 (by decide +kernel))
  refine lv_iconst (v := 0) hx hb dX6_send_21 (by decide +kernel) ?_
  refine lv_istore (lv' := [(4, .int 0), (0, .ref aP), (1, .int y0), (2, .int y1), (3, .int 0)]) hx hb dX6_send_22 hl (by decide) rfl (fun ls hl => ?_)
  refine lv_iload hx hb dX6_send_24 (lv_at hl 0 rfl) ?_
  refine lv_if_eq (tgt := 49) hx hb dX6_send_26 (by decide) (fun _ => ?_) (fun c9 => absurd c9 (by decide +kernel))
  refine lv_iconst (v := 0) hx hb dX6_send_49 (by decide +kernel) ?_
  exact g_iret () hF hr rfl hlocks (hP.sub [] rfl) (hD.sub [] rfl rfl) hS rfl dX6_send_50 (Nat.le_of_ble_eq_true rfl) (Nat.le_of_ble_eq_true rfl)
set_option maxHeartbeats 8000000 in
set_option maxRecDepth 100000 in
theorem c_X6_canLearn {l : Launch} {D : va_G} {cI cB cS cZ cW : ClassId} {aP : Nat} {y0 : Int32} {y1 : Int32} {qP : Nat → Nat}  {sz : Nat} : MI l D (gT cI cB cS cZ cW) yX6_canLearn (wG yX6_canLearn cX6_canLearn 5 (some .boolean)) { frames := 1, cells := 0, slots := 0, locals := 21 } [.ref aP, .int y0, .int y1] [(aP, .inr (6, [.int 0, .ref (qP 1), .ref (qP 2), .ref (qP 3), .ref (qP 4), .ref (qP 5), .ref (qP 6), .ref (qP 7), .ref (qP 8), .ref (qP 9), .ref (qP 10), .ref (qP 11), .ref (qP 12), .ref (qP 13), .ref (qP 14)]))] sz (fun (r : Int32) (u : Unit) => r = 0) (fun (u : Unit) => [(aP, .inr (6, [.int 0, .ref (qP 1), .ref (qP 2), .ref (qP 3), .ref (qP 4), .ref (qP 5), .ref (qP 6), .ref (qP 7), .ref (qP 8), .ref (qP 9), .ref (qP 10), .ref (qP 11), .ref (qP 12), .ref (qP 13), .ref (qP 14)]))] : (Unit) → va_W) 0 0 := by
  refine g_enter (y := yX6_canLearn) (w := (wG yX6_canLearn cX6_canLearn 5 (some .boolean))) (As := [.ref aP, .int y0, .int y1]) (D := D) (T := gT cI cB cS cZ cW) (ws := [(aP, .inr (6, [.int 0, .ref (qP 1), .ref (qP 2), .ref (qP 3), .ref (qP 4), .ref (qP 5), .ref (qP 6), .ref (qP 7), .ref (qP 8), .ref (qP 9), .ref (qP 10), .ref (qP 11), .ref (qP 12), .ref (qP 13), .ref (qP 14)]))]) (gQi D (fun (r : Int32) (u : Unit) => r = 0) (fun (u : Unit) => [(aP, .inr (6, [.int 0, .ref (qP 1), .ref (qP 2), .ref (qP 3), .ref (qP 4), .ref (qP 5), .ref (qP 6), .ref (qP 7), .ref (qP 8), .ref (qP 9), .ref (qP 10), .ref (qP 11), .ref (qP 12), .ref (qP 13), .ref (qP 14)]))] : (Unit) → va_W)) (cc := cX6_canLearn) (maxL := 5) (ret := (some .boolean)) (by decide) rfl (Nat.le_of_ble_eq_true rfl) ?_
  intro p e s m below meth c A ls hF hr hlocks hname hsz hE hA hP hD hS hl
  have hF : CallFix p m c cX6_canLearn 5 s ([.ref aP, .int y0, .int y1] : List Value).toArray (wG yX6_canLearn cX6_canLearn 5 (some .boolean)) RX6 := hF
  obtain ⟨hx, hb, hml, hown, hts⟩ := id hF
  have htg : ∀ w ∈ GL, w.before ([.ref aP, .int y0, .int y1] : List Value).toArray s = true := fun w h => hts w (List.mem_cons_of_mem _ h)
  have hl : lv_has ls 5 [(0, .ref aP), (1, .int y0), (2, .int y1)] := hl
  have z0 := t_0
  refine lv_aload_n hx hb dX6_canLearn_0 rfl (lv_at hl 0 rfl) ?_
  refine lv_iload_n hx hb dX6_canLearn_1 rfl (lv_at hl 1 rfl) ?_
  refine g_ai (D := D) (wc := [(aP, .inr (6, [.int 0, .ref (qP 1), .ref (qP 2), .ref (qP 3), .ref (qP 4), .ref (qP 5), .ref (qP 6), .ref (qP 7), .ref (qP 8), .ref (qP 9), .ref (qP 10), .ref (qP 11), .ref (qP 12), .ref (qP 13), .ref (qP 14)]))]) (wr := []) hP hD hS hA [0] [] rfl rfl rfl rfl (by decide) (fun hPc hDc => va_runV (As := [.int y0]) (rest := []) hF (c_X6_isAlive (l := l) (D := D) (cI := cI) (cB := cB) (cS := cS) (cZ := cZ) (cW := cW) (aP := aP) (y0 := y0) (qP := qP)) (cwV 1 hts (gGV (fun _ h => List.mem_cons_of_mem _ h) wm_161 wm_162 wm_163 wm_81 wm_164) rfl rfl rfl (by decide +kernel) ⟨Nat.le_of_ble_eq_true rfl, Nat.le_of_ble_eq_true rfl⟩) (g_preV (q := (RX6, TX6, 15)) (ci := 6) (q0 := 0) hE hPc hDc rfl rfl) rfl rfl hl.1 rfl (lv_room (Nat.le_of_ble_eq_true rfl)) dX6_canLearn_2 ⟨Nat.le_of_ble_eq_true rfl, Nat.le_of_ble_eq_true rfl⟩) (fun r1 u2 H locs p3 hP hD hS => ?_)
  have hP : va_P D vwCl [(aP, .inr (6, [.int 0, .ref (qP 1), .ref (qP 2), .ref (qP 3), .ref (qP 4), .ref (qP 5), .ref (qP 6), .ref (qP 7), .ref (qP 8), .ref (qP 9), .ref (qP 10), .ref (qP 11), .ref (qP 12), .ref (qP 13), .ref (qP 14)]))] H := hP
  have hD : va_D A [(aP, .inr (6, [.int 0, .ref (qP 1), .ref (qP 2), .ref (qP 3), .ref (qP 4), .ref (qP 5), .ref (qP 6), .ref (qP 7), .ref (qP 8), .ref (qP 9), .ref (qP 10), .ref (qP 11), .ref (qP 12), .ref (qP 13), .ref (qP 14)]))] := hD
  obtain rfl := p3
  refine lv_if_eq (tgt := 26) hx hb dX6_canLearn_5 (by decide) (fun _ => ?_) (fun c9 => absurd c9 (by decide +kernel))
  refine lv_iconst (v := 0) hx hb dX6_canLearn_26 (by decide +kernel) ?_
  exact g_iret () hF hr rfl hlocks (hP.sub [0] rfl) (hD.sub [0] rfl rfl) hS rfl dX6_canLearn_27 (Nat.le_of_ble_eq_true rfl) (Nat.le_of_ble_eq_true rfl)
set_option maxHeartbeats 8000000 in
set_option maxRecDepth 100000 in
theorem c_X6_learnFrom {l : Launch} {D : va_G} {cI cB cS cZ cW : ClassId} {aP : Nat} {y0 : Int32} {y1 : Int32} {y2 : Int32} {qP : Nat → Nat}  {sz : Nat} : MI l D (gT cI cB cS cZ cW) yX6_learnFrom (wG yX6_learnFrom cX6_learnFrom 8 (some .int)) { frames := 2, cells := 0, slots := 0, locals := 45 } [.ref aP, .int y0, .int y1, .int y2] [(aP, .inr (6, [.int 0, .ref (qP 1), .ref (qP 2), .ref (qP 3), .ref (qP 4), .ref (qP 5), .ref (qP 6), .ref (qP 7), .ref (qP 8), .ref (qP 9), .ref (qP 10), .ref (qP 11), .ref (qP 12), .ref (qP 13), .ref (qP 14)]))] sz (fun (r : Int32) (u : Unit) => r = (-1)) (fun (u : Unit) => [] : (Unit) → va_W) 0 0 := by
  refine g_enter (y := yX6_learnFrom) (w := (wG yX6_learnFrom cX6_learnFrom 8 (some .int))) (As := [.ref aP, .int y0, .int y1, .int y2]) (D := D) (T := gT cI cB cS cZ cW) (ws := [(aP, .inr (6, [.int 0, .ref (qP 1), .ref (qP 2), .ref (qP 3), .ref (qP 4), .ref (qP 5), .ref (qP 6), .ref (qP 7), .ref (qP 8), .ref (qP 9), .ref (qP 10), .ref (qP 11), .ref (qP 12), .ref (qP 13), .ref (qP 14)]))]) (gQi D (fun (r : Int32) (u : Unit) => r = (-1)) (fun (u : Unit) => [] : (Unit) → va_W)) (cc := cX6_learnFrom) (maxL := 8) (ret := (some .int)) (by decide) rfl (Nat.le_of_ble_eq_true rfl) ?_
  intro p e s m below meth c A ls hF hr hlocks hname hsz hE hA hP hD hS hl
  have hF : CallFix p m c cX6_learnFrom 8 s ([.ref aP, .int y0, .int y1, .int y2] : List Value).toArray (wG yX6_learnFrom cX6_learnFrom 8 (some .int)) RX6 := hF
  obtain ⟨hx, hb, hml, hown, hts⟩ := id hF
  have htg : ∀ w ∈ GL, w.before ([.ref aP, .int y0, .int y1, .int y2] : List Value).toArray s = true := fun w h => hts w (List.mem_cons_of_mem _ h)
  have hl : lv_has ls 8 [(0, .ref aP), (1, .int y0), (2, .int y1), (3, .int y2)] := hl
  have zm1 := tm_1
  have z0 := t_0
  refine lv_aload_n hx hb dX6_learnFrom_0 rfl (lv_at hl 0 rfl) ?_
  refine lv_iload_n hx hb dX6_learnFrom_1 rfl (lv_at hl 1 rfl) ?_
  refine lv_iload_n hx hb dX6_learnFrom_2 rfl (lv_at hl 2 rfl) ?_
  refine g_ai (D := D) (wc := [(aP, .inr (6, [.int 0, .ref (qP 1), .ref (qP 2), .ref (qP 3), .ref (qP 4), .ref (qP 5), .ref (qP 6), .ref (qP 7), .ref (qP 8), .ref (qP 9), .ref (qP 10), .ref (qP 11), .ref (qP 12), .ref (qP 13), .ref (qP 14)]))]) (wr := []) hP hD hS hA [0] [] rfl rfl rfl rfl (by decide) (fun hPc hDc => va_runV (As := [.int y0, .int y1]) (rest := []) hF (c_X6_canLearn (l := l) (D := D) (cI := cI) (cB := cB) (cS := cS) (cZ := cZ) (cW := cW) (aP := aP) (y0 := y0) (y1 := y1) (qP := qP)) (cwV 2 hts (gGV (fun _ h => List.mem_cons_of_mem _ h) wm_165 wm_166 wm_167 wm_81 wm_168) rfl rfl rfl (by decide +kernel) ⟨Nat.le_of_ble_eq_true rfl, Nat.le_of_ble_eq_true rfl⟩) (g_preV (q := (RX6, TX6, 15)) (ci := 6) (q0 := 0) hE hPc hDc rfl rfl) rfl rfl hl.1 rfl (lv_room (Nat.le_of_ble_eq_true rfl)) dX6_learnFrom_3 ⟨Nat.le_of_ble_eq_true rfl, Nat.le_of_ble_eq_true rfl⟩) (fun r1 u2 H locs p3 hP hD hS => ?_)
  have hP : va_P D vwCl [(aP, .inr (6, [.int 0, .ref (qP 1), .ref (qP 2), .ref (qP 3), .ref (qP 4), .ref (qP 5), .ref (qP 6), .ref (qP 7), .ref (qP 8), .ref (qP 9), .ref (qP 10), .ref (qP 11), .ref (qP 12), .ref (qP 13), .ref (qP 14)]))] H := hP
  have hD : va_D A [(aP, .inr (6, [.int 0, .ref (qP 1), .ref (qP 2), .ref (qP 3), .ref (qP 4), .ref (qP 5), .ref (qP 6), .ref (qP 7), .ref (qP 8), .ref (qP 9), .ref (qP 10), .ref (qP 11), .ref (qP 12), .ref (qP 13), .ref (qP 14)]))] := hD
  obtain rfl := p3
  refine lv_if_eq (tgt := 34) hx hb dX6_learnFrom_6 (by decide) (fun _ => ?_) (fun c9 => absurd c9 (by decide +kernel))
  refine lv_iconst (v := (-1)) hx hb dX6_learnFrom_34 (by decide +kernel) ?_
  exact g_iret () hF hr rfl hlocks (hP.sub [] rfl) (hD.sub [] rfl rfl) hS rfl dX6_learnFrom_35 (Nat.le_of_ble_eq_true rfl) (Nat.le_of_ble_eq_true rfl)
set_option maxHeartbeats 8000000 in
set_option maxRecDepth 100000 in
theorem c_X6_endDay {l : Launch} {D : va_G} {cI cB cS cZ cW : ClassId} {aP : Nat} {qP : Nat → Nat}  {sz : Nat} : MV l D (gT cI cB cS cZ cW) yX6_endDay (wG yX6_endDay cX6_endDay 2 none) { frames := 0, cells := 0, slots := 0, locals := 0 } [.ref aP] [(aP, .inr (6, [.int 0, .ref (qP 1), .ref (qP 2), .ref (qP 3), .ref (qP 4), .ref (qP 5), .ref (qP 6), .ref (qP 7), .ref (qP 8), .ref (qP 9), .ref (qP 10), .ref (qP 11), .ref (qP 12), .ref (qP 13), .ref (qP 14)]))] sz (fun (u : Unit) => True) (fun (u : Unit) => [(aP, .inr (6, [.int 0, .ref (qP 1), .ref (qP 2), .ref (qP 3), .ref (qP 4), .ref (qP 5), .ref (qP 6), .ref (qP 7), .ref (qP 8), .ref (qP 9), .ref (qP 10), .ref (qP 11), .ref (qP 12), .ref (qP 13), .ref (qP 14)]))] : (Unit) → va_W) 0 0 := by
  refine g_enter (y := yX6_endDay) (w := (wG yX6_endDay cX6_endDay 2 none)) (As := [.ref aP]) (D := D) (T := gT cI cB cS cZ cW) (ws := [(aP, .inr (6, [.int 0, .ref (qP 1), .ref (qP 2), .ref (qP 3), .ref (qP 4), .ref (qP 5), .ref (qP 6), .ref (qP 7), .ref (qP 8), .ref (qP 9), .ref (qP 10), .ref (qP 11), .ref (qP 12), .ref (qP 13), .ref (qP 14)]))]) (gQv D (fun (u : Unit) => True) (fun (u : Unit) => [(aP, .inr (6, [.int 0, .ref (qP 1), .ref (qP 2), .ref (qP 3), .ref (qP 4), .ref (qP 5), .ref (qP 6), .ref (qP 7), .ref (qP 8), .ref (qP 9), .ref (qP 10), .ref (qP 11), .ref (qP 12), .ref (qP 13), .ref (qP 14)]))] : (Unit) → va_W)) (cc := cX6_endDay) (maxL := 2) (ret := none) (by decide) rfl (Nat.le_of_ble_eq_true rfl) ?_
  intro p e s m below meth c A ls hF hr hlocks hname hsz hE hA hP hD hS hl
  have hF : CallFix p m c cX6_endDay 2 s ([.ref aP] : List Value).toArray (wG yX6_endDay cX6_endDay 2 none) RX6 := hF
  obtain ⟨hx, hb, hml, hown, hts⟩ := id hF
  have htg : ∀ w ∈ GL, w.before ([.ref aP] : List Value).toArray s = true := fun w h => hts w (List.mem_cons_of_mem _ h)
  have hl : lv_has ls 2 [(0, .ref aP)] := hl
  have z0 := t_0
  refine lv_iconst (v := 0) hx hb dX6_endDay_0 (by decide +kernel) ?_
  refine lv_istore_n (lv' := [(1, .int 0), (0, .ref aP)]) hx hb dX6_endDay_1 rfl hl (by decide) rfl (fun ls hl => ?_)
  refine lv_iload_n hx hb dX6_endDay_2 rfl (lv_at hl 0 rfl) ?_
  refine lv_aload_n hx hb dX6_endDay_3 rfl (lv_at hl 1 rfl) ?_
  refine va_get (D := D) (ci := 6) (v := .int 0) (C := RX6) (T := TX6) (N := 15) hx hb htg iwG_6 hown hE.1 hP 0 rfl rfl 0 (by decide) (htg _ wm_14) (fun _ h9 => h9) rfl dX6_endDay_4 ?_
  refine lv_icmp_ge (tgt := 77) hx hb dX6_endDay_7 (by decide) (fun _ => ?_) (fun c9 => absurd c9 (by decide +kernel))
  exact g_vret () hF hr hlocks (hP.sub [0] rfl) (hD.sub [0] rfl rfl) hS trivial dX6_endDay_77 (Nat.le_of_ble_eq_true rfl) (Nat.le_of_ble_eq_true rfl)
set_option maxHeartbeats 8000000 in
set_option maxRecDepth 100000 in
theorem c_X6_arrive {l : Launch} {D : va_G} {cI cB cS cZ cW : ClassId} {aP : Nat} {qP : Nat → Nat}  {sz : Nat} : MV l D (gT cI cB cS cZ cW) yX6_arrive (wG yX6_arrive cX6_arrive 3 none) { frames := 0, cells := 0, slots := 0, locals := 0 } [.ref aP, .int 1] [(aP, .inr (6, [.int 0, .ref (qP 1), .ref (qP 2), .ref (qP 3), .ref (qP 4), .ref (qP 5), .ref (qP 6), .ref (qP 7), .ref (qP 8), .ref (qP 9), .ref (qP 10), .ref (qP 11), .ref (qP 12), .ref (qP 13), .ref (qP 14)]))] sz (fun (u : Unit) => True) (fun (u : Unit) => [(aP, .inr (6, [.int 0, .ref (qP 1), .ref (qP 2), .ref (qP 3), .ref (qP 4), .ref (qP 5), .ref (qP 6), .ref (qP 7), .ref (qP 8), .ref (qP 9), .ref (qP 10), .ref (qP 11), .ref (qP 12), .ref (qP 13), .ref (qP 14)]))] : (Unit) → va_W) 0 0 := by
  refine g_enter (y := yX6_arrive) (w := (wG yX6_arrive cX6_arrive 3 none)) (As := [.ref aP, .int 1]) (D := D) (T := gT cI cB cS cZ cW) (ws := [(aP, .inr (6, [.int 0, .ref (qP 1), .ref (qP 2), .ref (qP 3), .ref (qP 4), .ref (qP 5), .ref (qP 6), .ref (qP 7), .ref (qP 8), .ref (qP 9), .ref (qP 10), .ref (qP 11), .ref (qP 12), .ref (qP 13), .ref (qP 14)]))]) (gQv D (fun (u : Unit) => True) (fun (u : Unit) => [(aP, .inr (6, [.int 0, .ref (qP 1), .ref (qP 2), .ref (qP 3), .ref (qP 4), .ref (qP 5), .ref (qP 6), .ref (qP 7), .ref (qP 8), .ref (qP 9), .ref (qP 10), .ref (qP 11), .ref (qP 12), .ref (qP 13), .ref (qP 14)]))] : (Unit) → va_W)) (cc := cX6_arrive) (maxL := 3) (ret := none) (by decide) rfl (Nat.le_of_ble_eq_true rfl) ?_
  intro p e s m below meth c A ls hF hr hlocks hname hsz hE hA hP hD hS hl
  have hF : CallFix p m c cX6_arrive 3 s ([.ref aP, .int 1] : List Value).toArray (wG yX6_arrive cX6_arrive 3 none) RX6 := hF
  obtain ⟨hx, hb, hml, hown, hts⟩ := id hF
  have htg : ∀ w ∈ GL, w.before ([.ref aP, .int 1] : List Value).toArray s = true := fun w h => hts w (List.mem_cons_of_mem _ h)
  have hl : lv_has ls 3 [(0, .ref aP), (1, .int 1)] := hl
  have z0 := t_0
  refine lv_iconst (v := 0) hx hb dX6_arrive_0 (by decide +kernel) ?_
  refine lv_istore_n (lv' := [(2, .int 0), (0, .ref aP), (1, .int 1)]) hx hb dX6_arrive_1 rfl hl (by decide) rfl (fun ls hl => ?_)
  refine lv_iload_n hx hb dX6_arrive_2 rfl (lv_at hl 0 rfl) ?_
  refine lv_aload_n hx hb dX6_arrive_3 rfl (lv_at hl 1 rfl) ?_
  refine va_get (D := D) (ci := 6) (v := .int 0) (C := RX6) (T := TX6) (N := 15) hx hb htg iwG_6 hown hE.1 hP 0 rfl rfl 0 (by decide) (htg _ wm_14) (fun _ h9 => h9) rfl dX6_arrive_4 ?_
  refine lv_icmp_ge (tgt := 56) hx hb dX6_arrive_7 (by decide) (fun _ => ?_) (fun c9 => absurd c9 (by decide +kernel))
  exact g_vret () hF hr hlocks (hP.sub [0] rfl) (hD.sub [0] rfl rfl) hS trivial dX6_arrive_56 (Nat.le_of_ble_eq_true rfl) (Nat.le_of_ble_eq_true rfl)
set_option maxHeartbeats 8000000 in
set_option maxRecDepth 100000 in
theorem c_X6_living {l : Launch} {D : va_G} {cI cB cS cZ cW : ClassId} {aP : Nat} {qP : Nat → Nat}  {sz : Nat} : MI l D (gT cI cB cS cZ cW) yX6_living (wG yX6_living cX6_living 3 (some .int)) { frames := 0, cells := 0, slots := 0, locals := 0 } [.ref aP] [(aP, .inr (6, [.int 0, .ref (qP 1), .ref (qP 2), .ref (qP 3), .ref (qP 4), .ref (qP 5), .ref (qP 6), .ref (qP 7), .ref (qP 8), .ref (qP 9), .ref (qP 10), .ref (qP 11), .ref (qP 12), .ref (qP 13), .ref (qP 14)]))] sz (fun (r : Int32) (u : Unit) => r = 0) (fun (u : Unit) => [(aP, .inr (6, [.int 0, .ref (qP 1), .ref (qP 2), .ref (qP 3), .ref (qP 4), .ref (qP 5), .ref (qP 6), .ref (qP 7), .ref (qP 8), .ref (qP 9), .ref (qP 10), .ref (qP 11), .ref (qP 12), .ref (qP 13), .ref (qP 14)]))] : (Unit) → va_W) 0 0 := by
  refine g_enter (y := yX6_living) (w := (wG yX6_living cX6_living 3 (some .int))) (As := [.ref aP]) (D := D) (T := gT cI cB cS cZ cW) (ws := [(aP, .inr (6, [.int 0, .ref (qP 1), .ref (qP 2), .ref (qP 3), .ref (qP 4), .ref (qP 5), .ref (qP 6), .ref (qP 7), .ref (qP 8), .ref (qP 9), .ref (qP 10), .ref (qP 11), .ref (qP 12), .ref (qP 13), .ref (qP 14)]))]) (gQi D (fun (r : Int32) (u : Unit) => r = 0) (fun (u : Unit) => [(aP, .inr (6, [.int 0, .ref (qP 1), .ref (qP 2), .ref (qP 3), .ref (qP 4), .ref (qP 5), .ref (qP 6), .ref (qP 7), .ref (qP 8), .ref (qP 9), .ref (qP 10), .ref (qP 11), .ref (qP 12), .ref (qP 13), .ref (qP 14)]))] : (Unit) → va_W)) (cc := cX6_living) (maxL := 3) (ret := (some .int)) (by decide) rfl (Nat.le_of_ble_eq_true rfl) ?_
  intro p e s m below meth c A ls hF hr hlocks hname hsz hE hA hP hD hS hl
  have hF : CallFix p m c cX6_living 3 s ([.ref aP] : List Value).toArray (wG yX6_living cX6_living 3 (some .int)) RX6 := hF
  obtain ⟨hx, hb, hml, hown, hts⟩ := id hF
  have htg : ∀ w ∈ GL, w.before ([.ref aP] : List Value).toArray s = true := fun w h => hts w (List.mem_cons_of_mem _ h)
  have hl : lv_has ls 3 [(0, .ref aP)] := hl
  have z0 := t_0
  refine lv_iconst (v := 0) hx hb dX6_living_0 (by decide +kernel) ?_
  refine lv_istore_n (lv' := [(1, .int 0), (0, .ref aP)]) hx hb dX6_living_1 rfl hl (by decide) rfl (fun ls hl => ?_)
  refine lv_iconst (v := 0) hx hb dX6_living_2 (by decide +kernel) ?_
  refine lv_istore_n (lv' := [(2, .int 0), (1, .int 0), (0, .ref aP)]) hx hb dX6_living_3 rfl hl (by decide) rfl (fun ls hl => ?_)
  refine lv_iload_n hx hb dX6_living_4 rfl (lv_at hl 0 rfl) ?_
  refine lv_aload_n hx hb dX6_living_5 rfl (lv_at hl 2 rfl) ?_
  refine va_get (D := D) (ci := 6) (v := .int 0) (C := RX6) (T := TX6) (N := 15) hx hb htg iwG_6 hown hE.1 hP 0 rfl rfl 0 (by decide) (htg _ wm_14) (fun _ h9 => h9) rfl dX6_living_6 ?_
  refine lv_icmp_ge (tgt := 29) hx hb dX6_living_9 (by decide) (fun _ => ?_) (fun c9 => absurd c9 (by decide +kernel))
  refine lv_iload_n hx hb dX6_living_29 rfl (lv_at hl 1 rfl) ?_
  exact g_iret () hF hr rfl hlocks (hP.sub [0] rfl) (hD.sub [0] rfl rfl) hS rfl dX6_living_30 (Nat.le_of_ble_eq_true rfl) (Nat.le_of_ble_eq_true rfl)
set_option maxHeartbeats 8000000 in
set_option maxRecDepth 100000 in
theorem c_X2_takeFour_0 {l : Launch} {D : va_G} {cI cB cS cZ cW : ClassId} {aC : Nat} {y0 : Int32} {qC : Nat → Nat} {g : Nat → Int32}  {sz : Nat} : MV l D (gT cI cB cS cZ cW) yX2_takeFour (wG yX2_takeFour cX2_takeFour 3 none) { frames := 0, cells := 0, slots := 0, locals := 0 } [.ref aC, .int y0] [(aC, .inr (2, [.ref (qC 0), .int 0, .int 0, .int (-1), .int 0, .ref (qC 5), .ref (qC 6), .ref (qC 7), .ref (qC 8), .ref (qC 9), .ref (qC 10)])), ((qC 0), .inl (cI, 500, .inl g))] sz (fun (u : Nat → Int32) => True) (fun (u : Nat → Int32) => [(aC, .inr (2, [.ref (qC 0), .int 4, .int 0, .int (-1), .int 0, .ref (qC 5), .ref (qC 6), .ref (qC 7), .ref (qC 8), .ref (qC 9), .ref (qC 10)])), ((qC 0), .inl (cI, 500, .inl u))] : (Nat → Int32) → va_W) 0 0 := by
  refine g_enter (y := yX2_takeFour) (w := (wG yX2_takeFour cX2_takeFour 3 none)) (As := [.ref aC, .int y0]) (D := D) (T := gT cI cB cS cZ cW) (ws := [(aC, .inr (2, [.ref (qC 0), .int 0, .int 0, .int (-1), .int 0, .ref (qC 5), .ref (qC 6), .ref (qC 7), .ref (qC 8), .ref (qC 9), .ref (qC 10)])), ((qC 0), .inl (cI, 500, .inl g))]) (gQv D (fun (u : Nat → Int32) => True) (fun (u : Nat → Int32) => [(aC, .inr (2, [.ref (qC 0), .int 4, .int 0, .int (-1), .int 0, .ref (qC 5), .ref (qC 6), .ref (qC 7), .ref (qC 8), .ref (qC 9), .ref (qC 10)])), ((qC 0), .inl (cI, 500, .inl u))] : (Nat → Int32) → va_W)) (cc := cX2_takeFour) (maxL := 3) (ret := none) (by decide) rfl (Nat.le_of_ble_eq_true rfl) ?_
  intro p e s m below meth c A ls hF hr hlocks hname hsz hE hA hP hD hS hl
  have hF : CallFix p m c cX2_takeFour 3 s ([.ref aC, .int y0] : List Value).toArray (wG yX2_takeFour cX2_takeFour 3 none) RX2 := hF
  obtain ⟨hx, hb, hml, hown, hts⟩ := id hF
  have htg : ∀ w ∈ GL, w.before ([.ref aC, .int y0] : List Value).toArray s = true := fun w h => hts w (List.mem_cons_of_mem _ h)
  have hl : lv_has ls 3 [(0, .ref aC), (1, .int y0)] := hl
  have zm8 := tm_8
  have z0 := t_0
  have z1 := t_1
  have z2 := t_2
  have z3 := t_3
  have z4 := t_4
  have z8 := t_8
  have z16 := t_16
  have z24 := t_24
  have z255 := t_255
  refine lv_bipush (v := 24) hx hb dX2_takeFour_0 (by decide +kernel) ?_
  refine lv_istore_n (lv' := [(2, .int 24), (0, .ref aC), (1, .int y0)]) hx hb dX2_takeFour_2 rfl hl (by decide) rfl (fun ls hl => ?_)
  refine lv_iload_n hx hb dX2_takeFour_3 rfl (lv_at hl 0 rfl) ?_
  refine lv_if_lt (tgt := 39) hx hb dX2_takeFour_4 (by decide) (fun c9 => absurd c9 (by decide +kernel)) (fun _ => ?_)
  refine lv_aload_n hx hb dX2_takeFour_7 rfl (lv_at hl 1 rfl) ?_
  refine va_get (D := D) (ci := 2) (v := .ref (qC 0)) (C := RX2) (T := TX2) (N := 11) hx hb htg iwG_2 hown hE.1 hP 0 rfl rfl 0 (by decide) (htg _ wm_34) (fun _ h9 => h9) rfl dX2_takeFour_8 ?_
  refine lv_aload_n hx hb dX2_takeFour_11 rfl (lv_at hl 1 rfl) ?_
  refine va_get (D := D) (ci := 2) (v := .int 0) (C := RX2) (T := TX2) (N := 11) hx hb htg iwG_2 hown hE.1 hP 0 rfl rfl 1 (by decide) (htg _ wm_35) (fun _ h9 => h9) rfl dX2_takeFour_12 ?_
  refine lv_iload_n hx hb dX2_takeFour_15 rfl (lv_at hl 2 rfl) ?_
  refine lv_iload_n hx hb dX2_takeFour_16 rfl (lv_at hl 0 rfl) ?_
  refine lv_ishr hx hb dX2_takeFour_17 ?_
  refine lv_topi (fun v1 ev1 => ?_)
  refine lv_sipush (v := 255) hx hb dX2_takeFour_18 (by decide +kernel) ?_
  refine lv_iand hx hb dX2_takeFour_21 ?_
  refine lv_topi (fun v2 ev2 => ?_)
  refine va_iast hx hb hE.1 hP hD hS 1 0 rfl rfl (vp_in_iff.mpr ⟨by decide +kernel, by decide +kernel⟩) dX2_takeFour_22 (fun H locs hP hD hS => ?_)
  obtain ⟨g3, eg3⟩ : ∃ gz : Nat → Int32, gz = upd g (0 : Int32).toNatClampNeg v2 := ⟨_, rfl⟩
  have hP : va_P D vwCl [(aC, .inr (2, [.ref (qC 0), .int 0, .int 0, .int (-1), .int 0, .ref (qC 5), .ref (qC 6), .ref (qC 7), .ref (qC 8), .ref (qC 9), .ref (qC 10)])), ((qC 0), .inl (cI, 500, .inl g3))] H := by rw [eg3]; exact hP
  have hD : va_D A [(aC, .inr (2, [.ref (qC 0), .int 0, .int 0, .int (-1), .int 0, .ref (qC 5), .ref (qC 6), .ref (qC 7), .ref (qC 8), .ref (qC 9), .ref (qC 10)])), ((qC 0), .inl (cI, 500, .inl g3))] := by rw [eg3]; exact hD
  refine lv_aload_n hx hb dX2_takeFour_23 rfl (lv_at hl 1 rfl) ?_
  refine lv_dup hx hb dX2_takeFour_24 rfl ?_
  refine va_get (D := D) (ci := 2) (v := .int 0) (C := RX2) (T := TX2) (N := 11) hx hb htg iwG_2 hown hE.1 hP 0 rfl rfl 1 (by decide) (htg _ wm_35) (fun _ h9 => h9) rfl dX2_takeFour_25 ?_
  refine lv_iconst (v := 1) hx hb dX2_takeFour_28 (by decide +kernel) ?_
  refine lv_iadd hx hb dX2_takeFour_29 ?_
  refine g_top 1 (by decide +kernel) ?_
  refine va_put (D := D) (ci := 2) (v := .int 1) (ty := tyX2 1) (C := RX2) (T := TX2) (N := 11) hx hb htg iwG_2 tyX2 tyX2_ok nmX2 hown hE.1 hP hD hS 0 rfl rfl 1 (by decide) (htg _ wm_35) (fun _ h9 => h9) rfl (by decide +kernel) rfl rfl (Nat.le_of_ble_eq_true rfl) dX2_takeFour_30 (fun H locs hP hD hS => ?_)
  have hP : va_P D vwCl [(aC, .inr (2, [.ref (qC 0), .int 1, .int 0, .int (-1), .int 0, .ref (qC 5), .ref (qC 6), .ref (qC 7), .ref (qC 8), .ref (qC 9), .ref (qC 10)])), ((qC 0), .inl (cI, 500, .inl g3))] H := hP
  have hD : va_D A [(aC, .inr (2, [.ref (qC 0), .int 1, .int 0, .int (-1), .int 0, .ref (qC 5), .ref (qC 6), .ref (qC 7), .ref (qC 8), .ref (qC 9), .ref (qC 10)])), ((qC 0), .inl (cI, 500, .inl g3))] := hD
  refine lv_iinc (v := 16) (lv' := [(2, .int 16), (0, .ref aC), (1, .int y0)]) hx hb dX2_takeFour_33 hl (k := 0) rfl (by decide +kernel) (by decide) rfl (fun ls hl => ?_)
  refine lv_goto (tgt := 3) hx hb dX2_takeFour_36 (by decide) ?_
  refine lv_iload_n hx hb dX2_takeFour_3 rfl (lv_at hl 0 rfl) ?_
  refine lv_if_lt (tgt := 39) hx hb dX2_takeFour_4 (by decide) (fun c9 => absurd c9 (by decide +kernel)) (fun _ => ?_)
  refine lv_aload_n hx hb dX2_takeFour_7 rfl (lv_at hl 1 rfl) ?_
  refine va_get (D := D) (ci := 2) (v := .ref (qC 0)) (C := RX2) (T := TX2) (N := 11) hx hb htg iwG_2 hown hE.1 hP 0 rfl rfl 0 (by decide) (htg _ wm_34) (fun _ h9 => h9) rfl dX2_takeFour_8 ?_
  refine lv_aload_n hx hb dX2_takeFour_11 rfl (lv_at hl 1 rfl) ?_
  refine va_get (D := D) (ci := 2) (v := .int 1) (C := RX2) (T := TX2) (N := 11) hx hb htg iwG_2 hown hE.1 hP 0 rfl rfl 1 (by decide) (htg _ wm_35) (fun _ h9 => h9) rfl dX2_takeFour_12 ?_
  refine lv_iload_n hx hb dX2_takeFour_15 rfl (lv_at hl 2 rfl) ?_
  refine lv_iload_n hx hb dX2_takeFour_16 rfl (lv_at hl 0 rfl) ?_
  refine lv_ishr hx hb dX2_takeFour_17 ?_
  refine lv_topi (fun v4 ev4 => ?_)
  refine lv_sipush (v := 255) hx hb dX2_takeFour_18 (by decide +kernel) ?_
  refine lv_iand hx hb dX2_takeFour_21 ?_
  refine lv_topi (fun v5 ev5 => ?_)
  refine va_iast hx hb hE.1 hP hD hS 1 0 rfl rfl (vp_in_iff.mpr ⟨by decide +kernel, by decide +kernel⟩) dX2_takeFour_22 (fun H locs hP hD hS => ?_)
  obtain ⟨g6, eg6⟩ : ∃ gz : Nat → Int32, gz = upd g3 (1 : Int32).toNatClampNeg v5 := ⟨_, rfl⟩
  have hP : va_P D vwCl [(aC, .inr (2, [.ref (qC 0), .int 1, .int 0, .int (-1), .int 0, .ref (qC 5), .ref (qC 6), .ref (qC 7), .ref (qC 8), .ref (qC 9), .ref (qC 10)])), ((qC 0), .inl (cI, 500, .inl g6))] H := by rw [eg6]; exact hP
  have hD : va_D A [(aC, .inr (2, [.ref (qC 0), .int 1, .int 0, .int (-1), .int 0, .ref (qC 5), .ref (qC 6), .ref (qC 7), .ref (qC 8), .ref (qC 9), .ref (qC 10)])), ((qC 0), .inl (cI, 500, .inl g6))] := by rw [eg6]; exact hD
  refine lv_aload_n hx hb dX2_takeFour_23 rfl (lv_at hl 1 rfl) ?_
  refine lv_dup hx hb dX2_takeFour_24 rfl ?_
  refine va_get (D := D) (ci := 2) (v := .int 1) (C := RX2) (T := TX2) (N := 11) hx hb htg iwG_2 hown hE.1 hP 0 rfl rfl 1 (by decide) (htg _ wm_35) (fun _ h9 => h9) rfl dX2_takeFour_25 ?_
  refine lv_iconst (v := 1) hx hb dX2_takeFour_28 (by decide +kernel) ?_
  refine lv_iadd hx hb dX2_takeFour_29 ?_
  refine g_top 2 (by decide +kernel) ?_
  refine va_put (D := D) (ci := 2) (v := .int 2) (ty := tyX2 1) (C := RX2) (T := TX2) (N := 11) hx hb htg iwG_2 tyX2 tyX2_ok nmX2 hown hE.1 hP hD hS 0 rfl rfl 1 (by decide) (htg _ wm_35) (fun _ h9 => h9) rfl (by decide +kernel) rfl rfl (Nat.le_of_ble_eq_true rfl) dX2_takeFour_30 (fun H locs hP hD hS => ?_)
  have hP : va_P D vwCl [(aC, .inr (2, [.ref (qC 0), .int 2, .int 0, .int (-1), .int 0, .ref (qC 5), .ref (qC 6), .ref (qC 7), .ref (qC 8), .ref (qC 9), .ref (qC 10)])), ((qC 0), .inl (cI, 500, .inl g6))] H := hP
  have hD : va_D A [(aC, .inr (2, [.ref (qC 0), .int 2, .int 0, .int (-1), .int 0, .ref (qC 5), .ref (qC 6), .ref (qC 7), .ref (qC 8), .ref (qC 9), .ref (qC 10)])), ((qC 0), .inl (cI, 500, .inl g6))] := hD
  refine lv_iinc (v := 8) (lv' := [(2, .int 8), (0, .ref aC), (1, .int y0)]) hx hb dX2_takeFour_33 hl (k := 0) rfl (by decide +kernel) (by decide) rfl (fun ls hl => ?_)
  refine lv_goto (tgt := 3) hx hb dX2_takeFour_36 (by decide) ?_
  refine lv_iload_n hx hb dX2_takeFour_3 rfl (lv_at hl 0 rfl) ?_
  refine lv_if_lt (tgt := 39) hx hb dX2_takeFour_4 (by decide) (fun c9 => absurd c9 (by decide +kernel)) (fun _ => ?_)
  refine lv_aload_n hx hb dX2_takeFour_7 rfl (lv_at hl 1 rfl) ?_
  refine va_get (D := D) (ci := 2) (v := .ref (qC 0)) (C := RX2) (T := TX2) (N := 11) hx hb htg iwG_2 hown hE.1 hP 0 rfl rfl 0 (by decide) (htg _ wm_34) (fun _ h9 => h9) rfl dX2_takeFour_8 ?_
  refine lv_aload_n hx hb dX2_takeFour_11 rfl (lv_at hl 1 rfl) ?_
  refine va_get (D := D) (ci := 2) (v := .int 2) (C := RX2) (T := TX2) (N := 11) hx hb htg iwG_2 hown hE.1 hP 0 rfl rfl 1 (by decide) (htg _ wm_35) (fun _ h9 => h9) rfl dX2_takeFour_12 ?_
  refine lv_iload_n hx hb dX2_takeFour_15 rfl (lv_at hl 2 rfl) ?_
  refine lv_iload_n hx hb dX2_takeFour_16 rfl (lv_at hl 0 rfl) ?_
  refine lv_ishr hx hb dX2_takeFour_17 ?_
  refine lv_topi (fun v7 ev7 => ?_)
  refine lv_sipush (v := 255) hx hb dX2_takeFour_18 (by decide +kernel) ?_
  refine lv_iand hx hb dX2_takeFour_21 ?_
  refine lv_topi (fun v8 ev8 => ?_)
  refine va_iast hx hb hE.1 hP hD hS 1 0 rfl rfl (vp_in_iff.mpr ⟨by decide +kernel, by decide +kernel⟩) dX2_takeFour_22 (fun H locs hP hD hS => ?_)
  obtain ⟨g9, eg9⟩ : ∃ gz : Nat → Int32, gz = upd g6 (2 : Int32).toNatClampNeg v8 := ⟨_, rfl⟩
  have hP : va_P D vwCl [(aC, .inr (2, [.ref (qC 0), .int 2, .int 0, .int (-1), .int 0, .ref (qC 5), .ref (qC 6), .ref (qC 7), .ref (qC 8), .ref (qC 9), .ref (qC 10)])), ((qC 0), .inl (cI, 500, .inl g9))] H := by rw [eg9]; exact hP
  have hD : va_D A [(aC, .inr (2, [.ref (qC 0), .int 2, .int 0, .int (-1), .int 0, .ref (qC 5), .ref (qC 6), .ref (qC 7), .ref (qC 8), .ref (qC 9), .ref (qC 10)])), ((qC 0), .inl (cI, 500, .inl g9))] := by rw [eg9]; exact hD
  refine lv_aload_n hx hb dX2_takeFour_23 rfl (lv_at hl 1 rfl) ?_
  refine lv_dup hx hb dX2_takeFour_24 rfl ?_
  refine va_get (D := D) (ci := 2) (v := .int 2) (C := RX2) (T := TX2) (N := 11) hx hb htg iwG_2 hown hE.1 hP 0 rfl rfl 1 (by decide) (htg _ wm_35) (fun _ h9 => h9) rfl dX2_takeFour_25 ?_
  refine lv_iconst (v := 1) hx hb dX2_takeFour_28 (by decide +kernel) ?_
  refine lv_iadd hx hb dX2_takeFour_29 ?_
  refine g_top 3 (by decide +kernel) ?_
  refine va_put (D := D) (ci := 2) (v := .int 3) (ty := tyX2 1) (C := RX2) (T := TX2) (N := 11) hx hb htg iwG_2 tyX2 tyX2_ok nmX2 hown hE.1 hP hD hS 0 rfl rfl 1 (by decide) (htg _ wm_35) (fun _ h9 => h9) rfl (by decide +kernel) rfl rfl (Nat.le_of_ble_eq_true rfl) dX2_takeFour_30 (fun H locs hP hD hS => ?_)
  have hP : va_P D vwCl [(aC, .inr (2, [.ref (qC 0), .int 3, .int 0, .int (-1), .int 0, .ref (qC 5), .ref (qC 6), .ref (qC 7), .ref (qC 8), .ref (qC 9), .ref (qC 10)])), ((qC 0), .inl (cI, 500, .inl g9))] H := hP
  have hD : va_D A [(aC, .inr (2, [.ref (qC 0), .int 3, .int 0, .int (-1), .int 0, .ref (qC 5), .ref (qC 6), .ref (qC 7), .ref (qC 8), .ref (qC 9), .ref (qC 10)])), ((qC 0), .inl (cI, 500, .inl g9))] := hD
  refine lv_iinc (v := 0) (lv' := [(2, .int 0), (0, .ref aC), (1, .int y0)]) hx hb dX2_takeFour_33 hl (k := 0) rfl (by decide +kernel) (by decide) rfl (fun ls hl => ?_)
  refine lv_goto (tgt := 3) hx hb dX2_takeFour_36 (by decide) ?_
  refine lv_iload_n hx hb dX2_takeFour_3 rfl (lv_at hl 0 rfl) ?_
  refine lv_if_lt (tgt := 39) hx hb dX2_takeFour_4 (by decide) (fun c9 => absurd c9 (by decide +kernel)) (fun _ => ?_)
  refine lv_aload_n hx hb dX2_takeFour_7 rfl (lv_at hl 1 rfl) ?_
  refine va_get (D := D) (ci := 2) (v := .ref (qC 0)) (C := RX2) (T := TX2) (N := 11) hx hb htg iwG_2 hown hE.1 hP 0 rfl rfl 0 (by decide) (htg _ wm_34) (fun _ h9 => h9) rfl dX2_takeFour_8 ?_
  refine lv_aload_n hx hb dX2_takeFour_11 rfl (lv_at hl 1 rfl) ?_
  refine va_get (D := D) (ci := 2) (v := .int 3) (C := RX2) (T := TX2) (N := 11) hx hb htg iwG_2 hown hE.1 hP 0 rfl rfl 1 (by decide) (htg _ wm_35) (fun _ h9 => h9) rfl dX2_takeFour_12 ?_
  refine lv_iload_n hx hb dX2_takeFour_15 rfl (lv_at hl 2 rfl) ?_
  refine lv_iload_n hx hb dX2_takeFour_16 rfl (lv_at hl 0 rfl) ?_
  refine lv_ishr hx hb dX2_takeFour_17 ?_
  refine lv_topi (fun v10 ev10 => ?_)
  refine lv_sipush (v := 255) hx hb dX2_takeFour_18 (by decide +kernel) ?_
  refine lv_iand hx hb dX2_takeFour_21 ?_
  refine lv_topi (fun v11 ev11 => ?_)
  refine va_iast hx hb hE.1 hP hD hS 1 0 rfl rfl (vp_in_iff.mpr ⟨by decide +kernel, by decide +kernel⟩) dX2_takeFour_22 (fun H locs hP hD hS => ?_)
  obtain ⟨g12, eg12⟩ : ∃ gz : Nat → Int32, gz = upd g9 (3 : Int32).toNatClampNeg v11 := ⟨_, rfl⟩
  have hP : va_P D vwCl [(aC, .inr (2, [.ref (qC 0), .int 3, .int 0, .int (-1), .int 0, .ref (qC 5), .ref (qC 6), .ref (qC 7), .ref (qC 8), .ref (qC 9), .ref (qC 10)])), ((qC 0), .inl (cI, 500, .inl g12))] H := by rw [eg12]; exact hP
  have hD : va_D A [(aC, .inr (2, [.ref (qC 0), .int 3, .int 0, .int (-1), .int 0, .ref (qC 5), .ref (qC 6), .ref (qC 7), .ref (qC 8), .ref (qC 9), .ref (qC 10)])), ((qC 0), .inl (cI, 500, .inl g12))] := by rw [eg12]; exact hD
  refine lv_aload_n hx hb dX2_takeFour_23 rfl (lv_at hl 1 rfl) ?_
  refine lv_dup hx hb dX2_takeFour_24 rfl ?_
  refine va_get (D := D) (ci := 2) (v := .int 3) (C := RX2) (T := TX2) (N := 11) hx hb htg iwG_2 hown hE.1 hP 0 rfl rfl 1 (by decide) (htg _ wm_35) (fun _ h9 => h9) rfl dX2_takeFour_25 ?_
  refine lv_iconst (v := 1) hx hb dX2_takeFour_28 (by decide +kernel) ?_
  refine lv_iadd hx hb dX2_takeFour_29 ?_
  refine g_top 4 (by decide +kernel) ?_
  refine va_put (D := D) (ci := 2) (v := .int 4) (ty := tyX2 1) (C := RX2) (T := TX2) (N := 11) hx hb htg iwG_2 tyX2 tyX2_ok nmX2 hown hE.1 hP hD hS 0 rfl rfl 1 (by decide) (htg _ wm_35) (fun _ h9 => h9) rfl (by decide +kernel) rfl rfl (Nat.le_of_ble_eq_true rfl) dX2_takeFour_30 (fun H locs hP hD hS => ?_)
  have hP : va_P D vwCl [(aC, .inr (2, [.ref (qC 0), .int 4, .int 0, .int (-1), .int 0, .ref (qC 5), .ref (qC 6), .ref (qC 7), .ref (qC 8), .ref (qC 9), .ref (qC 10)])), ((qC 0), .inl (cI, 500, .inl g12))] H := hP
  have hD : va_D A [(aC, .inr (2, [.ref (qC 0), .int 4, .int 0, .int (-1), .int 0, .ref (qC 5), .ref (qC 6), .ref (qC 7), .ref (qC 8), .ref (qC 9), .ref (qC 10)])), ((qC 0), .inl (cI, 500, .inl g12))] := hD
  refine lv_iinc (v := (-8)) (lv' := [(2, .int (-8)), (0, .ref aC), (1, .int y0)]) hx hb dX2_takeFour_33 hl (k := 0) rfl (by decide +kernel) (by decide) rfl (fun ls hl => ?_)
  refine lv_goto (tgt := 3) hx hb dX2_takeFour_36 (by decide) ?_
  refine lv_iload_n hx hb dX2_takeFour_3 rfl (lv_at hl 0 rfl) ?_
  refine lv_if_lt (tgt := 39) hx hb dX2_takeFour_4 (by decide) (fun _ => ?_) (fun c9 => absurd c9 (by decide +kernel))
  exact g_vret g12 hF hr hlocks (hP.sub [0, 1] rfl) (hD.sub [0, 1] rfl rfl) hS trivial dX2_takeFour_39 (Nat.le_of_ble_eq_true rfl) (Nat.le_of_ble_eq_true rfl)
