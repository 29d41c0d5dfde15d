set_option maxHeartbeats 8000000 in
set_option maxRecDepth 100000 in
theorem c_X12_in {l : Launch} {D : va_G} {cI cB cS cZ cW : ClassId} {y0 : Int32} {y1 : Int32} {y2 : Int32}  {sz : Nat} : MI l D (gT cI cB cS cZ cW) yX12_in (wG yX12_in cX12_in 3 (some .boolean)) { frames := 0, cells := 0, slots := 0, locals := 0 } [.int y0, .int y1, .int y2] [] sz (fun (r : Int32) (u : Unit) => ((r = 1 ∧ (y1.toInt ≤ y0.toInt ∧ y0.toInt ≤ y2.toInt)) ∨ (r = 0 ∧ ¬ (y1.toInt ≤ y0.toInt ∧ y0.toInt ≤ y2.toInt)))) (fun (u : Unit) => [] : (Unit) → va_W) 0 0 := by
  refine g_enter (y := yX12_in) (w := (wG yX12_in cX12_in 3 (some .boolean))) (As := [.int y0, .int y1, .int y2]) (D := D) (T := gT cI cB cS cZ cW) (ws := []) (gQi D (fun (r : Int32) (u : Unit) => ((r = 1 ∧ (y1.toInt ≤ y0.toInt ∧ y0.toInt ≤ y2.toInt)) ∨ (r = 0 ∧ ¬ (y1.toInt ≤ y0.toInt ∧ y0.toInt ≤ y2.toInt)))) (fun (u : Unit) => [] : (Unit) → va_W)) (cc := cX12_in) (maxL := 3) (ret := (some .boolean)) (by decide) rfl (Nat.le_of_ble_eq_true rfl) ?_
  intro p e s m below meth c A ls hF hr hlocks hname hsz hE hA hP hD hS hl
  have hF : CallFix p m c cX12_in 3 s ([.int y0, .int y1, .int y2] : List Value).toArray (wG yX12_in cX12_in 3 (some .boolean)) RX12 := hF
  obtain ⟨hx, hb, hml, hown, hts⟩ := id hF
  have htg : ∀ w ∈ GL, w.before ([.int y0, .int y1, .int y2] : List Value).toArray s = true := fun w h => hts w (List.mem_cons_of_mem _ h)
  have hl : lv_has ls 3 [(0, .int y0), (1, .int y1), (2, .int y2)] := hl
  have z0 := t_0
  have z1 := t_1
  refine lv_iload_n hx hb dX12_in_0 rfl (lv_at hl 0 rfl) ?_
  refine lv_iload_n hx hb dX12_in_1 rfl (lv_at hl 1 rfl) ?_
  refine lv_icmp_lt (tgt := 14) hx hb dX12_in_2 (by decide) (fun c1 => ?_) (fun c1 => ?_)
  · rw [i_lt] at c1
    refine lv_iconst (v := 0) hx hb dX12_in_14 (by decide +kernel) ?_
    exact g_iret () hF hr rfl hlocks (hP.sub [] rfl) (hD.sub [] rfl rfl) hS (Or.inr ⟨rfl, by omega⟩) dX12_in_15 (Nat.le_of_ble_eq_true rfl) (Nat.le_of_ble_eq_true rfl)
  · rw [i_lt] at c1
    refine lv_iload_n hx hb dX12_in_5 rfl (lv_at hl 0 rfl) ?_
    refine lv_iload_n hx hb dX12_in_6 rfl (lv_at hl 2 rfl) ?_
    refine lv_icmp_gt (tgt := 14) hx hb dX12_in_7 (by decide) (fun c2 => ?_) (fun c2 => ?_)
    · rw [i_lt] at c2
      refine lv_iconst (v := 0) hx hb dX12_in_14 (by decide +kernel) ?_
      exact g_iret () hF hr rfl hlocks (hP.sub [] rfl) (hD.sub [] rfl rfl) hS (Or.inr ⟨rfl, by omega⟩) dX12_in_15 (Nat.le_of_ble_eq_true rfl) (Nat.le_of_ble_eq_true rfl)
    · rw [i_lt] at c2
      refine lv_iconst (v := 1) hx hb dX12_in_10 (by decide +kernel) ?_
      refine lv_goto (tgt := 15) hx hb dX12_in_11 (by decide) ?_
      exact g_iret () hF hr rfl hlocks (hP.sub [] rfl) (hD.sub [] rfl rfl) hS (Or.inl ⟨rfl, by omega⟩) dX12_in_15 (Nat.le_of_ble_eq_true rfl) (Nat.le_of_ble_eq_true rfl)
set_option maxHeartbeats 8000000 in
set_option maxRecDepth 100000 in
theorem c_X12_isMeaning {l : Launch} {D : va_G} {cI cB cS cZ cW : ClassId} {y0 : Int32}  {sz : Nat} : MI l D (gT cI cB cS cZ cW) yX12_isMeaning (wG yX12_isMeaning cX12_isMeaning 1 (some .boolean)) { frames := 1, cells := 0, slots := 0, locals := 22 } [.int y0] [] sz (fun (r : Int32) (u : Unit) => ((r = 1 ∧ (0 ≤ y0.toInt ∧ y0.toInt ≤ 23)) ∨ (r = 0 ∧ ¬ (0 ≤ y0.toInt ∧ y0.toInt ≤ 23)))) (fun (u : Unit) => [] : (Unit) → va_W) 0 0 := by
  refine g_enter (y := yX12_isMeaning) (w := (wG yX12_isMeaning cX12_isMeaning 1 (some .boolean))) (As := [.int y0]) (D := D) (T := gT cI cB cS cZ cW) (ws := []) (gQi D (fun (r : Int32) (u : Unit) => ((r = 1 ∧ (0 ≤ y0.toInt ∧ y0.toInt ≤ 23)) ∨ (r = 0 ∧ ¬ (0 ≤ y0.toInt ∧ y0.toInt ≤ 23)))) (fun (u : Unit) => [] : (Unit) → va_W)) (cc := cX12_isMeaning) (maxL := 1) (ret := (some .boolean)) (by decide) rfl (Nat.le_of_ble_eq_true rfl) ?_
  intro p e s m below meth c A ls hF hr hlocks hname hsz hE hA hP hD hS hl
  have hF : CallFix p m c cX12_isMeaning 1 s ([.int y0] : List Value).toArray (wG yX12_isMeaning cX12_isMeaning 1 (some .boolean)) RX12 := hF
  obtain ⟨hx, hb, hml, hown, hts⟩ := id hF
  have htg : ∀ w ∈ GL, w.before ([.int y0] : List Value).toArray s = true := fun w h => hts w (List.mem_cons_of_mem _ h)
  have hl : lv_has ls 1 [(0, .int y0)] := hl
  have z0 := t_0
  have z1 := t_1
  have z23 := t_23
  refine lv_iload_n hx hb dX12_isMeaning_0 rfl (lv_at hl 0 rfl) ?_
  refine lv_iconst (v := 0) hx hb dX12_isMeaning_1 (by decide +kernel) ?_
  refine lv_bipush (v := 23) hx hb dX12_isMeaning_2 (by decide +kernel) ?_
  refine g_ai (D := D) (wc := []) (wr := []) hP hD hS hA [] [] rfl rfl rfl rfl (by decide) (fun hPc hDc => va_runS (As := [.int y0, .int 0, .int 23]) (rest := []) hF (c_X12_in (l := l) (D := D) (cI := cI) (cB := cB) (cS := cS) (cZ := cZ) (cW := cW) (y0 := y0) (y1 := 0) (y2 := 23)) (va_cwS 3 hts (gGS (fun _ h => List.mem_cons_of_mem _ h) wm_548 wm_549 wm_550 wm_551) rfl rfl rfl (by decide +kernel) ⟨Nat.le_of_ble_eq_true rfl, Nat.le_of_ble_eq_true rfl⟩) (g_preS hE hPc hDc) rfl rfl hl.1 rfl (lv_room (Nat.le_of_ble_eq_true rfl)) dX12_isMeaning_4 ⟨Nat.le_of_ble_eq_true rfl, Nat.le_of_ble_eq_true rfl⟩) (fun r1 u2 H locs p3 hP hD hS => ?_)
  have hP : va_P D vwCl [] H := hP
  have hD : va_D A [] := hD
  rcases p3 with ⟨rfl, p3a⟩ | ⟨rfl, p3a⟩
  · skip
    exact g_iret () hF hr rfl hlocks (hP.sub [] rfl) (hD.sub [] rfl rfl) hS (Or.inl ⟨rfl, by omega⟩) dX12_isMeaning_7 (Nat.le_of_ble_eq_true rfl) (Nat.le_of_ble_eq_true rfl)
  · skip
    exact g_iret () hF hr rfl hlocks (hP.sub [] rfl) (hD.sub [] rfl rfl) hS (Or.inr ⟨rfl, by omega⟩) dX12_isMeaning_7 (Nat.le_of_ble_eq_true rfl) (Nat.le_of_ble_eq_true rfl)
set_option maxHeartbeats 8000000 in
set_option maxRecDepth 100000 in
theorem c_X12_isPlace {l : Launch} {D : va_G} {cI cB cS cZ cW : ClassId} {y0 : Int32}  {sz : Nat} : MI l D (gT cI cB cS cZ cW) yX12_isPlace (wG yX12_isPlace cX12_isPlace 1 (some .boolean)) { frames := 1, cells := 0, slots := 0, locals := 22 } [.int y0] [] sz (fun (r : Int32) (u : Unit) => ((r = 1 ∧ (0 ≤ y0.toInt ∧ y0.toInt ≤ 5)) ∨ (r = 0 ∧ ¬ (0 ≤ y0.toInt ∧ y0.toInt ≤ 5)))) (fun (u : Unit) => [] : (Unit) → va_W) 0 0 := by
  refine g_enter (y := yX12_isPlace) (w := (wG yX12_isPlace cX12_isPlace 1 (some .boolean))) (As := [.int y0]) (D := D) (T := gT cI cB cS cZ cW) (ws := []) (gQi D (fun (r : Int32) (u : Unit) => ((r = 1 ∧ (0 ≤ y0.toInt ∧ y0.toInt ≤ 5)) ∨ (r = 0 ∧ ¬ (0 ≤ y0.toInt ∧ y0.toInt ≤ 5)))) (fun (u : Unit) => [] : (Unit) → va_W)) (cc := cX12_isPlace) (maxL := 1) (ret := (some .boolean)) (by decide) rfl (Nat.le_of_ble_eq_true rfl) ?_
  intro p e s m below meth c A ls hF hr hlocks hname hsz hE hA hP hD hS hl
  have hF : CallFix p m c cX12_isPlace 1 s ([.int y0] : List Value).toArray (wG yX12_isPlace cX12_isPlace 1 (some .boolean)) RX12 := hF
  obtain ⟨hx, hb, hml, hown, hts⟩ := id hF
  have htg : ∀ w ∈ GL, w.before ([.int y0] : List Value).toArray s = true := fun w h => hts w (List.mem_cons_of_mem _ h)
  have hl : lv_has ls 1 [(0, .int y0)] := hl
  have z0 := t_0
  have z1 := t_1
  have z5 := t_5
  refine lv_iload_n hx hb dX12_isPlace_0 rfl (lv_at hl 0 rfl) ?_
  refine lv_iconst (v := 0) hx hb dX12_isPlace_1 (by decide +kernel) ?_
  refine lv_iconst (v := 5) hx hb dX12_isPlace_2 (by decide +kernel) ?_
  refine g_ai (D := D) (wc := []) (wr := []) hP hD hS hA [] [] rfl rfl rfl rfl (by decide) (fun hPc hDc => va_runS (As := [.int y0, .int 0, .int 5]) (rest := []) hF (c_X12_in (l := l) (D := D) (cI := cI) (cB := cB) (cS := cS) (cZ := cZ) (cW := cW) (y0 := y0) (y1 := 0) (y2 := 5)) (va_cwS 3 hts (gGS (fun _ h => List.mem_cons_of_mem _ h) wm_548 wm_549 wm_550 wm_551) rfl rfl rfl (by decide +kernel) ⟨Nat.le_of_ble_eq_true rfl, Nat.le_of_ble_eq_true rfl⟩) (g_preS hE hPc hDc) rfl rfl hl.1 rfl (lv_room (Nat.le_of_ble_eq_true rfl)) dX12_isPlace_3 ⟨Nat.le_of_ble_eq_true rfl, Nat.le_of_ble_eq_true rfl⟩) (fun r1 u2 H locs p3 hP hD hS => ?_)
  have hP : va_P D vwCl [] H := hP
  have hD : va_D A [] := hD
  rcases p3 with ⟨rfl, p3a⟩ | ⟨rfl, p3a⟩
  · skip
    exact g_iret () hF hr rfl hlocks (hP.sub [] rfl) (hD.sub [] rfl rfl) hS (Or.inl ⟨rfl, by omega⟩) dX12_isPlace_6 (Nat.le_of_ble_eq_true rfl) (Nat.le_of_ble_eq_true rfl)
  · skip
    exact g_iret () hF hr rfl hlocks (hP.sub [] rfl) (hD.sub [] rfl rfl) hS (Or.inr ⟨rfl, by omega⟩) dX12_isPlace_6 (Nat.le_of_ble_eq_true rfl) (Nat.le_of_ble_eq_true rfl)
set_option maxHeartbeats 8000000 in
set_option maxRecDepth 100000 in
theorem c_X12_isDay {l : Launch} {D : va_G} {cI cB cS cZ cW : ClassId} {y0 : Int32}  {sz : Nat} : MI l D (gT cI cB cS cZ cW) yX12_isDay (wG yX12_isDay cX12_isDay 1 (some .boolean)) { frames := 1, cells := 0, slots := 0, locals := 22 } [.int y0] [] sz (fun (r : Int32) (u : Unit) => ((r = 1 ∧ (0 ≤ y0.toInt ∧ y0.toInt ≤ 999)) ∨ (r = 0 ∧ ¬ (0 ≤ y0.toInt ∧ y0.toInt ≤ 999)))) (fun (u : Unit) => [] : (Unit) → va_W) 0 0 := by
  refine g_enter (y := yX12_isDay) (w := (wG yX12_isDay cX12_isDay 1 (some .boolean))) (As := [.int y0]) (D := D) (T := gT cI cB cS cZ cW) (ws := []) (gQi D (fun (r : Int32) (u : Unit) => ((r = 1 ∧ (0 ≤ y0.toInt ∧ y0.toInt ≤ 999)) ∨ (r = 0 ∧ ¬ (0 ≤ y0.toInt ∧ y0.toInt ≤ 999)))) (fun (u : Unit) => [] : (Unit) → va_W)) (cc := cX12_isDay) (maxL := 1) (ret := (some .boolean)) (by decide) rfl (Nat.le_of_ble_eq_true rfl) ?_
  intro p e s m below meth c A ls hF hr hlocks hname hsz hE hA hP hD hS hl
  have hF : CallFix p m c cX12_isDay 1 s ([.int y0] : List Value).toArray (wG yX12_isDay cX12_isDay 1 (some .boolean)) RX12 := hF
  obtain ⟨hx, hb, hml, hown, hts⟩ := id hF
  have htg : ∀ w ∈ GL, w.before ([.int y0] : List Value).toArray s = true := fun w h => hts w (List.mem_cons_of_mem _ h)
  have hl : lv_has ls 1 [(0, .int y0)] := hl
  have z0 := t_0
  have z1 := t_1
  have z999 := t_999
  refine lv_iload_n hx hb dX12_isDay_0 rfl (lv_at hl 0 rfl) ?_
  refine lv_iconst (v := 0) hx hb dX12_isDay_1 (by decide +kernel) ?_
  refine lv_sipush (v := 999) hx hb dX12_isDay_2 (by decide +kernel) ?_
  refine g_ai (D := D) (wc := []) (wr := []) hP hD hS hA [] [] rfl rfl rfl rfl (by decide) (fun hPc hDc => va_runS (As := [.int y0, .int 0, .int 999]) (rest := []) hF (c_X12_in (l := l) (D := D) (cI := cI) (cB := cB) (cS := cS) (cZ := cZ) (cW := cW) (y0 := y0) (y1 := 0) (y2 := 999)) (va_cwS 3 hts (gGS (fun _ h => List.mem_cons_of_mem _ h) wm_548 wm_549 wm_550 wm_551) rfl rfl rfl (by decide +kernel) ⟨Nat.le_of_ble_eq_true rfl, Nat.le_of_ble_eq_true rfl⟩) (g_preS hE hPc hDc) rfl rfl hl.1 rfl (lv_room (Nat.le_of_ble_eq_true rfl)) dX12_isDay_5 ⟨Nat.le_of_ble_eq_true rfl, Nat.le_of_ble_eq_true rfl⟩) (fun r1 u2 H locs p3 hP hD hS => ?_)
  have hP : va_P D vwCl [] H := hP
  have hD : va_D A [] := hD
  rcases p3 with ⟨rfl, p3a⟩ | ⟨rfl, p3a⟩
  · skip
    exact g_iret () hF hr rfl hlocks (hP.sub [] rfl) (hD.sub [] rfl rfl) hS (Or.inl ⟨rfl, by omega⟩) dX12_isDay_8 (Nat.le_of_ble_eq_true rfl) (Nat.le_of_ble_eq_true rfl)
  · skip
    exact g_iret () hF hr rfl hlocks (hP.sub [] rfl) (hD.sub [] rfl rfl) hS (Or.inr ⟨rfl, by omega⟩) dX12_isDay_8 (Nat.le_of_ble_eq_true rfl) (Nat.le_of_ble_eq_true rfl)
set_option maxHeartbeats 8000000 in
set_option maxRecDepth 100000 in
theorem c_X12_isTongue {l : Launch} {D : va_G} {cI cB cS cZ cW : ClassId} {aM : Nat} {y0 : Int32} {qM : Nat → Nat}  {sz : Nat} : MI l D (gT cI cB cS cZ cW) yX12_isTongue (wG yX12_isTongue cX12_isTongue 2 (some .boolean)) { frames := 1, cells := 0, slots := 0, locals := 22 } [.ref aM, .int y0] [(aM, oM qM 0 0 0 0 0 0 0 0 0 0 0 0 0 0 0 0 0 0), ((qM 6), .inl (cI, 4, .inl (fun _ => 0)))] sz (fun (r : Int32) (u : Unit) => r = 0) (fun (u : Unit) => [(aM, oM qM 0 0 0 0 0 0 0 0 0 0 0 0 0 0 0 0 0 0), ((qM 6), .inl (cI, 4, .inl (fun _ => 0)))] : (Unit) → va_W) 0 0 := by
  refine g_enter (y := yX12_isTongue) (w := (wG yX12_isTongue cX12_isTongue 2 (some .boolean))) (As := [.ref aM, .int y0]) (D := D) (T := gT cI cB cS cZ cW) (ws := [(aM, oM qM 0 0 0 0 0 0 0 0 0 0 0 0 0 0 0 0 0 0), ((qM 6), .inl (cI, 4, .inl (fun _ => 0)))]) (gQi D (fun (r : Int32) (u : Unit) => r = 0) (fun (u : Unit) => [(aM, oM qM 0 0 0 0 0 0 0 0 0 0 0 0 0 0 0 0 0 0), ((qM 6), .inl (cI, 4, .inl (fun _ => 0)))] : (Unit) → va_W)) (cc := cX12_isTongue) (maxL := 2) (ret := (some .boolean)) (by decide) rfl (Nat.le_of_ble_eq_true rfl) ?_
  intro p e s m below meth c A ls hF hr hlocks hname hsz hE hA hP hD hS hl
  have hF : CallFix p m c cX12_isTongue 2 s ([.ref aM, .int y0] : List Value).toArray (wG yX12_isTongue cX12_isTongue 2 (some .boolean)) RX12 := hF
  obtain ⟨hx, hb, hml, hown, hts⟩ := id hF
  have htg : ∀ w ∈ GL, w.before ([.ref aM, .int y0] : List Value).toArray s = true := fun w h => hts w (List.mem_cons_of_mem _ h)
  have hl : lv_has ls 2 [(0, .ref aM), (1, .int y0)] := hl
  have zm1 := tm_1
  have z0 := t_0
  have z1 := t_1
  refine lv_iload_n hx hb dX12_isTongue_0 rfl (lv_at hl 1 rfl) ?_
  refine lv_iconst (v := 0) hx hb dX12_isTongue_1 (by decide +kernel) ?_
  refine lv_aload_n hx hb dX12_isTongue_2 rfl (lv_at hl 0 rfl) ?_
  refine va_get (D := D) (ci := 12) (v := .ref (qM 6)) (C := RX12) (T := TX12) (N := 97) hx hb htg iwG_12 hown hE.1 hP 0 rfl rfl 6 (by decide) (htg _ wm_472) (fun _ h9 => h9) rfl dX12_isTongue_3 ?_
  refine lv_iconst (v := 0) hx hb dX12_isTongue_6 (by decide +kernel) ?_
  refine va_iald hx hb hE.1 hP 1 0 rfl rfl (vp_in_iff.mpr ⟨by decide +kernel, by decide +kernel⟩) dX12_isTongue_7 ?_
  refine g_top 0 rfl ?_
  refine lv_iconst (v := 1) hx hb dX12_isTongue_8 (by decide +kernel) ?_
  refine lv_isub hx hb dX12_isTongue_9 ?_
  refine g_top (-1) (by decide +kernel) ?_
  refine g_ai (D := D) (wc := []) (wr := [(aM, oM qM 0 0 0 0 0 0 0 0 0 0 0 0 0 0 0 0 0 0), ((qM 6), .inl (cI, 4, .inl (fun _ => 0)))]) hP hD hS hA [] [0, 1] rfl rfl rfl rfl (by decide) (fun hPc hDc => va_runS (As := [.int y0, .int 0, .int (-1)]) (rest := []) hF (c_X12_in (l := l) (D := D) (cI := cI) (cB := cB) (cS := cS) (cZ := cZ) (cW := cW) (y0 := y0) (y1 := 0) (y2 := (-1))) (va_cwS 3 hts (gGS (fun _ h => List.mem_cons_of_mem _ h) wm_548 wm_549 wm_550 wm_551) rfl rfl rfl (by decide +kernel) ⟨Nat.le_of_ble_eq_true rfl, Nat.le_of_ble_eq_true rfl⟩) (g_preS hE hPc hDc) rfl rfl hl.1 rfl (lv_room (Nat.le_of_ble_eq_true rfl)) dX12_isTongue_10 ⟨Nat.le_of_ble_eq_true rfl, Nat.le_of_ble_eq_true rfl⟩) (fun r1 u2 H locs p3 hP hD hS => ?_)
  have hP : va_P D vwCl [(aM, oM qM 0 0 0 0 0 0 0 0 0 0 0 0 0 0 0 0 0 0), ((qM 6), .inl (cI, 4, .inl (fun _ => 0)))] H := hP
  have hD : va_D A [(aM, oM qM 0 0 0 0 0 0 0 0 0 0 0 0 0 0 0 0 0 0), ((qM 6), .inl (cI, 4, .inl (fun _ => 0)))] := hD
  rcases p3 with ⟨rfl, p3a⟩ | ⟨rfl, p3a⟩
  · exfalso; omega
  · skip
    exact g_iret () hF hr rfl hlocks (hP.sub [0, 1] rfl) (hD.sub [0, 1] rfl rfl) hS rfl dX12_isTongue_13 (Nat.le_of_ble_eq_true rfl) (Nat.le_of_ble_eq_true rfl)
set_option maxHeartbeats 8000000 in
set_option maxRecDepth 100000 in
theorem c_X12_isPerson {l : Launch} {D : va_G} {cI cB cS cZ cW : ClassId} {aM : Nat} {y0 : Int32} {qM : Nat → Nat}  {sz : Nat} : MI l D (gT cI cB cS cZ cW) yX12_isPerson (wG yX12_isPerson cX12_isPerson 2 (some .boolean)) { frames := 1, cells := 0, slots := 0, locals := 22 } [.ref aM, .int y0] [(aM, oM qM 0 0 0 0 0 0 0 0 0 0 0 0 0 0 0 0 0 0), ((qM 14), .inl (cI, 4, .inl (fun _ => 0)))] sz (fun (r : Int32) (u : Unit) => r = 0) (fun (u : Unit) => [(aM, oM qM 0 0 0 0 0 0 0 0 0 0 0 0 0 0 0 0 0 0), ((qM 14), .inl (cI, 4, .inl (fun _ => 0)))] : (Unit) → va_W) 0 0 := by
  refine g_enter (y := yX12_isPerson) (w := (wG yX12_isPerson cX12_isPerson 2 (some .boolean))) (As := [.ref aM, .int y0]) (D := D) (T := gT cI cB cS cZ cW) (ws := [(aM, oM qM 0 0 0 0 0 0 0 0 0 0 0 0 0 0 0 0 0 0), ((qM 14), .inl (cI, 4, .inl (fun _ => 0)))]) (gQi D (fun (r : Int32) (u : Unit) => r = 0) (fun (u : Unit) => [(aM, oM qM 0 0 0 0 0 0 0 0 0 0 0 0 0 0 0 0 0 0), ((qM 14), .inl (cI, 4, .inl (fun _ => 0)))] : (Unit) → va_W)) (cc := cX12_isPerson) (maxL := 2) (ret := (some .boolean)) (by decide) rfl (Nat.le_of_ble_eq_true rfl) ?_
  intro p e s m below meth c A ls hF hr hlocks hname hsz hE hA hP hD hS hl
  have hF : CallFix p m c cX12_isPerson 2 s ([.ref aM, .int y0] : List Value).toArray (wG yX12_isPerson cX12_isPerson 2 (some .boolean)) RX12 := hF
  obtain ⟨hx, hb, hml, hown, hts⟩ := id hF
  have htg : ∀ w ∈ GL, w.before ([.ref aM, .int y0] : List Value).toArray s = true := fun w h => hts w (List.mem_cons_of_mem _ h)
  have hl : lv_has ls 2 [(0, .ref aM), (1, .int y0)] := hl
  have zm1 := tm_1
  have z0 := t_0
  have z1 := t_1
  refine lv_iload_n hx hb dX12_isPerson_0 rfl (lv_at hl 1 rfl) ?_
  refine lv_iconst (v := 0) hx hb dX12_isPerson_1 (by decide +kernel) ?_
  refine lv_aload_n hx hb dX12_isPerson_2 rfl (lv_at hl 0 rfl) ?_
  refine va_get (D := D) (ci := 12) (v := .ref (qM 14)) (C := RX12) (T := TX12) (N := 97) hx hb htg iwG_12 hown hE.1 hP 0 rfl rfl 14 (by decide) (htg _ wm_480) (fun _ h9 => h9) rfl dX12_isPerson_3 ?_
  refine lv_iconst (v := 0) hx hb dX12_isPerson_6 (by decide +kernel) ?_
  refine va_iald hx hb hE.1 hP 1 0 rfl rfl (vp_in_iff.mpr ⟨by decide +kernel, by decide +kernel⟩) dX12_isPerson_7 ?_
  refine g_top 0 rfl ?_
  refine lv_iconst (v := 1) hx hb dX12_isPerson_8 (by decide +kernel) ?_
  refine lv_isub hx hb dX12_isPerson_9 ?_
  refine g_top (-1) (by decide +kernel) ?_
  refine g_ai (D := D) (wc := []) (wr := [(aM, oM qM 0 0 0 0 0 0 0 0 0 0 0 0 0 0 0 0 0 0), ((qM 14), .inl (cI, 4, .inl (fun _ => 0)))]) hP hD hS hA [] [0, 1] rfl rfl rfl rfl (by decide) (fun hPc hDc => va_runS (As := [.int y0, .int 0, .int (-1)]) (rest := []) hF (c_X12_in (l := l) (D := D) (cI := cI) (cB := cB) (cS := cS) (cZ := cZ) (cW := cW) (y0 := y0) (y1 := 0) (y2 := (-1))) (va_cwS 3 hts (gGS (fun _ h => List.mem_cons_of_mem _ h) wm_548 wm_549 wm_550 wm_551) rfl rfl rfl (by decide +kernel) ⟨Nat.le_of_ble_eq_true rfl, Nat.le_of_ble_eq_true rfl⟩) (g_preS hE hPc hDc) rfl rfl hl.1 rfl (lv_room (Nat.le_of_ble_eq_true rfl)) dX12_isPerson_10 ⟨Nat.le_of_ble_eq_true rfl, Nat.le_of_ble_eq_true rfl⟩) (fun r1 u2 H locs p3 hP hD hS => ?_)
  have hP : va_P D vwCl [(aM, oM qM 0 0 0 0 0 0 0 0 0 0 0 0 0 0 0 0 0 0), ((qM 14), .inl (cI, 4, .inl (fun _ => 0)))] H := hP
  have hD : va_D A [(aM, oM qM 0 0 0 0 0 0 0 0 0 0 0 0 0 0 0 0 0 0), ((qM 14), .inl (cI, 4, .inl (fun _ => 0)))] := hD
  rcases p3 with ⟨rfl, p3a⟩ | ⟨rfl, p3a⟩
  · exfalso; omega
  · skip
    exact g_iret () hF hr rfl hlocks (hP.sub [0, 1] rfl) (hD.sub [0, 1] rfl rfl) hS rfl dX12_isPerson_13 (Nat.le_of_ble_eq_true rfl) (Nat.le_of_ble_eq_true rfl)
set_option maxHeartbeats 8000000 in
set_option maxRecDepth 100000 in
theorem c_X12_isAlive {l : Launch} {D : va_G} {cI cB cS cZ cW : ClassId} {aM : Nat} {y0 : Int32} {qM : Nat → Nat}  {sz : Nat} : MI l D (gT cI cB cS cZ cW) yX12_isAlive (wG yX12_isAlive cX12_isAlive 2 (some .boolean)) { frames := 2, cells := 0, slots := 0, locals := 43 } [.ref aM, .int y0] [(aM, oM qM 0 0 0 0 0 0 0 0 0 0 0 0 0 0 0 0 0 0), ((qM 14), .inl (cI, 4, .inl (fun _ => 0)))] sz (fun (r : Int32) (u : Unit) => r = 0) (fun (u : Unit) => [(aM, oM qM 0 0 0 0 0 0 0 0 0 0 0 0 0 0 0 0 0 0), ((qM 14), .inl (cI, 4, .inl (fun _ => 0)))] : (Unit) → va_W) 0 0 := by
  refine g_enter (y := yX12_isAlive) (w := (wG yX12_isAlive cX12_isAlive 2 (some .boolean))) (As := [.ref aM, .int y0]) (D := D) (T := gT cI cB cS cZ cW) (ws := [(aM, oM qM 0 0 0 0 0 0 0 0 0 0 0 0 0 0 0 0 0 0), ((qM 14), .inl (cI, 4, .inl (fun _ => 0)))]) (gQi D (fun (r : Int32) (u : Unit) => r = 0) (fun (u : Unit) => [(aM, oM qM 0 0 0 0 0 0 0 0 0 0 0 0 0 0 0 0 0 0), ((qM 14), .inl (cI, 4, .inl (fun _ => 0)))] : (Unit) → va_W)) (cc := cX12_isAlive) (maxL := 2) (ret := (some .boolean)) (by decide) rfl (Nat.le_of_ble_eq_true rfl) ?_
  intro p e s m below meth c A ls hF hr hlocks hname hsz hE hA hP hD hS hl
  have hF : CallFix p m c cX12_isAlive 2 s ([.ref aM, .int y0] : List Value).toArray (wG yX12_isAlive cX12_isAlive 2 (some .boolean)) RX12 := hF
  obtain ⟨hx, hb, hml, hown, hts⟩ := id hF
  have htg : ∀ w ∈ GL, w.before ([.ref aM, .int y0] : List Value).toArray s = true := fun w h => hts w (List.mem_cons_of_mem _ h)
  have hl : lv_has ls 2 [(0, .ref aM), (1, .int y0)] := hl
  have z0 := t_0
  refine lv_aload_n hx hb dX12_isAlive_0 rfl (lv_at hl 0 rfl) ?_
  refine lv_iload_n hx hb dX12_isAlive_1 rfl (lv_at hl 1 rfl) ?_
  refine g_ai (D := D) (wc := [(aM, oM qM 0 0 0 0 0 0 0 0 0 0 0 0 0 0 0 0 0 0), ((qM 14), .inl (cI, 4, .inl (fun _ => 0)))]) (wr := []) hP hD hS hA [0, 1] [] rfl rfl rfl rfl (by decide) (fun hPc hDc => va_runV (As := [.int y0]) (rest := []) hF (c_X12_isPerson (l := l) (D := D) (cI := cI) (cB := cB) (cS := cS) (cZ := cZ) (cW := cW) (aM := aM) (y0 := y0) (qM := qM)) (cwV 1 hts (gGV (fun _ h => List.mem_cons_of_mem _ h) wm_552 wm_553 wm_554 wm_550 wm_555) rfl rfl rfl (by decide +kernel) ⟨Nat.le_of_ble_eq_true rfl, Nat.le_of_ble_eq_true rfl⟩) (g_preV (q := (RX12, TX12, 97)) (ci := 12) (q0 := 0) hE hPc hDc rfl rfl) rfl rfl hl.1 rfl (lv_room (Nat.le_of_ble_eq_true rfl)) dX12_isAlive_2 ⟨Nat.le_of_ble_eq_true rfl, Nat.le_of_ble_eq_true rfl⟩) (fun r1 u2 H locs p3 hP hD hS => ?_)
  have hP : va_P D vwCl [(aM, oM qM 0 0 0 0 0 0 0 0 0 0 0 0 0 0 0 0 0 0), ((qM 14), .inl (cI, 4, .inl (fun _ => 0)))] H := hP
  have hD : va_D A [(aM, oM qM 0 0 0 0 0 0 0 0 0 0 0 0 0 0 0 0 0 0), ((qM 14), .inl (cI, 4, .inl (fun _ => 0)))] := hD
  obtain rfl := p3
  refine lv_if_eq (tgt := 22) hx hb dX12_isAlive_5 (by decide) (fun _ => ?_) (fun c9 => absurd c9 (by decide +kernel))
  refine lv_iconst (v := 0) hx hb dX12_isAlive_22 (by decide +kernel) ?_
  exact g_iret () hF hr rfl hlocks (hP.sub [0, 1] rfl) (hD.sub [0, 1] rfl rfl) hS rfl dX12_isAlive_23 (Nat.le_of_ble_eq_true rfl) (Nat.le_of_ble_eq_true rfl)
set_option maxHeartbeats 8000000 in
set_option maxRecDepth 100000 in
theorem c_X12_isWorker {l : Launch} {D : va_G} {cI cB cS cZ cW : ClassId} {aM : Nat} {y0 : Int32} {qM : Nat → Nat}  {sz : Nat} : MI l D (gT cI cB cS cZ cW) yX12_isWorker (wG yX12_isWorker cX12_isWorker 2 (some .boolean)) { frames := 2, cells := 0, slots := 0, locals := 43 } [.ref aM, .int y0] [(aM, oM qM 0 0 0 0 0 0 0 0 0 0 0 0 0 0 0 0 0 0), ((qM 14), .inl (cI, 4, .inl (fun _ => 0)))] sz (fun (r : Int32) (u : Unit) => r = 0) (fun (u : Unit) => [(aM, oM qM 0 0 0 0 0 0 0 0 0 0 0 0 0 0 0 0 0 0), ((qM 14), .inl (cI, 4, .inl (fun _ => 0)))] : (Unit) → va_W) 0 0 := by
  refine g_enter (y := yX12_isWorker) (w := (wG yX12_isWorker cX12_isWorker 2 (some .boolean))) (As := [.ref aM, .int y0]) (D := D) (T := gT cI cB cS cZ cW) (ws := [(aM, oM qM 0 0 0 0 0 0 0 0 0 0 0 0 0 0 0 0 0 0), ((qM 14), .inl (cI, 4, .inl (fun _ => 0)))]) (gQi D (fun (r : Int32) (u : Unit) => r = 0) (fun (u : Unit) => [(aM, oM qM 0 0 0 0 0 0 0 0 0 0 0 0 0 0 0 0 0 0), ((qM 14), .inl (cI, 4, .inl (fun _ => 0)))] : (Unit) → va_W)) (cc := cX12_isWorker) (maxL := 2) (ret := (some .boolean)) (by decide) rfl (Nat.le_of_ble_eq_true rfl) ?_
  intro p e s m below meth c A ls hF hr hlocks hname hsz hE hA hP hD hS hl
  have hF : CallFix p m c cX12_isWorker 2 s ([.ref aM, .int y0] : List Value).toArray (wG yX12_isWorker cX12_isWorker 2 (some .boolean)) RX12 := hF
  obtain ⟨hx, hb, hml, hown, hts⟩ := id hF
  have htg : ∀ w ∈ GL, w.before ([.ref aM, .int y0] : List Value).toArray s = true := fun w h => hts w (List.mem_cons_of_mem _ h)
  have hl : lv_has ls 2 [(0, .ref aM), (1, .int y0)] := hl
  have z0 := t_0
  refine lv_aload_n hx hb dX12_isWorker_0 rfl (lv_at hl 0 rfl) ?_
  refine lv_iload_n hx hb dX12_isWorker_1 rfl (lv_at hl 1 rfl) ?_
  refine g_ai (D := D) (wc := [(aM, oM qM 0 0 0 0 0 0 0 0 0 0 0 0 0 0 0 0 0 0), ((qM 14), .inl (cI, 4, .inl (fun _ => 0)))]) (wr := []) hP hD hS hA [0, 1] [] rfl rfl rfl rfl (by decide) (fun hPc hDc => va_runV (As := [.int y0]) (rest := []) hF (c_X12_isPerson (l := l) (D := D) (cI := cI) (cB := cB) (cS := cS) (cZ := cZ) (cW := cW) (aM := aM) (y0 := y0) (qM := qM)) (cwV 1 hts (gGV (fun _ h => List.mem_cons_of_mem _ h) wm_552 wm_553 wm_554 wm_550 wm_555) rfl rfl rfl (by decide +kernel) ⟨Nat.le_of_ble_eq_true rfl, Nat.le_of_ble_eq_true rfl⟩) (g_preV (q := (RX12, TX12, 97)) (ci := 12) (q0 := 0) hE hPc hDc rfl rfl) rfl rfl hl.1 rfl (lv_room (Nat.le_of_ble_eq_true rfl)) dX12_isWorker_2 ⟨Nat.le_of_ble_eq_true rfl, Nat.le_of_ble_eq_true rfl⟩) (fun r1 u2 H locs p3 hP hD hS => ?_)
  have hP : va_P D vwCl [(aM, oM qM 0 0 0 0 0 0 0 0 0 0 0 0 0 0 0 0 0 0), ((qM 14), .inl (cI, 4, .inl (fun _ => 0)))] H := hP
  have hD : va_D A [(aM, oM qM 0 0 0 0 0 0 0 0 0 0 0 0 0 0 0 0 0 0), ((qM 14), .inl (cI, 4, .inl (fun _ => 0)))] := hD
  obtain rfl := p3
  refine lv_if_eq (tgt := 22) hx hb dX12_isWorker_5 (by decide) (fun _ => ?_) (fun c9 => absurd c9 (by decide +kernel))
  refine lv_iconst (v := 0) hx hb dX12_isWorker_22 (by decide +kernel) ?_
  exact g_iret () hF hr rfl hlocks (hP.sub [0, 1] rfl) (hD.sub [0, 1] rfl rfl) hS rfl dX12_isWorker_23 (Nat.le_of_ble_eq_true rfl) (Nat.le_of_ble_eq_true rfl)
set_option maxHeartbeats 8000000 in
set_option maxRecDepth 100000 in
theorem c_X12_isTape {l : Launch} {D : va_G} {cI cB cS cZ cW : ClassId} {aM : Nat} {y0 : Int32} {qM : Nat → Nat}  {sz : Nat} : MI l D (gT cI cB cS cZ cW) yX12_isTape (wG yX12_isTape cX12_isTape 2 (some .boolean)) { frames := 1, cells := 0, slots := 0, locals := 22 } [.ref aM, .int y0] [(aM, oM qM 0 0 0 0 0 0 0 0 0 0 0 0 0 0 0 0 0 0), ((qM 38), .inl (cI, 4, .inl (fun _ => 0)))] sz (fun (r : Int32) (u : Unit) => r = 0) (fun (u : Unit) => [(aM, oM qM 0 0 0 0 0 0 0 0 0 0 0 0 0 0 0 0 0 0), ((qM 38), .inl (cI, 4, .inl (fun _ => 0)))] : (Unit) → va_W) 0 0 := by
  refine g_enter (y := yX12_isTape) (w := (wG yX12_isTape cX12_isTape 2 (some .boolean))) (As := [.ref aM, .int y0]) (D := D) (T := gT cI cB cS cZ cW) (ws := [(aM, oM qM 0 0 0 0 0 0 0 0 0 0 0 0 0 0 0 0 0 0), ((qM 38), .inl (cI, 4, .inl (fun _ => 0)))]) (gQi D (fun (r : Int32) (u : Unit) => r = 0) (fun (u : Unit) => [(aM, oM qM 0 0 0 0 0 0 0 0 0 0 0 0 0 0 0 0 0 0), ((qM 38), .inl (cI, 4, .inl (fun _ => 0)))] : (Unit) → va_W)) (cc := cX12_isTape) (maxL := 2) (ret := (some .boolean)) (by decide) rfl (Nat.le_of_ble_eq_true rfl) ?_
  intro p e s m below meth c A ls hF hr hlocks hname hsz hE hA hP hD hS hl
  have hF : CallFix p m c cX12_isTape 2 s ([.ref aM, .int y0] : List Value).toArray (wG yX12_isTape cX12_isTape 2 (some .boolean)) RX12 := hF
  obtain ⟨hx, hb, hml, hown, hts⟩ := id hF
  have htg : ∀ w ∈ GL, w.before ([.ref aM, .int y0] : List Value).toArray s = true := fun w h => hts w (List.mem_cons_of_mem _ h)
  have hl : lv_has ls 2 [(0, .ref aM), (1, .int y0)] := hl
  have zm1 := tm_1
  have z0 := t_0
  have z1 := t_1
  refine lv_iload_n hx hb dX12_isTape_0 rfl (lv_at hl 1 rfl) ?_
  refine lv_iconst (v := 0) hx hb dX12_isTape_1 (by decide +kernel) ?_
  refine lv_aload_n hx hb dX12_isTape_2 rfl (lv_at hl 0 rfl) ?_
  refine va_get (D := D) (ci := 12) (v := .ref (qM 38)) (C := RX12) (T := TX12) (N := 97) hx hb htg iwG_12 hown hE.1 hP 0 rfl rfl 38 (by decide) (htg _ wm_505) (fun _ h9 => h9) rfl dX12_isTape_3 ?_
  refine lv_iconst (v := 0) hx hb dX12_isTape_6 (by decide +kernel) ?_
  refine va_iald hx hb hE.1 hP 1 0 rfl rfl (vp_in_iff.mpr ⟨by decide +kernel, by decide +kernel⟩) dX12_isTape_7 ?_
  refine g_top 0 rfl ?_
  refine lv_iconst (v := 1) hx hb dX12_isTape_8 (by decide +kernel) ?_
  refine lv_isub hx hb dX12_isTape_9 ?_
  refine g_top (-1) (by decide +kernel) ?_
  refine g_ai (D := D) (wc := []) (wr := [(aM, oM qM 0 0 0 0 0 0 0 0 0 0 0 0 0 0 0 0 0 0), ((qM 38), .inl (cI, 4, .inl (fun _ => 0)))]) hP hD hS hA [] [0, 1] rfl rfl rfl rfl (by decide) (fun hPc hDc => va_runS (As := [.int y0, .int 0, .int (-1)]) (rest := []) hF (c_X12_in (l := l) (D := D) (cI := cI) (cB := cB) (cS := cS) (cZ := cZ) (cW := cW) (y0 := y0) (y1 := 0) (y2 := (-1))) (va_cwS 3 hts (gGS (fun _ h => List.mem_cons_of_mem _ h) wm_548 wm_549 wm_550 wm_551) rfl rfl rfl (by decide +kernel) ⟨Nat.le_of_ble_eq_true rfl, Nat.le_of_ble_eq_true rfl⟩) (g_preS hE hPc hDc) rfl rfl hl.1 rfl (lv_room (Nat.le_of_ble_eq_true rfl)) dX12_isTape_10 ⟨Nat.le_of_ble_eq_true rfl, Nat.le_of_ble_eq_true rfl⟩) (fun r1 u2 H locs p3 hP hD hS => ?_)
  have hP : va_P D vwCl [(aM, oM qM 0 0 0 0 0 0 0 0 0 0 0 0 0 0 0 0 0 0), ((qM 38), .inl (cI, 4, .inl (fun _ => 0)))] H := hP
  have hD : va_D A [(aM, oM qM 0 0 0 0 0 0 0 0 0 0 0 0 0 0 0 0 0 0), ((qM 38), .inl (cI, 4, .inl (fun _ => 0)))] := hD
  rcases p3 with ⟨rfl, p3a⟩ | ⟨rfl, p3a⟩
  · exfalso; omega
  · skip
    exact g_iret () hF hr rfl hlocks (hP.sub [0, 1] rfl) (hD.sub [0, 1] rfl rfl) hS rfl dX12_isTape_13 (Nat.le_of_ble_eq_true rfl) (Nat.le_of_ble_eq_true rfl)
set_option maxHeartbeats 8000000 in
set_option maxRecDepth 100000 in
theorem c_X12_isBorn {l : Launch} {D : va_G} {cI cB cS cZ cW : ClassId} {aM : Nat} {y0 : Int32} {qM : Nat → Nat}  {sz : Nat} : MI l D (gT cI cB cS cZ cW) yX12_isBorn (wG yX12_isBorn cX12_isBorn 2 (some .boolean)) { frames := 2, cells := 0, slots := 0, locals := 43 } [.ref aM, .int y0] [(aM, oM qM 0 0 0 0 0 0 0 0 0 0 0 0 0 0 0 0 0 0), ((qM 6), .inl (cI, 4, .inl (fun _ => 0)))] sz (fun (r : Int32) (u : Unit) => r = 0) (fun (u : Unit) => [(aM, oM qM 0 0 0 0 0 0 0 0 0 0 0 0 0 0 0 0 0 0), ((qM 6), .inl (cI, 4, .inl (fun _ => 0)))] : (Unit) → va_W) 0 0 := by
  refine g_enter (y := yX12_isBorn) (w := (wG yX12_isBorn cX12_isBorn 2 (some .boolean))) (As := [.ref aM, .int y0]) (D := D) (T := gT cI cB cS cZ cW) (ws := [(aM, oM qM 0 0 0 0 0 0 0 0 0 0 0 0 0 0 0 0 0 0), ((qM 6), .inl (cI, 4, .inl (fun _ => 0)))]) (gQi D (fun (r : Int32) (u : Unit) => r = 0) (fun (u : Unit) => [(aM, oM qM 0 0 0 0 0 0 0 0 0 0 0 0 0 0 0 0 0 0), ((qM 6), .inl (cI, 4, .inl (fun _ => 0)))] : (Unit) → va_W)) (cc := cX12_isBorn) (maxL := 2) (ret := (some .boolean)) (by decide) rfl (Nat.le_of_ble_eq_true rfl) ?_
  intro p e s m below meth c A ls hF hr hlocks hname hsz hE hA hP hD hS hl
  have hF : CallFix p m c cX12_isBorn 2 s ([.ref aM, .int y0] : List Value).toArray (wG yX12_isBorn cX12_isBorn 2 (some .boolean)) RX12 := hF
  obtain ⟨hx, hb, hml, hown, hts⟩ := id hF
  have htg : ∀ w ∈ GL, w.before ([.ref aM, .int y0] : List Value).toArray s = true := fun w h => hts w (List.mem_cons_of_mem _ h)
  have hl : lv_has ls 2 [(0, .ref aM), (1, .int y0)] := hl
  have z0 := t_0
  refine lv_aload_n hx hb dX12_isBorn_0 rfl (lv_at hl 0 rfl) ?_
  refine lv_iload_n hx hb dX12_isBorn_1 rfl (lv_at hl 1 rfl) ?_
  refine g_ai (D := D) (wc := [(aM, oM qM 0 0 0 0 0 0 0 0 0 0 0 0 0 0 0 0 0 0), ((qM 6), .inl (cI, 4, .inl (fun _ => 0)))]) (wr := []) hP hD hS hA [0, 1] [] rfl rfl rfl rfl (by decide) (fun hPc hDc => va_runV (As := [.int y0]) (rest := []) hF (c_X12_isTongue (l := l) (D := D) (cI := cI) (cB := cB) (cS := cS) (cZ := cZ) (cW := cW) (aM := aM) (y0 := y0) (qM := qM)) (cwV 1 hts (gGV (fun _ h => List.mem_cons_of_mem _ h) wm_556 wm_557 wm_558 wm_550 wm_559) rfl rfl rfl (by decide +kernel) ⟨Nat.le_of_ble_eq_true rfl, Nat.le_of_ble_eq_true rfl⟩) (g_preV (q := (RX12, TX12, 97)) (ci := 12) (q0 := 0) hE hPc hDc rfl rfl) rfl rfl hl.1 rfl (lv_room (Nat.le_of_ble_eq_true rfl)) dX12_isBorn_2 ⟨Nat.le_of_ble_eq_true rfl, Nat.le_of_ble_eq_true rfl⟩) (fun r1 u2 H locs p3 hP hD hS => ?_)
  have hP : va_P D vwCl [(aM, oM qM 0 0 0 0 0 0 0 0 0 0 0 0 0 0 0 0 0 0), ((qM 6), .inl (cI, 4, .inl (fun _ => 0)))] H := hP
  have hD : va_D A [(aM, oM qM 0 0 0 0 0 0 0 0 0 0 0 0 0 0 0 0 0 0), ((qM 6), .inl (cI, 4, .inl (fun _ => 0)))] := hD
  obtain rfl := p3
  refine lv_if_eq (tgt := 22) hx hb dX12_isBorn_5 (by decide) (fun _ => ?_) (fun c9 => absurd c9 (by decide +kernel))
  refine lv_iconst (v := 0) hx hb dX12_isBorn_22 (by decide +kernel) ?_
  exact g_iret () hF hr rfl hlocks (hP.sub [0, 1] rfl) (hD.sub [0, 1] rfl rfl) hS rfl dX12_isBorn_23 (Nat.le_of_ble_eq_true rfl) (Nat.le_of_ble_eq_true rfl)
set_option maxHeartbeats 8000000 in
set_option maxRecDepth 100000 in
theorem c_X12_textNow {l : Launch} {D : va_G} {cI cB cS cZ cW : ClassId} {aM : Nat} {qM : Nat → Nat}  {sz : Nat} : MI l D (gT cI cB cS cZ cW) yX12_textNow (wG yX12_textNow cX12_textNow 3 (some .int)) { frames := 0, cells := 0, slots := 0, locals := 0 } [.ref aM] [(aM, oM qM 0 0 0 0 0 0 0 0 0 0 0 0 0 0 0 0 0 0), ((qM 29), .inl (cI, 4, .inl (fun _ => 0)))] sz (fun (r : Int32) (u : Unit) => r = (-1)) (fun (u : Unit) => [(aM, oM qM 0 0 0 0 0 0 0 0 0 0 0 0 0 0 0 0 0 0), ((qM 29), .inl (cI, 4, .inl (fun _ => 0)))] : (Unit) → va_W) 0 0 := by
  refine g_enter (y := yX12_textNow) (w := (wG yX12_textNow cX12_textNow 3 (some .int))) (As := [.ref aM]) (D := D) (T := gT cI cB cS cZ cW) (ws := [(aM, oM qM 0 0 0 0 0 0 0 0 0 0 0 0 0 0 0 0 0 0), ((qM 29), .inl (cI, 4, .inl (fun _ => 0)))]) (gQi D (fun (r : Int32) (u : Unit) => r = (-1)) (fun (u : Unit) => [(aM, oM qM 0 0 0 0 0 0 0 0 0 0 0 0 0 0 0 0 0 0), ((qM 29), .inl (cI, 4, .inl (fun _ => 0)))] : (Unit) → va_W)) (cc := cX12_textNow) (maxL := 3) (ret := (some .int)) (by decide) rfl (Nat.le_of_ble_eq_true rfl) ?_
  intro p e s m below meth c A ls hF hr hlocks hname hsz hE hA hP hD hS hl
  have hF : CallFix p m c cX12_textNow 3 s ([.ref aM] : List Value).toArray (wG yX12_textNow cX12_textNow 3 (some .int)) RX12 := hF
  obtain ⟨hx, hb, hml, hown, hts⟩ := id hF
  have htg : ∀ w ∈ GL, w.before ([.ref aM] : List Value).toArray s = true := fun w h => hts w (List.mem_cons_of_mem _ h)
  have hl : lv_has ls 3 [(0, .ref aM)] := hl
  have zm1 := tm_1
  have z0 := t_0
  refine lv_iconst (v := (-1)) hx hb dX12_textNow_0 (by decide +kernel) ?_
  refine lv_istore_n (lv' := [(1, .int (-1)), (0, .ref aM)]) hx hb dX12_textNow_1 rfl hl (by decide) rfl (fun ls hl => ?_)
  refine lv_iconst (v := 0) hx hb dX12_textNow_2 (by decide +kernel) ?_
  refine lv_istore_n (lv' := [(2, .int 0), (1, .int (-1)), (0, .ref aM)]) hx hb dX12_textNow_3 rfl hl (by decide) rfl (fun ls hl => ?_)
  refine lv_iload_n hx hb dX12_textNow_4 rfl (lv_at hl 0 rfl) ?_
  refine lv_aload_n hx hb dX12_textNow_5 rfl (lv_at hl 2 rfl) ?_
  refine va_get (D := D) (ci := 12) (v := .ref (qM 29)) (C := RX12) (T := TX12) (N := 97) hx hb htg iwG_12 hown hE.1 hP 0 rfl rfl 29 (by decide) (htg _ wm_496) (fun _ h9 => h9) rfl dX12_textNow_6 ?_
  refine lv_iconst (v := 0) hx hb dX12_textNow_9 (by decide +kernel) ?_
  refine va_iald hx hb hE.1 hP 1 0 rfl rfl (vp_in_iff.mpr ⟨by decide +kernel, by decide +kernel⟩) dX12_textNow_10 ?_
  refine g_top 0 rfl ?_
  refine lv_icmp_ge (tgt := 41) hx hb dX12_textNow_11 (by decide) (fun _ => ?_) (fun c9 => absurd c9 (by decide +kernel))
  refine lv_iload_n hx hb dX12_textNow_41 rfl (lv_at hl 1 rfl) ?_
  exact g_iret () hF hr rfl hlocks (hP.sub [0, 1] rfl) (hD.sub [0, 1] rfl rfl) hS rfl dX12_textNow_42 (Nat.le_of_ble_eq_true rfl) (Nat.le_of_ble_eq_true rfl)
set_option maxHeartbeats 8000000 in
set_option maxRecDepth 100000 in
theorem c_X12_four_0 {l : Launch} {D : va_G} {cI cB cS cZ cW : ClassId} {aM : Nat} {y0 : Int32} {qM : Nat → Nat} {gb : Nat → Int32} {g : Nat → Int32} (hg : g (0 : Int32).toNatClampNeg = 0) {sz : Nat} : MV l D (gT cI cB cS cZ cW) yX12_four (wG yX12_four cX12_four 3 none) { frames := 0, cells := 0, slots := 0, locals := 0 } [.ref aM, .int y0] [(aM, oM qM 0 0 0 0 0 0 0 0 0 0 0 0 0 0 0 0 0 0), ((qM 1), .inl (cB, 2000, .inl gb)), ((qM 2), .inl (cI, 4, .inl g))] sz (fun (u : (Nat → Int32) × (Nat → Int32)) => u.1 (0 : Int32).toNatClampNeg = 4) (fun (u : (Nat → Int32) × (Nat → Int32)) => [(aM, oM qM 0 0 0 0 0 0 0 0 0 0 0 0 0 0 0 0 0 0), ((qM 1), .inl (cB, 2000, .inl u.2)), ((qM 2), .inl (cI, 4, .inl u.1))] : ((Nat → Int32) × (Nat → Int32)) → va_W) 0 0 := by
  refine g_enter (y := yX12_four) (w := (wG yX12_four cX12_four 3 none)) (As := [.ref aM, .int y0]) (D := D) (T := gT cI cB cS cZ cW) (ws := [(aM, oM qM 0 0 0 0 0 0 0 0 0 0 0 0 0 0 0 0 0 0), ((qM 1), .inl (cB, 2000, .inl gb)), ((qM 2), .inl (cI, 4, .inl g))]) (gQv D (fun (u : (Nat → Int32) × (Nat → Int32)) => u.1 (0 : Int32).toNatClampNeg = 4) (fun (u : (Nat → Int32) × (Nat → Int32)) => [(aM, oM qM 0 0 0 0 0 0 0 0 0 0 0 0 0 0 0 0 0 0), ((qM 1), .inl (cB, 2000, .inl u.2)), ((qM 2), .inl (cI, 4, .inl u.1))] : ((Nat → Int32) × (Nat → Int32)) → va_W)) (cc := cX12_four) (maxL := 3) (ret := none) (by decide) rfl (Nat.le_of_ble_eq_true rfl) ?_
  intro p e s m below meth c A ls hF hr hlocks hname hsz hE hA hP hD hS hl
  have hF : CallFix p m c cX12_four 3 s ([.ref aM, .int y0] : List Value).toArray (wG yX12_four cX12_four 3 none) RX12 := hF
  obtain ⟨hx, hb, hml, hown, hts⟩ := id hF
  have htg : ∀ w ∈ GL, w.before ([.ref aM, .int y0] : List Value).toArray s = true := fun w h => hts w (List.mem_cons_of_mem _ h)
  have hl : lv_has ls 3 [(0, .ref aM), (1, .int y0)] := hl
  have zm8 := tm_8
  have z0 := t_0
  have z1 := t_1
  have z2 := t_2
  have z3 := t_3
  have z4 := t_4
  have z8 := t_8
  have z16 := t_16
  have z24 := t_24
  refine lv_bipush (v := 24) hx hb dX12_four_0 (by decide +kernel) ?_
  refine lv_istore_n (lv' := [(2, .int 24), (0, .ref aM), (1, .int y0)]) hx hb dX12_four_2 rfl hl (by decide) rfl (fun ls hl => ?_)
  refine lv_iload_n hx hb dX12_four_3 rfl (lv_at hl 0 rfl) ?_
  refine lv_if_lt (tgt := 38) hx hb dX12_four_4 (by decide) (fun c9 => absurd c9 (by decide +kernel)) (fun _ => ?_)
  refine lv_aload_n hx hb dX12_four_7 rfl (lv_at hl 1 rfl) ?_
  refine va_get (D := D) (ci := 12) (v := .ref (qM 1)) (C := RX12) (T := TX12) (N := 97) hx hb htg iwG_12 hown hE.1 hP 0 rfl rfl 1 (by decide) (htg _ wm_467) (fun _ h9 => h9) rfl dX12_four_8 ?_
  refine lv_aload_n hx hb dX12_four_11 rfl (lv_at hl 1 rfl) ?_
  refine va_get (D := D) (ci := 12) (v := .ref (qM 2)) (C := RX12) (T := TX12) (N := 97) hx hb htg iwG_12 hown hE.1 hP 0 rfl rfl 2 (by decide) (htg _ wm_468) (fun _ h9 => h9) rfl dX12_four_12 ?_
  refine lv_iconst (v := 0) hx hb dX12_four_15 (by decide +kernel) ?_
  refine va_iald hx hb hE.1 hP 2 0 rfl rfl (vp_in_iff.mpr ⟨by decide +kernel, by decide +kernel⟩) dX12_four_16 ?_
  refine g_top 0 hg ?_
  refine lv_iload_n hx hb dX12_four_17 rfl (lv_at hl 2 rfl) ?_
  refine lv_iload_n hx hb dX12_four_18 rfl (lv_at hl 0 rfl) ?_
  refine lv_ishr hx hb dX12_four_19 ?_
  refine lv_topi (fun v1 ev1 => ?_)
  obtain ⟨v2, ev2⟩ : ∃ y : Int32, y = Int8.toInt32 (Int32.toInt8 v1) := ⟨_, rfl⟩
  refine lv_i2b (v := v2) hx hb dX12_four_20 ev2.symm ?_
  refine va_bast hx hb hE.1 hP hD hS 1 1 rfl rfl (vp_in_iff.mpr ⟨by decide +kernel, by decide +kernel⟩) dX12_four_21 (fun H locs hP hD hS => ?_)
  obtain ⟨g3, eg3⟩ : ∃ gz : Nat → Int32, gz = upd gb (0 : Int32).toNatClampNeg (vp_nar .byte v2) := ⟨_, rfl⟩
  have hP : va_P D vwCl [(aM, oM qM 0 0 0 0 0 0 0 0 0 0 0 0 0 0 0 0 0 0), ((qM 1), .inl (cB, 2000, .inl g3)), ((qM 2), .inl (cI, 4, .inl g))] H := by rw [eg3]; exact hP
  have hD : va_D A [(aM, oM qM 0 0 0 0 0 0 0 0 0 0 0 0 0 0 0 0 0 0), ((qM 1), .inl (cB, 2000, .inl g3)), ((qM 2), .inl (cI, 4, .inl g))] := by rw [eg3]; exact hD
  refine lv_aload_n hx hb dX12_four_22 rfl (lv_at hl 1 rfl) ?_
  refine va_get (D := D) (ci := 12) (v := .ref (qM 2)) (C := RX12) (T := TX12) (N := 97) hx hb htg iwG_12 hown hE.1 hP 0 rfl rfl 2 (by decide) (htg _ wm_468) (fun _ h9 => h9) rfl dX12_four_23 ?_
  refine lv_iconst (v := 0) hx hb dX12_four_26 (by decide +kernel) ?_
  refine lv_dup2_11 hx hb dX12_four_27 rfl rfl ?_
  refine va_iald hx hb hE.1 hP 2 0 rfl rfl (vp_in_iff.mpr ⟨by decide +kernel, by decide +kernel⟩) dX12_four_28 ?_
  refine g_top 0 hg ?_
  refine lv_iconst (v := 1) hx hb dX12_four_29 (by decide +kernel) ?_
  refine lv_iadd hx hb dX12_four_30 ?_
  refine g_top 1 (by decide +kernel) ?_
  refine va_iast hx hb hE.1 hP hD hS 2 0 rfl rfl (vp_in_iff.mpr ⟨by decide +kernel, by decide +kernel⟩) dX12_four_31 (fun H locs hP hD hS => ?_)
  obtain ⟨g4, eg4, fg4⟩ : ∃ gz : Nat → Int32, gz = upd g (0 : Int32).toNatClampNeg 1 ∧ gz (0 : Int32).toNatClampNeg = 1 := ⟨_, rfl, pk_us⟩
  have hP : va_P D vwCl [(aM, oM qM 0 0 0 0 0 0 0 0 0 0 0 0 0 0 0 0 0 0), ((qM 1), .inl (cB, 2000, .inl g3)), ((qM 2), .inl (cI, 4, .inl g4))] H := by rw [eg4]; exact hP
  have hD : va_D A [(aM, oM qM 0 0 0 0 0 0 0 0 0 0 0 0 0 0 0 0 0 0), ((qM 1), .inl (cB, 2000, .inl g3)), ((qM 2), .inl (cI, 4, .inl g4))] := by rw [eg4]; exact hD
  refine lv_iinc (v := 16) (lv' := [(2, .int 16), (0, .ref aM), (1, .int y0)]) hx hb dX12_four_32 hl (k := 0) rfl (by decide +kernel) (by decide) rfl (fun ls hl => ?_)
  refine lv_goto (tgt := 3) hx hb dX12_four_35 (by decide) ?_
  refine lv_iload_n hx hb dX12_four_3 rfl (lv_at hl 0 rfl) ?_
  refine lv_if_lt (tgt := 38) hx hb dX12_four_4 (by decide) (fun c9 => absurd c9 (by decide +kernel)) (fun _ => ?_)
  refine lv_aload_n hx hb dX12_four_7 rfl (lv_at hl 1 rfl) ?_
  refine va_get (D := D) (ci := 12) (v := .ref (qM 1)) (C := RX12) (T := TX12) (N := 97) hx hb htg iwG_12 hown hE.1 hP 0 rfl rfl 1 (by decide) (htg _ wm_467) (fun _ h9 => h9) rfl dX12_four_8 ?_
  refine lv_aload_n hx hb dX12_four_11 rfl (lv_at hl 1 rfl) ?_
  refine va_get (D := D) (ci := 12) (v := .ref (qM 2)) (C := RX12) (T := TX12) (N := 97) hx hb htg iwG_12 hown hE.1 hP 0 rfl rfl 2 (by decide) (htg _ wm_468) (fun _ h9 => h9) rfl dX12_four_12 ?_
  refine lv_iconst (v := 0) hx hb dX12_four_15 (by decide +kernel) ?_
  refine va_iald hx hb hE.1 hP 2 0 rfl rfl (vp_in_iff.mpr ⟨by decide +kernel, by decide +kernel⟩) dX12_four_16 ?_
  refine g_top 1 fg4 ?_
  refine lv_iload_n hx hb dX12_four_17 rfl (lv_at hl 2 rfl) ?_
  refine lv_iload_n hx hb dX12_four_18 rfl (lv_at hl 0 rfl) ?_
  refine lv_ishr hx hb dX12_four_19 ?_
  refine lv_topi (fun v5 ev5 => ?_)
  obtain ⟨v6, ev6⟩ : ∃ y : Int32, y = Int8.toInt32 (Int32.toInt8 v5) := ⟨_, rfl⟩
  refine lv_i2b (v := v6) hx hb dX12_four_20 ev6.symm ?_
  refine va_bast hx hb hE.1 hP hD hS 1 1 rfl rfl (vp_in_iff.mpr ⟨by decide +kernel, by decide +kernel⟩) dX12_four_21 (fun H locs hP hD hS => ?_)
  obtain ⟨g7, eg7⟩ : ∃ gz : Nat → Int32, gz = upd g3 (1 : Int32).toNatClampNeg (vp_nar .byte v6) := ⟨_, rfl⟩
  have hP : va_P D vwCl [(aM, oM qM 0 0 0 0 0 0 0 0 0 0 0 0 0 0 0 0 0 0), ((qM 1), .inl (cB, 2000, .inl g7)), ((qM 2), .inl (cI, 4, .inl g4))] H := by rw [eg7]; exact hP
  have hD : va_D A [(aM, oM qM 0 0 0 0 0 0 0 0 0 0 0 0 0 0 0 0 0 0), ((qM 1), .inl (cB, 2000, .inl g7)), ((qM 2), .inl (cI, 4, .inl g4))] := by rw [eg7]; exact hD
  refine lv_aload_n hx hb dX12_four_22 rfl (lv_at hl 1 rfl) ?_
  refine va_get (D := D) (ci := 12) (v := .ref (qM 2)) (C := RX12) (T := TX12) (N := 97) hx hb htg iwG_12 hown hE.1 hP 0 rfl rfl 2 (by decide) (htg _ wm_468) (fun _ h9 => h9) rfl dX12_four_23 ?_
  refine lv_iconst (v := 0) hx hb dX12_four_26 (by decide +kernel) ?_
  refine lv_dup2_11 hx hb dX12_four_27 rfl rfl ?_
  refine va_iald hx hb hE.1 hP 2 0 rfl rfl (vp_in_iff.mpr ⟨by decide +kernel, by decide +kernel⟩) dX12_four_28 ?_
  refine g_top 1 fg4 ?_
  refine lv_iconst (v := 1) hx hb dX12_four_29 (by decide +kernel) ?_
  refine lv_iadd hx hb dX12_four_30 ?_
  refine g_top 2 (by decide +kernel) ?_
  refine va_iast hx hb hE.1 hP hD hS 2 0 rfl rfl (vp_in_iff.mpr ⟨by decide +kernel, by decide +kernel⟩) dX12_four_31 (fun H locs hP hD hS => ?_)
  obtain ⟨g8, eg8, fg8⟩ : ∃ gz : Nat → Int32, gz = upd g4 (0 : Int32).toNatClampNeg 2 ∧ gz (0 : Int32).toNatClampNeg = 2 := ⟨_, rfl, pk_us⟩
  have hP : va_P D vwCl [(aM, oM qM 0 0 0 0 0 0 0 0 0 0 0 0 0 0 0 0 0 0), ((qM 1), .inl (cB, 2000, .inl g7)), ((qM 2), .inl (cI, 4, .inl g8))] H := by rw [eg8]; exact hP
  have hD : va_D A [(aM, oM qM 0 0 0 0 0 0 0 0 0 0 0 0 0 0 0 0 0 0), ((qM 1), .inl (cB, 2000, .inl g7)), ((qM 2), .inl (cI, 4, .inl g8))] := by rw [eg8]; exact hD
  refine lv_iinc (v := 8) (lv' := [(2, .int 8), (0, .ref aM), (1, .int y0)]) hx hb dX12_four_32 hl (k := 0) rfl (by decide +kernel) (by decide) rfl (fun ls hl => ?_)
  refine lv_goto (tgt := 3) hx hb dX12_four_35 (by decide) ?_
  refine lv_iload_n hx hb dX12_four_3 rfl (lv_at hl 0 rfl) ?_
  refine lv_if_lt (tgt := 38) hx hb dX12_four_4 (by decide) (fun c9 => absurd c9 (by decide +kernel)) (fun _ => ?_)
  refine lv_aload_n hx hb dX12_four_7 rfl (lv_at hl 1 rfl) ?_
  refine va_get (D := D) (ci := 12) (v := .ref (qM 1)) (C := RX12) (T := TX12) (N := 97) hx hb htg iwG_12 hown hE.1 hP 0 rfl rfl 1 (by decide) (htg _ wm_467) (fun _ h9 => h9) rfl dX12_four_8 ?_
  refine lv_aload_n hx hb dX12_four_11 rfl (lv_at hl 1 rfl) ?_
  refine va_get (D := D) (ci := 12) (v := .ref (qM 2)) (C := RX12) (T := TX12) (N := 97) hx hb htg iwG_12 hown hE.1 hP 0 rfl rfl 2 (by decide) (htg _ wm_468) (fun _ h9 => h9) rfl dX12_four_12 ?_
  refine lv_iconst (v := 0) hx hb dX12_four_15 (by decide +kernel) ?_
  refine va_iald hx hb hE.1 hP 2 0 rfl rfl (vp_in_iff.mpr ⟨by decide +kernel, by decide +kernel⟩) dX12_four_16 ?_
  refine g_top 2 fg8 ?_
  refine lv_iload_n hx hb dX12_four_17 rfl (lv_at hl 2 rfl) ?_
  refine lv_iload_n hx hb dX12_four_18 rfl (lv_at hl 0 rfl) ?_
  refine lv_ishr hx hb dX12_four_19 ?_
  refine lv_topi (fun v9 ev9 => ?_)
  obtain ⟨v10, ev10⟩ : ∃ y : Int32, y = Int8.toInt32 (Int32.toInt8 v9) := ⟨_, rfl⟩
  refine lv_i2b (v := v10) hx hb dX12_four_20 ev10.symm ?_
  refine va_bast hx hb hE.1 hP hD hS 1 1 rfl rfl (vp_in_iff.mpr ⟨by decide +kernel, by decide +kernel⟩) dX12_four_21 (fun H locs hP hD hS => ?_)
  obtain ⟨g11, eg11⟩ : ∃ gz : Nat → Int32, gz = upd g7 (2 : Int32).toNatClampNeg (vp_nar .byte v10) := ⟨_, rfl⟩
  have hP : va_P D vwCl [(aM, oM qM 0 0 0 0 0 0 0 0 0 0 0 0 0 0 0 0 0 0), ((qM 1), .inl (cB, 2000, .inl g11)), ((qM 2), .inl (cI, 4, .inl g8))] H := by rw [eg11]; exact hP
  have hD : va_D A [(aM, oM qM 0 0 0 0 0 0 0 0 0 0 0 0 0 0 0 0 0 0), ((qM 1), .inl (cB, 2000, .inl g11)), ((qM 2), .inl (cI, 4, .inl g8))] := by rw [eg11]; exact hD
  refine lv_aload_n hx hb dX12_four_22 rfl (lv_at hl 1 rfl) ?_
  refine va_get (D := D) (ci := 12) (v := .ref (qM 2)) (C := RX12) (T := TX12) (N := 97) hx hb htg iwG_12 hown hE.1 hP 0 rfl rfl 2 (by decide) (htg _ wm_468) (fun _ h9 => h9) rfl dX12_four_23 ?_
  refine lv_iconst (v := 0) hx hb dX12_four_26 (by decide +kernel) ?_
  refine lv_dup2_11 hx hb dX12_four_27 rfl rfl ?_
  refine va_iald hx hb hE.1 hP 2 0 rfl rfl (vp_in_iff.mpr ⟨by decide +kernel, by decide +kernel⟩) dX12_four_28 ?_
  refine g_top 2 fg8 ?_
  refine lv_iconst (v := 1) hx hb dX12_four_29 (by decide +kernel) ?_
  refine lv_iadd hx hb dX12_four_30 ?_
  refine g_top 3 (by decide +kernel) ?_
  refine va_iast hx hb hE.1 hP hD hS 2 0 rfl rfl (vp_in_iff.mpr ⟨by decide +kernel, by decide +kernel⟩) dX12_four_31 (fun H locs hP hD hS => ?_)
  obtain ⟨g12, eg12, fg12⟩ : ∃ gz : Nat → Int32, gz = upd g8 (0 : Int32).toNatClampNeg 3 ∧ gz (0 : Int32).toNatClampNeg = 3 := ⟨_, rfl, pk_us⟩
  have hP : va_P D vwCl [(aM, oM qM 0 0 0 0 0 0 0 0 0 0 0 0 0 0 0 0 0 0), ((qM 1), .inl (cB, 2000, .inl g11)), ((qM 2), .inl (cI, 4, .inl g12))] H := by rw [eg12]; exact hP
  have hD : va_D A [(aM, oM qM 0 0 0 0 0 0 0 0 0 0 0 0 0 0 0 0 0 0), ((qM 1), .inl (cB, 2000, .inl g11)), ((qM 2), .inl (cI, 4, .inl g12))] := by rw [eg12]; exact hD
  refine lv_iinc (v := 0) (lv' := [(2, .int 0), (0, .ref aM), (1, .int y0)]) hx hb dX12_four_32 hl (k := 0) rfl (by decide +kernel) (by decide) rfl (fun ls hl => ?_)
  refine lv_goto (tgt := 3) hx hb dX12_four_35 (by decide) ?_
  refine lv_iload_n hx hb dX12_four_3 rfl (lv_at hl 0 rfl) ?_
  refine lv_if_lt (tgt := 38) hx hb dX12_four_4 (by decide) (fun c9 => absurd c9 (by decide +kernel)) (fun _ => ?_)
  refine lv_aload_n hx hb dX12_four_7 rfl (lv_at hl 1 rfl) ?_
  refine va_get (D := D) (ci := 12) (v := .ref (qM 1)) (C := RX12) (T := TX12) (N := 97) hx hb htg iwG_12 hown hE.1 hP 0 rfl rfl 1 (by decide) (htg _ wm_467) (fun _ h9 => h9) rfl dX12_four_8 ?_
  refine lv_aload_n hx hb dX12_four_11 rfl (lv_at hl 1 rfl) ?_
  refine va_get (D := D) (ci := 12) (v := .ref (qM 2)) (C := RX12) (T := TX12) (N := 97) hx hb htg iwG_12 hown hE.1 hP 0 rfl rfl 2 (by decide) (htg _ wm_468) (fun _ h9 => h9) rfl dX12_four_12 ?_
  refine lv_iconst (v := 0) hx hb dX12_four_15 (by decide +kernel) ?_
  refine va_iald hx hb hE.1 hP 2 0 rfl rfl (vp_in_iff.mpr ⟨by decide +kernel, by decide +kernel⟩) dX12_four_16 ?_
  refine g_top 3 fg12 ?_
  refine lv_iload_n hx hb dX12_four_17 rfl (lv_at hl 2 rfl) ?_
  refine lv_iload_n hx hb dX12_four_18 rfl (lv_at hl 0 rfl) ?_
  refine lv_ishr hx hb dX12_four_19 ?_
  refine lv_topi (fun v13 ev13 => ?_)
  obtain ⟨v14, ev14⟩ : ∃ y : Int32, y = Int8.toInt32 (Int32.toInt8 v13) := ⟨_, rfl⟩
  refine lv_i2b (v := v14) hx hb dX12_four_20 ev14.symm ?_
  refine va_bast hx hb hE.1 hP hD hS 1 1 rfl rfl (vp_in_iff.mpr ⟨by decide +kernel, by decide +kernel⟩) dX12_four_21 (fun H locs hP hD hS => ?_)
  obtain ⟨g15, eg15⟩ : ∃ gz : Nat → Int32, gz = upd g11 (3 : Int32).toNatClampNeg (vp_nar .byte v14) := ⟨_, rfl⟩
  have hP : va_P D vwCl [(aM, oM qM 0 0 0 0 0 0 0 0 0 0 0 0 0 0 0 0 0 0), ((qM 1), .inl (cB, 2000, .inl g15)), ((qM 2), .inl (cI, 4, .inl g12))] H := by rw [eg15]; exact hP
  have hD : va_D A [(aM, oM qM 0 0 0 0 0 0 0 0 0 0 0 0 0 0 0 0 0 0), ((qM 1), .inl (cB, 2000, .inl g15)), ((qM 2), .inl (cI, 4, .inl g12))] := by rw [eg15]; exact hD
  refine lv_aload_n hx hb dX12_four_22 rfl (lv_at hl 1 rfl) ?_
  refine va_get (D := D) (ci := 12) (v := .ref (qM 2)) (C := RX12) (T := TX12) (N := 97) hx hb htg iwG_12 hown hE.1 hP 0 rfl rfl 2 (by decide) (htg _ wm_468) (fun _ h9 => h9) rfl dX12_four_23 ?_
  refine lv_iconst (v := 0) hx hb dX12_four_26 (by decide +kernel) ?_
  refine lv_dup2_11 hx hb dX12_four_27 rfl rfl ?_
  refine va_iald hx hb hE.1 hP 2 0 rfl rfl (vp_in_iff.mpr ⟨by decide +kernel, by decide +kernel⟩) dX12_four_28 ?_
  refine g_top 3 fg12 ?_
  refine lv_iconst (v := 1) hx hb dX12_four_29 (by decide +kernel) ?_
  refine lv_iadd hx hb dX12_four_30 ?_
  refine g_top 4 (by decide +kernel) ?_
  refine va_iast hx hb hE.1 hP hD hS 2 0 rfl rfl (vp_in_iff.mpr ⟨by decide +kernel, by decide +kernel⟩) dX12_four_31 (fun H locs hP hD hS => ?_)
  obtain ⟨g16, eg16, fg16⟩ : ∃ gz : Nat → Int32, gz = upd g12 (0 : Int32).toNatClampNeg 4 ∧ gz (0 : Int32).toNatClampNeg = 4 := ⟨_, rfl, pk_us⟩
  have hP : va_P D vwCl [(aM, oM qM 0 0 0 0 0 0 0 0 0 0 0 0 0 0 0 0 0 0), ((qM 1), .inl (cB, 2000, .inl g15)), ((qM 2), .inl (cI, 4, .inl g16))] H := by rw [eg16]; exact hP
  have hD : va_D A [(aM, oM qM 0 0 0 0 0 0 0 0 0 0 0 0 0 0 0 0 0 0), ((qM 1), .inl (cB, 2000, .inl g15)), ((qM 2), .inl (cI, 4, .inl g16))] := by rw [eg16]; exact hD
  refine lv_iinc (v := (-8)) (lv' := [(2, .int (-8)), (0, .ref aM), (1, .int y0)]) hx hb dX12_four_32 hl (k := 0) rfl (by decide +kernel) (by decide) rfl (fun ls hl => ?_)
  refine lv_goto (tgt := 3) hx hb dX12_four_35 (by decide) ?_
  refine lv_iload_n hx hb dX12_four_3 rfl (lv_at hl 0 rfl) ?_
  refine lv_if_lt (tgt := 38) hx hb dX12_four_4 (by decide) (fun _ => ?_) (fun c9 => absurd c9 (by decide +kernel))
  exact g_vret (g16, g15) hF hr hlocks (hP.sub [0, 1, 2] rfl) (hD.sub [0, 1, 2] rfl rfl) hS fg16 dX12_four_38 (Nat.le_of_ble_eq_true rfl) (Nat.le_of_ble_eq_true rfl)
set_option maxHeartbeats 8000000 in
set_option maxRecDepth 100000 in
theorem c_X12_four_4 {l : Launch} {D : va_G} {cI cB cS cZ cW : ClassId} {aM : Nat} {y0 : Int32} {qM : Nat → Nat} {gb : Nat → Int32} {g : Nat → Int32} (hg : g (0 : Int32).toNatClampNeg = 4) {sz : Nat} : MV l D (gT cI cB cS cZ cW) yX12_four (wG yX12_four cX12_four 3 none) { frames := 0, cells := 0, slots := 0, locals := 0 } [.ref aM, .int y0] [(aM, oM qM 0 0 0 0 0 0 0 0 0 0 0 0 0 0 0 0 0 0), ((qM 1), .inl (cB, 2000, .inl gb)), ((qM 2), .inl (cI, 4, .inl g))] sz (fun (u : (Nat → Int32) × (Nat → Int32)) => u.1 (0 : Int32).toNatClampNeg = 8) (fun (u : (Nat → Int32) × (Nat → Int32)) => [(aM, oM qM 0 0 0 0 0 0 0 0 0 0 0 0 0 0 0 0 0 0), ((qM 1), .inl (cB, 2000, .inl u.2)), ((qM 2), .inl (cI, 4, .inl u.1))] : ((Nat → Int32) × (Nat → Int32)) → va_W) 0 0 := by
  refine g_enter (y := yX12_four) (w := (wG yX12_four cX12_four 3 none)) (As := [.ref aM, .int y0]) (D := D) (T := gT cI cB cS cZ cW) (ws := [(aM, oM qM 0 0 0 0 0 0 0 0 0 0 0 0 0 0 0 0 0 0), ((qM 1), .inl (cB, 2000, .inl gb)), ((qM 2), .inl (cI, 4, .inl g))]) (gQv D (fun (u : (Nat → Int32) × (Nat → Int32)) => u.1 (0 : Int32).toNatClampNeg = 8) (fun (u : (Nat → Int32) × (Nat → Int32)) => [(aM, oM qM 0 0 0 0 0 0 0 0 0 0 0 0 0 0 0 0 0 0), ((qM 1), .inl (cB, 2000, .inl u.2)), ((qM 2), .inl (cI, 4, .inl u.1))] : ((Nat → Int32) × (Nat → Int32)) → va_W)) (cc := cX12_four) (maxL := 3) (ret := none) (by decide) rfl (Nat.le_of_ble_eq_true rfl) ?_
  intro p e s m below meth c A ls hF hr hlocks hname hsz hE hA hP hD hS hl
  have hF : CallFix p m c cX12_four 3 s ([.ref aM, .int y0] : List Value).toArray (wG yX12_four cX12_four 3 none) RX12 := hF
  obtain ⟨hx, hb, hml, hown, hts⟩ := id hF
  have htg : ∀ w ∈ GL, w.before ([.ref aM, .int y0] : List Value).toArray s = true := fun w h => hts w (List.mem_cons_of_mem _ h)
  have hl : lv_has ls 3 [(0, .ref aM), (1, .int y0)] := hl
  have zm8 := tm_8
  have z0 := t_0
  have z1 := t_1
  have z4 := t_4
  have z5 := t_5
  have z6 := t_6
  have z7 := t_7
  have z8 := t_8
  have z16 := t_16
  have z24 := t_24
  refine lv_bipush (v := 24) hx hb dX12_four_0 (by decide +kernel) ?_
  refine lv_istore_n (lv' := [(2, .int 24), (0, .ref aM), (1, .int y0)]) hx hb dX12_four_2 rfl hl (by decide) rfl (fun ls hl => ?_)
  refine lv_iload_n hx hb dX12_four_3 rfl (lv_at hl 0 rfl) ?_
  refine lv_if_lt (tgt := 38) hx hb dX12_four_4 (by decide) (fun c9 => absurd c9 (by decide +kernel)) (fun _ => ?_)
  refine lv_aload_n hx hb dX12_four_7 rfl (lv_at hl 1 rfl) ?_
  refine va_get (D := D) (ci := 12) (v := .ref (qM 1)) (C := RX12) (T := TX12) (N := 97) hx hb htg iwG_12 hown hE.1 hP 0 rfl rfl 1 (by decide) (htg _ wm_467) (fun _ h9 => h9) rfl dX12_four_8 ?_
  refine lv_aload_n hx hb dX12_four_11 rfl (lv_at hl 1 rfl) ?_
  refine va_get (D := D) (ci := 12) (v := .ref (qM 2)) (C := RX12) (T := TX12) (N := 97) hx hb htg iwG_12 hown hE.1 hP 0 rfl rfl 2 (by decide) (htg _ wm_468) (fun _ h9 => h9) rfl dX12_four_12 ?_
  refine lv_iconst (v := 0) hx hb dX12_four_15 (by decide +kernel) ?_
  refine va_iald hx hb hE.1 hP 2 0 rfl rfl (vp_in_iff.mpr ⟨by decide +kernel, by decide +kernel⟩) dX12_four_16 ?_
  refine g_top 4 hg ?_
  refine lv_iload_n hx hb dX12_four_17 rfl (lv_at hl 2 rfl) ?_
  refine lv_iload_n hx hb dX12_four_18 rfl (lv_at hl 0 rfl) ?_
  refine lv_ishr hx hb dX12_four_19 ?_
  refine lv_topi (fun v1 ev1 => ?_)
  obtain ⟨v2, ev2⟩ : ∃ y : Int32, y = Int8.toInt32 (Int32.toInt8 v1) := ⟨_, rfl⟩
  refine lv_i2b (v := v2) hx hb dX12_four_20 ev2.symm ?_
  refine va_bast hx hb hE.1 hP hD hS 1 1 rfl rfl (vp_in_iff.mpr ⟨by decide +kernel, by decide +kernel⟩) dX12_four_21 (fun H locs hP hD hS => ?_)
  obtain ⟨g3, eg3⟩ : ∃ gz : Nat → Int32, gz = upd gb (4 : Int32).toNatClampNeg (vp_nar .byte v2) := ⟨_, rfl⟩
  have hP : va_P D vwCl [(aM, oM qM 0 0 0 0 0 0 0 0 0 0 0 0 0 0 0 0 0 0), ((qM 1), .inl (cB, 2000, .inl g3)), ((qM 2), .inl (cI, 4, .inl g))] H := by rw [eg3]; exact hP
  have hD : va_D A [(aM, oM qM 0 0 0 0 0 0 0 0 0 0 0 0 0 0 0 0 0 0), ((qM 1), .inl (cB, 2000, .inl g3)), ((qM 2), .inl (cI, 4, .inl g))] := by rw [eg3]; exact hD
  refine lv_aload_n hx hb dX12_four_22 rfl (lv_at hl 1 rfl) ?_
  refine va_get (D := D) (ci := 12) (v := .ref (qM 2)) (C := RX12) (T := TX12) (N := 97) hx hb htg iwG_12 hown hE.1 hP 0 rfl rfl 2 (by decide) (htg _ wm_468) (fun _ h9 => h9) rfl dX12_four_23 ?_
  refine lv_iconst (v := 0) hx hb dX12_four_26 (by decide +kernel) ?_
  refine lv_dup2_11 hx hb dX12_four_27 rfl rfl ?_
  refine va_iald hx hb hE.1 hP 2 0 rfl rfl (vp_in_iff.mpr ⟨by decide +kernel, by decide +kernel⟩) dX12_four_28 ?_
  refine g_top 4 hg ?_
  refine lv_iconst (v := 1) hx hb dX12_four_29 (by decide +kernel) ?_
  refine lv_iadd hx hb dX12_four_30 ?_
  refine g_top 5 (by decide +kernel) ?_
  refine va_iast hx hb hE.1 hP hD hS 2 0 rfl rfl (vp_in_iff.mpr ⟨by decide +kernel, by decide +kernel⟩) dX12_four_31 (fun H locs hP hD hS => ?_)
  obtain ⟨g4, eg4, fg4⟩ : ∃ gz : Nat → Int32, gz = upd g (0 : Int32).toNatClampNeg 5 ∧ gz (0 : Int32).toNatClampNeg = 5 := ⟨_, rfl, pk_us⟩
  have hP : va_P D vwCl [(aM, oM qM 0 0 0 0 0 0 0 0 0 0 0 0 0 0 0 0 0 0), ((qM 1), .inl (cB, 2000, .inl g3)), ((qM 2), .inl (cI, 4, .inl g4))] H := by rw [eg4]; exact hP
  have hD : va_D A [(aM, oM qM 0 0 0 0 0 0 0 0 0 0 0 0 0 0 0 0 0 0), ((qM 1), .inl (cB, 2000, .inl g3)), ((qM 2), .inl (cI, 4, .inl g4))] := by rw [eg4]; exact hD
  refine lv_iinc (v := 16) (lv' := [(2, .int 16), (0, .ref aM), (1, .int y0)]) hx hb dX12_four_32 hl (k := 0) rfl (by decide +kernel) (by decide) rfl (fun ls hl => ?_)
  refine lv_goto (tgt := 3) hx hb dX12_four_35 (by decide) ?_
  refine lv_iload_n hx hb dX12_four_3 rfl (lv_at hl 0 rfl) ?_
  refine lv_if_lt (tgt := 38) hx hb dX12_four_4 (by decide) (fun c9 => absurd c9 (by decide +kernel)) (fun _ => ?_)
  refine lv_aload_n hx hb dX12_four_7 rfl (lv_at hl 1 rfl) ?_
  refine va_get (D := D) (ci := 12) (v := .ref (qM 1)) (C := RX12) (T := TX12) (N := 97) hx hb htg iwG_12 hown hE.1 hP 0 rfl rfl 1 (by decide) (htg _ wm_467) (fun _ h9 => h9) rfl dX12_four_8 ?_
  refine lv_aload_n hx hb dX12_four_11 rfl (lv_at hl 1 rfl) ?_
  refine va_get (D := D) (ci := 12) (v := .ref (qM 2)) (C := RX12) (T := TX12) (N := 97) hx hb htg iwG_12 hown hE.1 hP 0 rfl rfl 2 (by decide) (htg _ wm_468) (fun _ h9 => h9) rfl dX12_four_12 ?_
  refine lv_iconst (v := 0) hx hb dX12_four_15 (by decide +kernel) ?_
  refine va_iald hx hb hE.1 hP 2 0 rfl rfl (vp_in_iff.mpr ⟨by decide +kernel, by decide +kernel⟩) dX12_four_16 ?_
  refine g_top 5 fg4 ?_
  refine lv_iload_n hx hb dX12_four_17 rfl (lv_at hl 2 rfl) ?_
  refine lv_iload_n hx hb dX12_four_18 rfl (lv_at hl 0 rfl) ?_
  refine lv_ishr hx hb dX12_four_19 ?_
  refine lv_topi (fun v5 ev5 => ?_)
  obtain ⟨v6, ev6⟩ : ∃ y : Int32, y = Int8.toInt32 (Int32.toInt8 v5) := ⟨_, rfl⟩
  refine lv_i2b (v := v6) hx hb dX12_four_20 ev6.symm ?_
  refine va_bast hx hb hE.1 hP hD hS 1 1 rfl rfl (vp_in_iff.mpr ⟨by decide +kernel, by decide +kernel⟩) dX12_four_21 (fun H locs hP hD hS => ?_)
  obtain ⟨g7, eg7⟩ : ∃ gz : Nat → Int32, gz = upd g3 (5 : Int32).toNatClampNeg (vp_nar .byte v6) := ⟨_, rfl⟩
  have hP : va_P D vwCl [(aM, oM qM 0 0 0 0 0 0 0 0 0 0 0 0 0 0 0 0 0 0), ((qM 1), .inl (cB, 2000, .inl g7)), ((qM 2), .inl (cI, 4, .inl g4))] H := by rw [eg7]; exact hP
  have hD : va_D A [(aM, oM qM 0 0 0 0 0 0 0 0 0 0 0 0 0 0 0 0 0 0), ((qM 1), .inl (cB, 2000, .inl g7)), ((qM 2), .inl (cI, 4, .inl g4))] := by rw [eg7]; exact hD
  refine lv_aload_n hx hb dX12_four_22 rfl (lv_at hl 1 rfl) ?_
  refine va_get (D := D) (ci := 12) (v := .ref (qM 2)) (C := RX12) (T := TX12) (N := 97) hx hb htg iwG_12 hown hE.1 hP 0 rfl rfl 2 (by decide) (htg _ wm_468) (fun _ h9 => h9) rfl dX12_four_23 ?_
  refine lv_iconst (v := 0) hx hb dX12_four_26 (by decide +kernel) ?_
  refine lv_dup2_11 hx hb dX12_four_27 rfl rfl ?_
  refine va_iald hx hb hE.1 hP 2 0 rfl rfl (vp_in_iff.mpr ⟨by decide +kernel, by decide +kernel⟩) dX12_four_28 ?_
  refine g_top 5 fg4 ?_
  refine lv_iconst (v := 1) hx hb dX12_four_29 (by decide +kernel) ?_
  refine lv_iadd hx hb dX12_four_30 ?_
  refine g_top 6 (by decide +kernel) ?_
  refine va_iast hx hb hE.1 hP hD hS 2 0 rfl rfl (vp_in_iff.mpr ⟨by decide +kernel, by decide +kernel⟩) dX12_four_31 (fun H locs hP hD hS => ?_)
  obtain ⟨g8, eg8, fg8⟩ : ∃ gz : Nat → Int32, gz = upd g4 (0 : Int32).toNatClampNeg 6 ∧ gz (0 : Int32).toNatClampNeg = 6 := ⟨_, rfl, pk_us⟩
  have hP : va_P D vwCl [(aM, oM qM 0 0 0 0 0 0 0 0 0 0 0 0 0 0 0 0 0 0), ((qM 1), .inl (cB, 2000, .inl g7)), ((qM 2), .inl (cI, 4, .inl g8))] H := by rw [eg8]; exact hP
  have hD : va_D A [(aM, oM qM 0 0 0 0 0 0 0 0 0 0 0 0 0 0 0 0 0 0), ((qM 1), .inl (cB, 2000, .inl g7)), ((qM 2), .inl (cI, 4, .inl g8))] := by rw [eg8]; exact hD
  refine lv_iinc (v := 8) (lv' := [(2, .int 8), (0, .ref aM), (1, .int y0)]) hx hb dX12_four_32 hl (k := 0) rfl (by decide +kernel) (by decide) rfl (fun ls hl => ?_)
  refine lv_goto (tgt := 3) hx hb dX12_four_35 (by decide) ?_
  refine lv_iload_n hx hb dX12_four_3 rfl (lv_at hl 0 rfl) ?_
  refine lv_if_lt (tgt := 38) hx hb dX12_four_4 (by decide) (fun c9 => absurd c9 (by decide +kernel)) (fun _ => ?_)
  refine lv_aload_n hx hb dX12_four_7 rfl (lv_at hl 1 rfl) ?_
  refine va_get (D := D) (ci := 12) (v := .ref (qM 1)) (C := RX12) (T := TX12) (N := 97) hx hb htg iwG_12 hown hE.1 hP 0 rfl rfl 1 (by decide) (htg _ wm_467) (fun _ h9 => h9) rfl dX12_four_8 ?_
  refine lv_aload_n hx hb dX12_four_11 rfl (lv_at hl 1 rfl) ?_
  refine va_get (D := D) (ci := 12) (v := .ref (qM 2)) (C := RX12) (T := TX12) (N := 97) hx hb htg iwG_12 hown hE.1 hP 0 rfl rfl 2 (by decide) (htg _ wm_468) (fun _ h9 => h9) rfl dX12_four_12 ?_
  refine lv_iconst (v := 0) hx hb dX12_four_15 (by decide +kernel) ?_
  refine va_iald hx hb hE.1 hP 2 0 rfl rfl (vp_in_iff.mpr ⟨by decide +kernel, by decide +kernel⟩) dX12_four_16 ?_
  refine g_top 6 fg8 ?_
  refine lv_iload_n hx hb dX12_four_17 rfl (lv_at hl 2 rfl) ?_
  refine lv_iload_n hx hb dX12_four_18 rfl (lv_at hl 0 rfl) ?_
  refine lv_ishr hx hb dX12_four_19 ?_
  refine lv_topi (fun v9 ev9 => ?_)
  obtain ⟨v10, ev10⟩ : ∃ y : Int32, y = Int8.toInt32 (Int32.toInt8 v9) := ⟨_, rfl⟩
  refine lv_i2b (v := v10) hx hb dX12_four_20 ev10.symm ?_
  refine va_bast hx hb hE.1 hP hD hS 1 1 rfl rfl (vp_in_iff.mpr ⟨by decide +kernel, by decide +kernel⟩) dX12_four_21 (fun H locs hP hD hS => ?_)
  obtain ⟨g11, eg11⟩ : ∃ gz : Nat → Int32, gz = upd g7 (6 : Int32).toNatClampNeg (vp_nar .byte v10) := ⟨_, rfl⟩
  have hP : va_P D vwCl [(aM, oM qM 0 0 0 0 0 0 0 0 0 0 0 0 0 0 0 0 0 0), ((qM 1), .inl (cB, 2000, .inl g11)), ((qM 2), .inl (cI, 4, .inl g8))] H := by rw [eg11]; exact hP
  have hD : va_D A [(aM, oM qM 0 0 0 0 0 0 0 0 0 0 0 0 0 0 0 0 0 0), ((qM 1), .inl (cB, 2000, .inl g11)), ((qM 2), .inl (cI, 4, .inl g8))] := by rw [eg11]; exact hD
  refine lv_aload_n hx hb dX12_four_22 rfl (lv_at hl 1 rfl) ?_
  refine va_get (D := D) (ci := 12) (v := .ref (qM 2)) (C := RX12) (T := TX12) (N := 97) hx hb htg iwG_12 hown hE.1 hP 0 rfl rfl 2 (by decide) (htg _ wm_468) (fun _ h9 => h9) rfl dX12_four_23 ?_
  refine lv_iconst (v := 0) hx hb dX12_four_26 (by decide +kernel) ?_
  refine lv_dup2_11 hx hb dX12_four_27 rfl rfl ?_
  refine va_iald hx hb hE.1 hP 2 0 rfl rfl (vp_in_iff.mpr ⟨by decide +kernel, by decide +kernel⟩) dX12_four_28 ?_
  refine g_top 6 fg8 ?_
  refine lv_iconst (v := 1) hx hb dX12_four_29 (by decide +kernel) ?_
  refine lv_iadd hx hb dX12_four_30 ?_
  refine g_top 7 (by decide +kernel) ?_
  refine va_iast hx hb hE.1 hP hD hS 2 0 rfl rfl (vp_in_iff.mpr ⟨by decide +kernel, by decide +kernel⟩) dX12_four_31 (fun H locs hP hD hS => ?_)
  obtain ⟨g12, eg12, fg12⟩ : ∃ gz : Nat → Int32, gz = upd g8 (0 : Int32).toNatClampNeg 7 ∧ gz (0 : Int32).toNatClampNeg = 7 := ⟨_, rfl, pk_us⟩
  have hP : va_P D vwCl [(aM, oM qM 0 0 0 0 0 0 0 0 0 0 0 0 0 0 0 0 0 0), ((qM 1), .inl (cB, 2000, .inl g11)), ((qM 2), .inl (cI, 4, .inl g12))] H := by rw [eg12]; exact hP
  have hD : va_D A [(aM, oM qM 0 0 0 0 0 0 0 0 0 0 0 0 0 0 0 0 0 0), ((qM 1), .inl (cB, 2000, .inl g11)), ((qM 2), .inl (cI, 4, .inl g12))] := by rw [eg12]; exact hD
  refine lv_iinc (v := 0) (lv' := [(2, .int 0), (0, .ref aM), (1, .int y0)]) hx hb dX12_four_32 hl (k := 0) rfl (by decide +kernel) (by decide) rfl (fun ls hl => ?_)
  refine lv_goto (tgt := 3) hx hb dX12_four_35 (by decide) ?_
  refine lv_iload_n hx hb dX12_four_3 rfl (lv_at hl 0 rfl) ?_
  refine lv_if_lt (tgt := 38) hx hb dX12_four_4 (by decide) (fun c9 => absurd c9 (by decide +kernel)) (fun _ => ?_)
  refine lv_aload_n hx hb dX12_four_7 rfl (lv_at hl 1 rfl) ?_
  refine va_get (D := D) (ci := 12) (v := .ref (qM 1)) (C := RX12) (T := TX12) (N := 97) hx hb htg iwG_12 hown hE.1 hP 0 rfl rfl 1 (by decide) (htg _ wm_467) (fun _ h9 => h9) rfl dX12_four_8 ?_
  refine lv_aload_n hx hb dX12_four_11 rfl (lv_at hl 1 rfl) ?_
  refine va_get (D := D) (ci := 12) (v := .ref (qM 2)) (C := RX12) (T := TX12) (N := 97) hx hb htg iwG_12 hown hE.1 hP 0 rfl rfl 2 (by decide) (htg _ wm_468) (fun _ h9 => h9) rfl dX12_four_12 ?_
  refine lv_iconst (v := 0) hx hb dX12_four_15 (by decide +kernel) ?_
  refine va_iald hx hb hE.1 hP 2 0 rfl rfl (vp_in_iff.mpr ⟨by decide +kernel, by decide +kernel⟩) dX12_four_16 ?_
  refine g_top 7 fg12 ?_
  refine lv_iload_n hx hb dX12_four_17 rfl (lv_at hl 2 rfl) ?_
  refine lv_iload_n hx hb dX12_four_18 rfl (lv_at hl 0 rfl) ?_
  refine lv_ishr hx hb dX12_four_19 ?_
  refine lv_topi (fun v13 ev13 => ?_)
  obtain ⟨v14, ev14⟩ : ∃ y : Int32, y = Int8.toInt32 (Int32.toInt8 v13) := ⟨_, rfl⟩
  refine lv_i2b (v := v14) hx hb dX12_four_20 ev14.symm ?_
  refine va_bast hx hb hE.1 hP hD hS 1 1 rfl rfl (vp_in_iff.mpr ⟨by decide +kernel, by decide +kernel⟩) dX12_four_21 (fun H locs hP hD hS => ?_)
  obtain ⟨g15, eg15⟩ : ∃ gz : Nat → Int32, gz = upd g11 (7 : Int32).toNatClampNeg (vp_nar .byte v14) := ⟨_, rfl⟩
  have hP : va_P D vwCl [(aM, oM qM 0 0 0 0 0 0 0 0 0 0 0 0 0 0 0 0 0 0), ((qM 1), .inl (cB, 2000, .inl g15)), ((qM 2), .inl (cI, 4, .inl g12))] H := by rw [eg15]; exact hP
  have hD : va_D A [(aM, oM qM 0 0 0 0 0 0 0 0 0 0 0 0 0 0 0 0 0 0), ((qM 1), .inl (cB, 2000, .inl g15)), ((qM 2), .inl (cI, 4, .inl g12))] := by rw [eg15]; exact hD
  refine lv_aload_n hx hb dX12_four_22 rfl (lv_at hl 1 rfl) ?_
  refine va_get (D := D) (ci := 12) (v := .ref (qM 2)) (C := RX12) (T := TX12) (N := 97) hx hb htg iwG_12 hown hE.1 hP 0 rfl rfl 2 (by decide) (htg _ wm_468) (fun _ h9 => h9) rfl dX12_four_23 ?_
  refine lv_iconst (v := 0) hx hb dX12_four_26 (by decide +kernel) ?_
  refine lv_dup2_11 hx hb dX12_four_27 rfl rfl ?_
  refine va_iald hx hb hE.1 hP 2 0 rfl rfl (vp_in_iff.mpr ⟨by decide +kernel, by decide +kernel⟩) dX12_four_28 ?_
  refine g_top 7 fg12 ?_
  refine lv_iconst (v := 1) hx hb dX12_four_29 (by decide +kernel) ?_
  refine lv_iadd hx hb dX12_four_30 ?_
  refine g_top 8 (by decide +kernel) ?_
  refine va_iast hx hb hE.1 hP hD hS 2 0 rfl rfl (vp_in_iff.mpr ⟨by decide +kernel, by decide +kernel⟩) dX12_four_31 (fun H locs hP hD hS => ?_)
  obtain ⟨g16, eg16, fg16⟩ : ∃ gz : Nat → Int32, gz = upd g12 (0 : Int32).toNatClampNeg 8 ∧ gz (0 : Int32).toNatClampNeg = 8 := ⟨_, rfl, pk_us⟩
  have hP : va_P D vwCl [(aM, oM qM 0 0 0 0 0 0 0 0 0 0 0 0 0 0 0 0 0 0), ((qM 1), .inl (cB, 2000, .inl g15)), ((qM 2), .inl (cI, 4, .inl g16))] H := by rw [eg16]; exact hP
  have hD : va_D A [(aM, oM qM 0 0 0 0 0 0 0 0 0 0 0 0 0 0 0 0 0 0), ((qM 1), .inl (cB, 2000, .inl g15)), ((qM 2), .inl (cI, 4, .inl g16))] := by rw [eg16]; exact hD
  refine lv_iinc (v := (-8)) (lv' := [(2, .int (-8)), (0, .ref aM), (1, .int y0)]) hx hb dX12_four_32 hl (k := 0) rfl (by decide +kernel) (by decide) rfl (fun ls hl => ?_)
  refine lv_goto (tgt := 3) hx hb dX12_four_35 (by decide) ?_
  refine lv_iload_n hx hb dX12_four_3 rfl (lv_at hl 0 rfl) ?_
  refine lv_if_lt (tgt := 38) hx hb dX12_four_4 (by decide) (fun _ => ?_) (fun c9 => absurd c9 (by decide +kernel))
  exact g_vret (g16, g15) hF hr hlocks (hP.sub [0, 1, 2] rfl) (hD.sub [0, 1, 2] rfl rfl) hS fg16 dX12_four_38 (Nat.le_of_ble_eq_true rfl) (Nat.le_of_ble_eq_true rfl)
