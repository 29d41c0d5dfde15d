set_option maxHeartbeats 8000000 in
set_option maxRecDepth 100000 in
theorem c_X10_passDay {l : Launch} {D : va_G} {cI cB cS cZ cW : ClassId} {aW : Nat} {qW : Nat → Nat} {qP : Nat → Nat}  {sz : Nat} : MI l D (gT cI cB cS cZ cW) yX10_passDay (wG yX10_passDay cX10_passDay 1 (some .int)) { frames := 1, cells := 0, slots := 0, locals := 22 } [.ref aW] [(aW, .inr (10, [.int 0, .ref (qW 1), .ref (qW 2), .ref (qW 3), .ref (qW 4), .ref (qW 5)])), ((qW 2), .inr (6, [.int 0, .ref (qP 1), .ref (qP 2), .ref (qP 3), .ref (qP 4), .ref (qP 5), .ref (qP 6), .ref (qP 7), .ref (qP 8), .ref (qP 9), .ref (qP 10), .ref (qP 11), .ref (qP 12), .ref (qP 13), .ref (qP 14)]))] sz (fun (r : Int32) (u : Unit) => r = 1) (fun (u : Unit) => [] : (Unit) → va_W) 0 0 := by
  refine g_enter (y := yX10_passDay) (w := (wG yX10_passDay cX10_passDay 1 (some .int))) (As := [.ref aW]) (D := D) (T := gT cI cB cS cZ cW) (ws := [(aW, .inr (10, [.int 0, .ref (qW 1), .ref (qW 2), .ref (qW 3), .ref (qW 4), .ref (qW 5)])), ((qW 2), .inr (6, [.int 0, .ref (qP 1), .ref (qP 2), .ref (qP 3), .ref (qP 4), .ref (qP 5), .ref (qP 6), .ref (qP 7), .ref (qP 8), .ref (qP 9), .ref (qP 10), .ref (qP 11), .ref (qP 12), .ref (qP 13), .ref (qP 14)]))]) (gQi D (fun (r : Int32) (u : Unit) => r = 1) (fun (u : Unit) => [] : (Unit) → va_W)) (cc := cX10_passDay) (maxL := 1) (ret := (some .int)) (by decide) rfl (Nat.le_of_ble_eq_true rfl) ?_
  intro p e s m below meth c A ls hF hr hlocks hname hsz hE hA hP hD hS hl
  have hF : CallFix p m c cX10_passDay 1 s ([.ref aW] : List Value).toArray (wG yX10_passDay cX10_passDay 1 (some .int)) RX10 := hF
  obtain ⟨hx, hb, hml, hown, hts⟩ := id hF
  have htg : ∀ w ∈ GL, w.before ([.ref aW] : List Value).toArray s = true := fun w h => hts w (List.mem_cons_of_mem _ h)
  have hl : lv_has ls 1 [(0, .ref aW)] := hl
  have z0 := t_0
  have z1 := t_1
  have z999 := t_999
  refine lv_aload_n hx hb dX10_passDay_0 rfl (lv_at hl 0 rfl) ?_
  refine va_get (D := D) (ci := 10) (v := .int 0) (C := RX10) (T := TX10) (N := 6) hx hb htg iwG_10 hown hE.1 hP 0 rfl rfl 0 (by decide) (htg _ wm_72) (fun _ h9 => h9) rfl dX10_passDay_1 ?_
  refine lv_sipush (v := 999) hx hb dX10_passDay_4 (by decide +kernel) ?_
  refine lv_icmp_lt (tgt := 12) hx hb dX10_passDay_7 (by decide) (fun _ => ?_) (fun c9 => absurd c9 (by decide +kernel))
  refine lv_aload_n hx hb dX10_passDay_12 rfl (lv_at hl 0 rfl) ?_
  refine va_get (D := D) (ci := 10) (v := .ref (qW 2)) (C := RX10) (T := TX10) (N := 6) hx hb htg iwG_10 hown hE.1 hP 0 rfl rfl 2 (by decide) (htg _ wm_85) (fun _ h9 => h9) rfl dX10_passDay_13 ?_
  refine g_av (D := D) (wc := [((qW 2), .inr (6, [.int 0, .ref (qP 1), .ref (qP 2), .ref (qP 3), .ref (qP 4), .ref (qP 5), .ref (qP 6), .ref (qP 7), .ref (qP 8), .ref (qP 9), .ref (qP 10), .ref (qP 11), .ref (qP 12), .ref (qP 13), .ref (qP 14)]))]) (wr := [(aW, .inr (10, [.int 0, .ref (qW 1), .ref (qW 2), .ref (qW 3), .ref (qW 4), .ref (qW 5)]))]) hP hD hS hA [1] [0] rfl rfl rfl rfl (by decide) (fun hPc hDc => va_runV (As := []) (rest := []) hF (c_X6_endDay (l := l) (D := D) (cI := cI) (cB := cB) (cS := cS) (cZ := cZ) (cW := cW) (aP := (qW 2)) (qP := qP)) (cwV 0 hts (gGV (fun _ h => List.mem_cons_of_mem _ h) wm_220 wm_221 wm_222 wm_81 wm_223) rfl rfl rfl (by decide +kernel) ⟨Nat.le_of_ble_eq_true rfl, Nat.le_of_ble_eq_true rfl⟩) (g_preV (q := (RX6, TX6, 15)) (ci := 6) (q0 := 0) hE hPc hDc rfl rfl) rfl rfl hl.1 rfl (lv_room (Nat.le_of_ble_eq_true rfl)) dX10_passDay_16 ⟨Nat.le_of_ble_eq_true rfl, Nat.le_of_ble_eq_true rfl⟩) (fun u2 H locs p3 hP hD hS => ?_)
  have hP : va_P D vwCl [(aW, .inr (10, [.int 0, .ref (qW 1), .ref (qW 2), .ref (qW 3), .ref (qW 4), .ref (qW 5)])), ((qW 2), .inr (6, [.int 0, .ref (qP 1), .ref (qP 2), .ref (qP 3), .ref (qP 4), .ref (qP 5), .ref (qP 6), .ref (qP 7), .ref (qP 8), .ref (qP 9), .ref (qP 10), .ref (qP 11), .ref (qP 12), .ref (qP 13), .ref (qP 14)]))] H := hP
  have hD : va_D A [(aW, .inr (10, [.int 0, .ref (qW 1), .ref (qW 2), .ref (qW 3), .ref (qW 4), .ref (qW 5)])), ((qW 2), .inr (6, [.int 0, .ref (qP 1), .ref (qP 2), .ref (qP 3), .ref (qP 4), .ref (qP 5), .ref (qP 6), .ref (qP 7), .ref (qP 8), .ref (qP 9), .ref (qP 10), .ref (qP 11), .ref (qP 12), .ref (qP 13), .ref (qP 14)]))] := hD
  refine lv_aload_n hx hb dX10_passDay_19 rfl (lv_at hl 0 rfl) ?_
  refine lv_dup hx hb dX10_passDay_20 rfl ?_
  refine va_get (D := D) (ci := 10) (v := .int 0) (C := RX10) (T := TX10) (N := 6) hx hb htg iwG_10 hown hE.1 hP 0 rfl rfl 0 (by decide) (htg _ wm_72) (fun _ h9 => h9) rfl dX10_passDay_21 ?_
  refine lv_iconst (v := 1) hx hb dX10_passDay_24 (by decide +kernel) ?_
  refine lv_iadd hx hb dX10_passDay_25 ?_
  refine g_top 1 (by decide +kernel) ?_
  refine va_put (D := D) (ci := 10) (v := .int 1) (ty := tyX10 0) (C := RX10) (T := TX10) (N := 6) hx hb htg iwG_10 tyX10 tyX10_ok nmX10 hown hE.1 hP hD hS 0 rfl rfl 0 (by decide) (htg _ wm_72) (fun _ h9 => h9) rfl (by decide +kernel) rfl rfl (Nat.le_of_ble_eq_true rfl) dX10_passDay_26 (fun H locs hP hD hS => ?_)
  have hP : va_P D vwCl [(aW, .inr (10, [.int 1, .ref (qW 1), .ref (qW 2), .ref (qW 3), .ref (qW 4), .ref (qW 5)])), ((qW 2), .inr (6, [.int 0, .ref (qP 1), .ref (qP 2), .ref (qP 3), .ref (qP 4), .ref (qP 5), .ref (qP 6), .ref (qP 7), .ref (qP 8), .ref (qP 9), .ref (qP 10), .ref (qP 11), .ref (qP 12), .ref (qP 13), .ref (qP 14)]))] H := hP
  have hD : va_D A [(aW, .inr (10, [.int 1, .ref (qW 1), .ref (qW 2), .ref (qW 3), .ref (qW 4), .ref (qW 5)])), ((qW 2), .inr (6, [.int 0, .ref (qP 1), .ref (qP 2), .ref (qP 3), .ref (qP 4), .ref (qP 5), .ref (qP 6), .ref (qP 7), .ref (qP 8), .ref (qP 9), .ref (qP 10), .ref (qP 11), .ref (qP 12), .ref (qP 13), .ref (qP 14)]))] := hD
  refine lv_aload_n hx hb dX10_passDay_29 rfl (lv_at hl 0 rfl) ?_
  refine va_get (D := D) (ci := 10) (v := .ref (qW 2)) (C := RX10) (T := TX10) (N := 6) hx hb htg iwG_10 hown hE.1 hP 0 rfl rfl 2 (by decide) (htg _ wm_85) (fun _ h9 => h9) rfl dX10_passDay_30 ?_
  refine lv_aload_n hx hb dX10_passDay_33 rfl (lv_at hl 0 rfl) ?_
  refine va_get (D := D) (ci := 10) (v := .int 1) (C := RX10) (T := TX10) (N := 6) hx hb htg iwG_10 hown hE.1 hP 0 rfl rfl 0 (by decide) (htg _ wm_72) (fun _ h9 => h9) rfl dX10_passDay_34 ?_
  refine g_av (D := D) (wc := [((qW 2), .inr (6, [.int 0, .ref (qP 1), .ref (qP 2), .ref (qP 3), .ref (qP 4), .ref (qP 5), .ref (qP 6), .ref (qP 7), .ref (qP 8), .ref (qP 9), .ref (qP 10), .ref (qP 11), .ref (qP 12), .ref (qP 13), .ref (qP 14)]))]) (wr := [(aW, .inr (10, [.int 1, .ref (qW 1), .ref (qW 2), .ref (qW 3), .ref (qW 4), .ref (qW 5)]))]) hP hD hS hA [1] [0] rfl rfl rfl rfl (by decide) (fun hPc hDc => va_runV (As := [.int 1]) (rest := []) hF (c_X6_arrive (l := l) (D := D) (cI := cI) (cB := cB) (cS := cS) (cZ := cZ) (cW := cW) (aP := (qW 2)) (qP := qP)) (cwV 1 hts (gGV (fun _ h => List.mem_cons_of_mem _ h) wm_224 wm_225 wm_226 wm_81 wm_227) rfl rfl rfl (by decide +kernel) ⟨Nat.le_of_ble_eq_true rfl, Nat.le_of_ble_eq_true rfl⟩) (g_preV (q := (RX6, TX6, 15)) (ci := 6) (q0 := 0) hE hPc hDc rfl rfl) rfl rfl hl.1 rfl (lv_room (Nat.le_of_ble_eq_true rfl)) dX10_passDay_37 ⟨Nat.le_of_ble_eq_true rfl, Nat.le_of_ble_eq_true rfl⟩) (fun u5 H locs p6 hP hD hS => ?_)
  have hP : va_P D vwCl [(aW, .inr (10, [.int 1, .ref (qW 1), .ref (qW 2), .ref (qW 3), .ref (qW 4), .ref (qW 5)])), ((qW 2), .inr (6, [.int 0, .ref (qP 1), .ref (qP 2), .ref (qP 3), .ref (qP 4), .ref (qP 5), .ref (qP 6), .ref (qP 7), .ref (qP 8), .ref (qP 9), .ref (qP 10), .ref (qP 11), .ref (qP 12), .ref (qP 13), .ref (qP 14)]))] H := hP
  have hD : va_D A [(aW, .inr (10, [.int 1, .ref (qW 1), .ref (qW 2), .ref (qW 3), .ref (qW 4), .ref (qW 5)])), ((qW 2), .inr (6, [.int 0, .ref (qP 1), .ref (qP 2), .ref (qP 3), .ref (qP 4), .ref (qP 5), .ref (qP 6), .ref (qP 7), .ref (qP 8), .ref (qP 9), .ref (qP 10), .ref (qP 11), .ref (qP 12), .ref (qP 13), .ref (qP 14)]))] := hD
  refine lv_aload_n hx hb dX10_passDay_40 rfl (lv_at hl 0 rfl) ?_
  refine va_get (D := D) (ci := 10) (v := .int 1) (C := RX10) (T := TX10) (N := 6) hx hb htg iwG_10 hown hE.1 hP 0 rfl rfl 0 (by decide) (htg _ wm_72) (fun _ h9 => h9) rfl dX10_passDay_41 ?_
  exact g_iret () hF hr rfl hlocks (hP.sub [] rfl) (hD.sub [] rfl rfl) hS rfl dX10_passDay_44 (Nat.le_of_ble_eq_true rfl) (Nat.le_of_ble_eq_true rfl)
set_option maxHeartbeats 8000000 in
set_option maxRecDepth 100000 in
theorem c_X10_personFact {l : Launch} {D : va_G} {cI cB cS cZ cW : ClassId} {aW : Nat} {y0 : Int32} {y1 : Int32} {qW : Nat → Nat} {qP : Nat → Nat}  {sz : Nat} : MI l D (gT cI cB cS cZ cW) yX10_personFact (wG yX10_personFact cX10_personFact 3 (some .int)) { frames := 1, cells := 0, slots := 0, locals := 21 } [.ref aW, .int y0, .int y1] [(aW, .inr (10, [.int 0, .ref (qW 1), .ref (qW 2), .ref (qW 3), .ref (qW 4), .ref (qW 5)])), ((qW 2), .inr (6, [.int 0, .ref (qP 1), .ref (qP 2), .ref (qP 3), .ref (qP 4), .ref (qP 5), .ref (qP 6), .ref (qP 7), .ref (qP 8), .ref (qP 9), .ref (qP 10), .ref (qP 11), .ref (qP 12), .ref (qP 13), .ref (qP 14)]))] sz (fun (r : Int32) (u : Unit) => r = (-100)) (fun (u : Unit) => [] : (Unit) → va_W) 0 0 := by
  refine g_enter (y := yX10_personFact) (w := (wG yX10_personFact cX10_personFact 3 (some .int))) (As := [.ref aW, .int y0, .int y1]) (D := D) (T := gT cI cB cS cZ cW) (ws := [(aW, .inr (10, [.int 0, .ref (qW 1), .ref (qW 2), .ref (qW 3), .ref (qW 4), .ref (qW 5)])), ((qW 2), .inr (6, [.int 0, .ref (qP 1), .ref (qP 2), .ref (qP 3), .ref (qP 4), .ref (qP 5), .ref (qP 6), .ref (qP 7), .ref (qP 8), .ref (qP 9), .ref (qP 10), .ref (qP 11), .ref (qP 12), .ref (qP 13), .ref (qP 14)]))]) (gQi D (fun (r : Int32) (u : Unit) => r = (-100)) (fun (u : Unit) => [] : (Unit) → va_W)) (cc := cX10_personFact) (maxL := 3) (ret := (some .int)) (by decide) rfl (Nat.le_of_ble_eq_true rfl) ?_
  intro p e s m below meth c A ls hF hr hlocks hname hsz hE hA hP hD hS hl
  have hF : CallFix p m c cX10_personFact 3 s ([.ref aW, .int y0, .int y1] : List Value).toArray (wG yX10_personFact cX10_personFact 3 (some .int)) RX10 := hF
  obtain ⟨hx, hb, hml, hown, hts⟩ := id hF
  have htg : ∀ w ∈ GL, w.before ([.ref aW, .int y0, .int y1] : List Value).toArray s = true := fun w h => hts w (List.mem_cons_of_mem _ h)
  have hl : lv_has ls 3 [(0, .ref aW), (1, .int y0), (2, .int y1)] := hl
  have zm100 := tm_100
  have z0 := t_0
  refine lv_aload_n hx hb dX10_personFact_0 rfl (lv_at hl 0 rfl) ?_
  refine va_get (D := D) (ci := 10) (v := .ref (qW 2)) (C := RX10) (T := TX10) (N := 6) hx hb htg iwG_10 hown hE.1 hP 0 rfl rfl 2 (by decide) (htg _ wm_85) (fun _ h9 => h9) rfl dX10_personFact_1 ?_
  refine lv_iload_n hx hb dX10_personFact_4 rfl (lv_at hl 1 rfl) ?_
  refine g_ai (D := D) (wc := [((qW 2), .inr (6, [.int 0, .ref (qP 1), .ref (qP 2), .ref (qP 3), .ref (qP 4), .ref (qP 5), .ref (qP 6), .ref (qP 7), .ref (qP 8), .ref (qP 9), .ref (qP 10), .ref (qP 11), .ref (qP 12), .ref (qP 13), .ref (qP 14)]))]) (wr := [(aW, .inr (10, [.int 0, .ref (qW 1), .ref (qW 2), .ref (qW 3), .ref (qW 4), .ref (qW 5)]))]) hP hD hS hA [1] [0] rfl rfl rfl rfl (by decide) (fun hPc hDc => va_runV (As := [.int y0]) (rest := []) hF (c_X6_has (l := l) (D := D) (cI := cI) (cB := cB) (cS := cS) (cZ := cZ) (cW := cW) (aP := (qW 2)) (y0 := y0) (qP := qP)) (cwV 1 hts (gGV (fun _ h => List.mem_cons_of_mem _ h) wm_228 wm_154 wm_155 wm_81 wm_156) rfl rfl rfl (by decide +kernel) ⟨Nat.le_of_ble_eq_true rfl, Nat.le_of_ble_eq_true rfl⟩) (g_preV (q := (RX6, TX6, 15)) (ci := 6) (q0 := 0) hE hPc hDc rfl rfl) rfl rfl hl.1 rfl (lv_room (Nat.le_of_ble_eq_true rfl)) dX10_personFact_5 ⟨Nat.le_of_ble_eq_true rfl, Nat.le_of_ble_eq_true rfl⟩) (fun r1 u2 H locs p3 hP hD hS => ?_)
  have hP : va_P D vwCl [(aW, .inr (10, [.int 0, .ref (qW 1), .ref (qW 2), .ref (qW 3), .ref (qW 4), .ref (qW 5)])), ((qW 2), .inr (6, [.int 0, .ref (qP 1), .ref (qP 2), .ref (qP 3), .ref (qP 4), .ref (qP 5), .ref (qP 6), .ref (qP 7), .ref (qP 8), .ref (qP 9), .ref (qP 10), .ref (qP 11), .ref (qP 12), .ref (qP 13), .ref (qP 14)]))] H := hP
  have hD : va_D A [(aW, .inr (10, [.int 0, .ref (qW 1), .ref (qW 2), .ref (qW 3), .ref (qW 4), .ref (qW 5)])), ((qW 2), .inr (6, [.int 0, .ref (qP 1), .ref (qP 2), .ref (qP 3), .ref (qP 4), .ref (qP 5), .ref (qP 6), .ref (qP 7), .ref (qP 8), .ref (qP 9), .ref (qP 10), .ref (qP 11), .ref (qP 12), .ref (qP 13), .ref (qP 14)]))] := hD
  obtain rfl := p3
  refine lv_if_ne (tgt := 14) hx hb dX10_personFact_8 (by decide) (fun c9 => absurd c9 (by decide +kernel)) (fun _ => ?_)
  refine lv_bipush (v := (-100)) hx hb dX10_personFact_11 (by decide +kernel) ?_
  exact g_iret () hF hr rfl hlocks (hP.sub [] rfl) (hD.sub [] rfl rfl) hS rfl dX10_personFact_13 (Nat.le_of_ble_eq_true rfl) (Nat.le_of_ble_eq_true rfl)
set_option maxHeartbeats 8000000 in
set_option maxRecDepth 100000 in
theorem c_X10_canBeTold {l : Launch} {D : va_G} {cI cB cS cZ cW : ClassId} {aW : Nat} {y0 : Int32} {y1 : Int32} {y2 : Int32} {y3 : Int32} {qW : Nat → Nat} {qP : Nat → Nat}  {sz : Nat} : MI l D (gT cI cB cS cZ cW) yX10_canBeTold (wG yX10_canBeTold cX10_canBeTold 5 (some .boolean)) { frames := 1, cells := 0, slots := 0, locals := 22 } [.ref aW, .int y0, .int y1, .int y2, .int y3] [(aW, .inr (10, [.int 0, .ref (qW 1), .ref (qW 2), .ref (qW 3), .ref (qW 4), .ref (qW 5)])), ((qW 2), .inr (6, [.int 0, .ref (qP 1), .ref (qP 2), .ref (qP 3), .ref (qP 4), .ref (qP 5), .ref (qP 6), .ref (qP 7), .ref (qP 8), .ref (qP 9), .ref (qP 10), .ref (qP 11), .ref (qP 12), .ref (qP 13), .ref (qP 14)]))] sz (fun (r : Int32) (u : Unit) => r = 0) (fun (u : Unit) => [(aW, .inr (10, [.int 0, .ref (qW 1), .ref (qW 2), .ref (qW 3), .ref (qW 4), .ref (qW 5)])), ((qW 2), .inr (6, [.int 0, .ref (qP 1), .ref (qP 2), .ref (qP 3), .ref (qP 4), .ref (qP 5), .ref (qP 6), .ref (qP 7), .ref (qP 8), .ref (qP 9), .ref (qP 10), .ref (qP 11), .ref (qP 12), .ref (qP 13), .ref (qP 14)]))] : (Unit) → va_W) 0 0 := by
  refine g_enter (y := yX10_canBeTold) (w := (wG yX10_canBeTold cX10_canBeTold 5 (some .boolean))) (As := [.ref aW, .int y0, .int y1, .int y2, .int y3]) (D := D) (T := gT cI cB cS cZ cW) (ws := [(aW, .inr (10, [.int 0, .ref (qW 1), .ref (qW 2), .ref (qW 3), .ref (qW 4), .ref (qW 5)])), ((qW 2), .inr (6, [.int 0, .ref (qP 1), .ref (qP 2), .ref (qP 3), .ref (qP 4), .ref (qP 5), .ref (qP 6), .ref (qP 7), .ref (qP 8), .ref (qP 9), .ref (qP 10), .ref (qP 11), .ref (qP 12), .ref (qP 13), .ref (qP 14)]))]) (gQi D (fun (r : Int32) (u : Unit) => r = 0) (fun (u : Unit) => [(aW, .inr (10, [.int 0, .ref (qW 1), .ref (qW 2), .ref (qW 3), .ref (qW 4), .ref (qW 5)])), ((qW 2), .inr (6, [.int 0, .ref (qP 1), .ref (qP 2), .ref (qP 3), .ref (qP 4), .ref (qP 5), .ref (qP 6), .ref (qP 7), .ref (qP 8), .ref (qP 9), .ref (qP 10), .ref (qP 11), .ref (qP 12), .ref (qP 13), .ref (qP 14)]))] : (Unit) → va_W)) (cc := cX10_canBeTold) (maxL := 5) (ret := (some .boolean)) (by decide) rfl (Nat.le_of_ble_eq_true rfl) ?_
  intro p e s m below meth c A ls hF hr hlocks hname hsz hE hA hP hD hS hl
  have hF : CallFix p m c cX10_canBeTold 5 s ([.ref aW, .int y0, .int y1, .int y2, .int y3] : List Value).toArray (wG yX10_canBeTold cX10_canBeTold 5 (some .boolean)) RX10 := hF
  obtain ⟨hx, hb, hml, hown, hts⟩ := id hF
  have htg : ∀ w ∈ GL, w.before ([.ref aW, .int y0, .int y1, .int y2, .int y3] : List Value).toArray s = true := fun w h => hts w (List.mem_cons_of_mem _ h)
  have hl : lv_has ls 5 [(0, .ref aW), (1, .int y0), (2, .int y1), (3, .int y2), (4, .int y3)] := hl
  have z0 := t_0
  have z1 := t_1
  have z4 := t_4
  refine lv_iload_n hx hb dX10_canBeTold_0 rfl (lv_at hl 1 rfl) ?_
  refine lv_iconst (v := 0) hx hb dX10_canBeTold_1 (by decide +kernel) ?_
  refine lv_iconst (v := 4) hx hb dX10_canBeTold_2 (by decide +kernel) ?_
  refine g_ai (D := D) (wc := []) (wr := [(aW, .inr (10, [.int 0, .ref (qW 1), .ref (qW 2), .ref (qW 3), .ref (qW 4), .ref (qW 5)])), ((qW 2), .inr (6, [.int 0, .ref (qP 1), .ref (qP 2), .ref (qP 3), .ref (qP 4), .ref (qP 5), .ref (qP 6), .ref (qP 7), .ref (qP 8), .ref (qP 9), .ref (qP 10), .ref (qP 11), .ref (qP 12), .ref (qP 13), .ref (qP 14)]))]) hP hD hS hA [] [0, 1] rfl rfl rfl rfl (by decide) (fun hPc hDc => va_runSN (As := [.int y0, .int 0, .int 4]) (rest := []) hF (c_X11_within (l := l) (D := D) (cI := cI) (cB := cB) (cS := cS) (cZ := cZ) (cW := cW) (y0 := y0) (y1 := 0) (y2 := 4)) ⟨(va_cnB (host := "LastTongue") 3 hts (gGI (fun _ h => List.mem_cons_of_mem _ h) wm_150) rfl rfl rfl (hE.2.1 (RX10, 142, yX11_within, "LastTongue") (List.mem_of_getElem? (i := 11) rfl)) (htg _ wm_151) (by decide +kernel) ⟨Nat.le_of_ble_eq_true rfl, Nat.le_of_ble_eq_true rfl⟩), (htg _ wm_152), trivial⟩ (g_preS hE hPc hDc) rfl rfl hl.1 rfl (lv_room (Nat.le_of_ble_eq_true rfl)) dX10_canBeTold_3 ⟨Nat.le_of_ble_eq_true rfl, Nat.le_of_ble_eq_true rfl⟩) (fun r1 u2 H locs p3 hP hD hS => ?_)
  have hP : va_P D vwCl [(aW, .inr (10, [.int 0, .ref (qW 1), .ref (qW 2), .ref (qW 3), .ref (qW 4), .ref (qW 5)])), ((qW 2), .inr (6, [.int 0, .ref (qP 1), .ref (qP 2), .ref (qP 3), .ref (qP 4), .ref (qP 5), .ref (qP 6), .ref (qP 7), .ref (qP 8), .ref (qP 9), .ref (qP 10), .ref (qP 11), .ref (qP 12), .ref (qP 13), .ref (qP 14)]))] H := hP
  have hD : va_D A [(aW, .inr (10, [.int 0, .ref (qW 1), .ref (qW 2), .ref (qW 3), .ref (qW 4), .ref (qW 5)])), ((qW 2), .inr (6, [.int 0, .ref (qP 1), .ref (qP 2), .ref (qP 3), .ref (qP 4), .ref (qP 5), .ref (qP 6), .ref (qP 7), .ref (qP 8), .ref (qP 9), .ref (qP 10), .ref (qP 11), .ref (qP 12), .ref (qP 13), .ref (qP 14)]))] := hD
  rcases p3 with ⟨rfl, p3a⟩ | ⟨rfl, p3a⟩
  · skip
    refine lv_if_eq (tgt := 46) hx hb dX10_canBeTold_6 (by decide) (fun c9 => absurd c9 (by decide +kernel)) (fun _ => ?_)
    refine lv_aload_n hx hb dX10_canBeTold_9 rfl (lv_at hl 0 rfl) ?_
    refine va_get (D := D) (ci := 10) (v := .ref (qW 2)) (C := RX10) (T := TX10) (N := 6) hx hb htg iwG_10 hown hE.1 hP 0 rfl rfl 2 (by decide) (htg _ wm_85) (fun _ h9 => h9) rfl dX10_canBeTold_10 ?_
    refine lv_iload_n hx hb dX10_canBeTold_13 rfl (lv_at hl 2 rfl) ?_
    refine g_ai (D := D) (wc := [((qW 2), .inr (6, [.int 0, .ref (qP 1), .ref (qP 2), .ref (qP 3), .ref (qP 4), .ref (qP 5), .ref (qP 6), .ref (qP 7), .ref (qP 8), .ref (qP 9), .ref (qP 10), .ref (qP 11), .ref (qP 12), .ref (qP 13), .ref (qP 14)]))]) (wr := [(aW, .inr (10, [.int 0, .ref (qW 1), .ref (qW 2), .ref (qW 3), .ref (qW 4), .ref (qW 5)]))]) hP hD hS hA [1] [0] rfl rfl rfl rfl (by decide) (fun hPc hDc => va_runV (As := [.int y1]) (rest := []) hF (c_X6_has (l := l) (D := D) (cI := cI) (cB := cB) (cS := cS) (cZ := cZ) (cW := cW) (aP := (qW 2)) (y0 := y1) (qP := qP)) (cwV 1 hts (gGV (fun _ h => List.mem_cons_of_mem _ h) wm_228 wm_154 wm_155 wm_81 wm_156) rfl rfl rfl (by decide +kernel) ⟨Nat.le_of_ble_eq_true rfl, Nat.le_of_ble_eq_true rfl⟩) (g_preV (q := (RX6, TX6, 15)) (ci := 6) (q0 := 0) hE hPc hDc rfl rfl) rfl rfl hl.1 rfl (lv_room (Nat.le_of_ble_eq_true rfl)) dX10_canBeTold_14 ⟨Nat.le_of_ble_eq_true rfl, Nat.le_of_ble_eq_true rfl⟩) (fun r4 u5 H locs p6 hP hD hS => ?_)
    have hP : va_P D vwCl [(aW, .inr (10, [.int 0, .ref (qW 1), .ref (qW 2), .ref (qW 3), .ref (qW 4), .ref (qW 5)])), ((qW 2), .inr (6, [.int 0, .ref (qP 1), .ref (qP 2), .ref (qP 3), .ref (qP 4), .ref (qP 5), .ref (qP 6), .ref (qP 7), .ref (qP 8), .ref (qP 9), .ref (qP 10), .ref (qP 11), .ref (qP 12), .ref (qP 13), .ref (qP 14)]))] H := hP
    have hD : va_D A [(aW, .inr (10, [.int 0, .ref (qW 1), .ref (qW 2), .ref (qW 3), .ref (qW 4), .ref (qW 5)])), ((qW 2), .inr (6, [.int 0, .ref (qP 1), .ref (qP 2), .ref (qP 3), .ref (qP 4), .ref (qP 5), .ref (qP 6), .ref (qP 7), .ref (qP 8), .ref (qP 9), .ref (qP 10), .ref (qP 11), .ref (qP 12), .ref (qP 13), .ref (qP 14)]))] := hD
    obtain rfl := p6
    refine lv_if_eq (tgt := 46) hx hb dX10_canBeTold_17 (by decide) (fun _ => ?_) (fun c9 => absurd c9 (by decide +kernel))
    refine lv_iconst (v := 0) hx hb dX10_canBeTold_46 (by decide +kernel) ?_
    exact g_iret () hF hr rfl hlocks (hP.sub [0, 1] rfl) (hD.sub [0, 1] rfl rfl) hS rfl dX10_canBeTold_47 (Nat.le_of_ble_eq_true rfl) (Nat.le_of_ble_eq_true rfl)
  · skip
    refine lv_if_eq (tgt := 46) hx hb dX10_canBeTold_6 (by decide) (fun _ => ?_) (fun c9 => absurd c9 (by decide +kernel))
    refine lv_iconst (v := 0) hx hb dX10_canBeTold_46 (by decide +kernel) ?_
    exact g_iret () hF hr rfl hlocks (hP.sub [0, 1] rfl) (hD.sub [0, 1] rfl rfl) hS rfl dX10_canBeTold_47 (Nat.le_of_ble_eq_true rfl) (Nat.le_of_ble_eq_true rfl)
set_option maxHeartbeats 8000000 in
set_option maxRecDepth 100000 in
theorem c_X10_canBeTold_4 {l : Launch} {D : va_G} {cI cB cS cZ cW : ClassId} {aW : Nat} {y0 : Int32} {y1 : Int32} {y2 : Int32} {qW : Nat → Nat} {qP : Nat → Nat}  {sz : Nat} : MI l D (gT cI cB cS cZ cW) yX10_canBeTold (wG yX10_canBeTold cX10_canBeTold 5 (some .boolean)) { frames := 1, cells := 0, slots := 0, locals := 22 } [.ref aW, .int 4, .int y0, .int y1, .int y2] [(aW, .inr (10, [.int 0, .ref (qW 1), .ref (qW 2), .ref (qW 3), .ref (qW 4), .ref (qW 5)])), ((qW 2), .inr (6, [.int 0, .ref (qP 1), .ref (qP 2), .ref (qP 3), .ref (qP 4), .ref (qP 5), .ref (qP 6), .ref (qP 7), .ref (qP 8), .ref (qP 9), .ref (qP 10), .ref (qP 11), .ref (qP 12), .ref (qP 13), .ref (qP 14)]))] sz (fun (r : Int32) (u : Unit) => r = 0) (fun (u : Unit) => [(aW, .inr (10, [.int 0, .ref (qW 1), .ref (qW 2), .ref (qW 3), .ref (qW 4), .ref (qW 5)])), ((qW 2), .inr (6, [.int 0, .ref (qP 1), .ref (qP 2), .ref (qP 3), .ref (qP 4), .ref (qP 5), .ref (qP 6), .ref (qP 7), .ref (qP 8), .ref (qP 9), .ref (qP 10), .ref (qP 11), .ref (qP 12), .ref (qP 13), .ref (qP 14)]))] : (Unit) → va_W) 0 0 := by
  refine g_enter (y := yX10_canBeTold) (w := (wG yX10_canBeTold cX10_canBeTold 5 (some .boolean))) (As := [.ref aW, .int 4, .int y0, .int y1, .int y2]) (D := D) (T := gT cI cB cS cZ cW) (ws := [(aW, .inr (10, [.int 0, .ref (qW 1), .ref (qW 2), .ref (qW 3), .ref (qW 4), .ref (qW 5)])), ((qW 2), .inr (6, [.int 0, .ref (qP 1), .ref (qP 2), .ref (qP 3), .ref (qP 4), .ref (qP 5), .ref (qP 6), .ref (qP 7), .ref (qP 8), .ref (qP 9), .ref (qP 10), .ref (qP 11), .ref (qP 12), .ref (qP 13), .ref (qP 14)]))]) (gQi D (fun (r : Int32) (u : Unit) => r = 0) (fun (u : Unit) => [(aW, .inr (10, [.int 0, .ref (qW 1), .ref (qW 2), .ref (qW 3), .ref (qW 4), .ref (qW 5)])), ((qW 2), .inr (6, [.int 0, .ref (qP 1), .ref (qP 2), .ref (qP 3), .ref (qP 4), .ref (qP 5), .ref (qP 6), .ref (qP 7), .ref (qP 8), .ref (qP 9), .ref (qP 10), .ref (qP 11), .ref (qP 12), .ref (qP 13), .ref (qP 14)]))] : (Unit) → va_W)) (cc := cX10_canBeTold) (maxL := 5) (ret := (some .boolean)) (by decide) rfl (Nat.le_of_ble_eq_true rfl) ?_
  intro p e s m below meth c A ls hF hr hlocks hname hsz hE hA hP hD hS hl
  have hF : CallFix p m c cX10_canBeTold 5 s ([.ref aW, .int 4, .int y0, .int y1, .int y2] : List Value).toArray (wG yX10_canBeTold cX10_canBeTold 5 (some .boolean)) RX10 := hF
  obtain ⟨hx, hb, hml, hown, hts⟩ := id hF
  have htg : ∀ w ∈ GL, w.before ([.ref aW, .int 4, .int y0, .int y1, .int y2] : List Value).toArray s = true := fun w h => hts w (List.mem_cons_of_mem _ h)
  have hl : lv_has ls 5 [(0, .ref aW), (1, .int 4), (2, .int y0), (3, .int y1), (4, .int y2)] := hl
  have z0 := t_0
  have z1 := t_1
  have z4 := t_4
  refine lv_iload_n hx hb dX10_canBeTold_0 rfl (lv_at hl 1 rfl) ?_
  refine lv_iconst (v := 0) hx hb dX10_canBeTold_1 (by decide +kernel) ?_
  refine lv_iconst (v := 4) hx hb dX10_canBeTold_2 (by decide +kernel) ?_
  refine g_ai (D := D) (wc := []) (wr := [(aW, .inr (10, [.int 0, .ref (qW 1), .ref (qW 2), .ref (qW 3), .ref (qW 4), .ref (qW 5)])), ((qW 2), .inr (6, [.int 0, .ref (qP 1), .ref (qP 2), .ref (qP 3), .ref (qP 4), .ref (qP 5), .ref (qP 6), .ref (qP 7), .ref (qP 8), .ref (qP 9), .ref (qP 10), .ref (qP 11), .ref (qP 12), .ref (qP 13), .ref (qP 14)]))]) hP hD hS hA [] [0, 1] rfl rfl rfl rfl (by decide) (fun hPc hDc => va_runSN (As := [.int 4, .int 0, .int 4]) (rest := []) hF (c_X11_within (l := l) (D := D) (cI := cI) (cB := cB) (cS := cS) (cZ := cZ) (cW := cW) (y0 := 4) (y1 := 0) (y2 := 4)) ⟨(va_cnB (host := "LastTongue") 3 hts (gGI (fun _ h => List.mem_cons_of_mem _ h) wm_150) rfl rfl rfl (hE.2.1 (RX10, 142, yX11_within, "LastTongue") (List.mem_of_getElem? (i := 11) rfl)) (htg _ wm_151) (by decide +kernel) ⟨Nat.le_of_ble_eq_true rfl, Nat.le_of_ble_eq_true rfl⟩), (htg _ wm_152), trivial⟩ (g_preS hE hPc hDc) rfl rfl hl.1 rfl (lv_room (Nat.le_of_ble_eq_true rfl)) dX10_canBeTold_3 ⟨Nat.le_of_ble_eq_true rfl, Nat.le_of_ble_eq_true rfl⟩) (fun r1 u2 H locs p3 hP hD hS => ?_)
  have hP : va_P D vwCl [(aW, .inr (10, [.int 0, .ref (qW 1), .ref (qW 2), .ref (qW 3), .ref (qW 4), .ref (qW 5)])), ((qW 2), .inr (6, [.int 0, .ref (qP 1), .ref (qP 2), .ref (qP 3), .ref (qP 4), .ref (qP 5), .ref (qP 6), .ref (qP 7), .ref (qP 8), .ref (qP 9), .ref (qP 10), .ref (qP 11), .ref (qP 12), .ref (qP 13), .ref (qP 14)]))] H := hP
  have hD : va_D A [(aW, .inr (10, [.int 0, .ref (qW 1), .ref (qW 2), .ref (qW 3), .ref (qW 4), .ref (qW 5)])), ((qW 2), .inr (6, [.int 0, .ref (qP 1), .ref (qP 2), .ref (qP 3), .ref (qP 4), .ref (qP 5), .ref (qP 6), .ref (qP 7), .ref (qP 8), .ref (qP 9), .ref (qP 10), .ref (qP 11), .ref (qP 12), .ref (qP 13), .ref (qP 14)]))] := hD
  rcases p3 with ⟨rfl, p3a⟩ | ⟨rfl, p3a⟩
  · skip
    refine lv_if_eq (tgt := 46) hx hb dX10_canBeTold_6 (by decide) (fun c9 => absurd c9 (by decide +kernel)) (fun _ => ?_)
    refine lv_aload_n hx hb dX10_canBeTold_9 rfl (lv_at hl 0 rfl) ?_
    refine va_get (D := D) (ci := 10) (v := .ref (qW 2)) (C := RX10) (T := TX10) (N := 6) hx hb htg iwG_10 hown hE.1 hP 0 rfl rfl 2 (by decide) (htg _ wm_85) (fun _ h9 => h9) rfl dX10_canBeTold_10 ?_
    refine lv_iload_n hx hb dX10_canBeTold_13 rfl (lv_at hl 2 rfl) ?_
    refine g_ai (D := D) (wc := [((qW 2), .inr (6, [.int 0, .ref (qP 1), .ref (qP 2), .ref (qP 3), .ref (qP 4), .ref (qP 5), .ref (qP 6), .ref (qP 7), .ref (qP 8), .ref (qP 9), .ref (qP 10), .ref (qP 11), .ref (qP 12), .ref (qP 13), .ref (qP 14)]))]) (wr := [(aW, .inr (10, [.int 0, .ref (qW 1), .ref (qW 2), .ref (qW 3), .ref (qW 4), .ref (qW 5)]))]) hP hD hS hA [1] [0] rfl rfl rfl rfl (by decide) (fun hPc hDc => va_runV (As := [.int y0]) (rest := []) hF (c_X6_has (l := l) (D := D) (cI := cI) (cB := cB) (cS := cS) (cZ := cZ) (cW := cW) (aP := (qW 2)) (y0 := y0) (qP := qP)) (cwV 1 hts (gGV (fun _ h => List.mem_cons_of_mem _ h) wm_228 wm_154 wm_155 wm_81 wm_156) rfl rfl rfl (by decide +kernel) ⟨Nat.le_of_ble_eq_true rfl, Nat.le_of_ble_eq_true rfl⟩) (g_preV (q := (RX6, TX6, 15)) (ci := 6) (q0 := 0) hE hPc hDc rfl rfl) rfl rfl hl.1 rfl (lv_room (Nat.le_of_ble_eq_true rfl)) dX10_canBeTold_14 ⟨Nat.le_of_ble_eq_true rfl, Nat.le_of_ble_eq_true rfl⟩) (fun r4 u5 H locs p6 hP hD hS => ?_)
    have hP : va_P D vwCl [(aW, .inr (10, [.int 0, .ref (qW 1), .ref (qW 2), .ref (qW 3), .ref (qW 4), .ref (qW 5)])), ((qW 2), .inr (6, [.int 0, .ref (qP 1), .ref (qP 2), .ref (qP 3), .ref (qP 4), .ref (qP 5), .ref (qP 6), .ref (qP 7), .ref (qP 8), .ref (qP 9), .ref (qP 10), .ref (qP 11), .ref (qP 12), .ref (qP 13), .ref (qP 14)]))] H := hP
    have hD : va_D A [(aW, .inr (10, [.int 0, .ref (qW 1), .ref (qW 2), .ref (qW 3), .ref (qW 4), .ref (qW 5)])), ((qW 2), .inr (6, [.int 0, .ref (qP 1), .ref (qP 2), .ref (qP 3), .ref (qP 4), .ref (qP 5), .ref (qP 6), .ref (qP 7), .ref (qP 8), .ref (qP 9), .ref (qP 10), .ref (qP 11), .ref (qP 12), .ref (qP 13), .ref (qP 14)]))] := hD
    obtain rfl := p6
    refine lv_if_eq (tgt := 46) hx hb dX10_canBeTold_17 (by decide) (fun _ => ?_) (fun c9 => absurd c9 (by decide +kernel))
    refine lv_iconst (v := 0) hx hb dX10_canBeTold_46 (by decide +kernel) ?_
    exact g_iret () hF hr rfl hlocks (hP.sub [0, 1] rfl) (hD.sub [0, 1] rfl rfl) hS rfl dX10_canBeTold_47 (Nat.le_of_ble_eq_true rfl) (Nat.le_of_ble_eq_true rfl)
  · exfalso; omega
set_option maxHeartbeats 8000000 in
set_option maxRecDepth 100000 in
theorem c_X10_canMeet {l : Launch} {D : va_G} {cI cB cS cZ cW : ClassId} {aW : Nat} {y0 : Int32} {y1 : Int32} {y2 : Int32} {qW : Nat → Nat} {qP : Nat → Nat}  {sz : Nat} : MI l D (gT cI cB cS cZ cW) yX10_canMeet (wG yX10_canMeet cX10_canMeet 5 (some .boolean)) { frames := 3, cells := 0, slots := 0, locals := 63 } [.ref aW, .int y0, .int y1, .int y2] [(aW, .inr (10, [.int 0, .ref (qW 1), .ref (qW 2), .ref (qW 3), .ref (qW 4), .ref (qW 5)])), ((qW 2), .inr (6, [.int 0, .ref (qP 1), .ref (qP 2), .ref (qP 3), .ref (qP 4), .ref (qP 5), .ref (qP 6), .ref (qP 7), .ref (qP 8), .ref (qP 9), .ref (qP 10), .ref (qP 11), .ref (qP 12), .ref (qP 13), .ref (qP 14)]))] sz (fun (r : Int32) (u : Unit) => r = 0) (fun (u : Unit) => [(aW, .inr (10, [.int 0, .ref (qW 1), .ref (qW 2), .ref (qW 3), .ref (qW 4), .ref (qW 5)])), ((qW 2), .inr (6, [.int 0, .ref (qP 1), .ref (qP 2), .ref (qP 3), .ref (qP 4), .ref (qP 5), .ref (qP 6), .ref (qP 7), .ref (qP 8), .ref (qP 9), .ref (qP 10), .ref (qP 11), .ref (qP 12), .ref (qP 13), .ref (qP 14)]))] : (Unit) → va_W) 0 0 := by
  refine g_enter (y := yX10_canMeet) (w := (wG yX10_canMeet cX10_canMeet 5 (some .boolean))) (As := [.ref aW, .int y0, .int y1, .int y2]) (D := D) (T := gT cI cB cS cZ cW) (ws := [(aW, .inr (10, [.int 0, .ref (qW 1), .ref (qW 2), .ref (qW 3), .ref (qW 4), .ref (qW 5)])), ((qW 2), .inr (6, [.int 0, .ref (qP 1), .ref (qP 2), .ref (qP 3), .ref (qP 4), .ref (qP 5), .ref (qP 6), .ref (qP 7), .ref (qP 8), .ref (qP 9), .ref (qP 10), .ref (qP 11), .ref (qP 12), .ref (qP 13), .ref (qP 14)]))]) (gQi D (fun (r : Int32) (u : Unit) => r = 0) (fun (u : Unit) => [(aW, .inr (10, [.int 0, .ref (qW 1), .ref (qW 2), .ref (qW 3), .ref (qW 4), .ref (qW 5)])), ((qW 2), .inr (6, [.int 0, .ref (qP 1), .ref (qP 2), .ref (qP 3), .ref (qP 4), .ref (qP 5), .ref (qP 6), .ref (qP 7), .ref (qP 8), .ref (qP 9), .ref (qP 10), .ref (qP 11), .ref (qP 12), .ref (qP 13), .ref (qP 14)]))] : (Unit) → va_W)) (cc := cX10_canMeet) (maxL := 5) (ret := (some .boolean)) (by decide) rfl (Nat.le_of_ble_eq_true rfl) ?_
  intro p e s m below meth c A ls hF hr hlocks hname hsz hE hA hP hD hS hl
  have hF : CallFix p m c cX10_canMeet 5 s ([.ref aW, .int y0, .int y1, .int y2] : List Value).toArray (wG yX10_canMeet cX10_canMeet 5 (some .boolean)) RX10 := hF
  obtain ⟨hx, hb, hml, hown, hts⟩ := id hF
  have htg : ∀ w ∈ GL, w.before ([.ref aW, .int y0, .int y1, .int y2] : List Value).toArray s = true := fun w h => hts w (List.mem_cons_of_mem _ h)
  have hl : lv_has ls 5 [(0, .ref aW), (1, .int y0), (2, .int y1), (3, .int y2)] := hl
  have z0 := t_0
  refine lv_aload_n hx hb dX10_canMeet_0 rfl (lv_at hl 0 rfl) ?_
  refine va_get (D := D) (ci := 10) (v := .ref (qW 2)) (C := RX10) (T := TX10) (N := 6) hx hb htg iwG_10 hown hE.1 hP 0 rfl rfl 2 (by decide) (htg _ wm_85) (fun _ h9 => h9) rfl dX10_canMeet_1 ?_
  refine lv_iload_n hx hb dX10_canMeet_4 rfl (lv_at hl 1 rfl) ?_
  refine g_ai (D := D) (wc := [((qW 2), .inr (6, [.int 0, .ref (qP 1), .ref (qP 2), .ref (qP 3), .ref (qP 4), .ref (qP 5), .ref (qP 6), .ref (qP 7), .ref (qP 8), .ref (qP 9), .ref (qP 10), .ref (qP 11), .ref (qP 12), .ref (qP 13), .ref (qP 14)]))]) (wr := [(aW, .inr (10, [.int 0, .ref (qW 1), .ref (qW 2), .ref (qW 3), .ref (qW 4), .ref (qW 5)]))]) hP hD hS hA [1] [0] rfl rfl rfl rfl (by decide) (fun hPc hDc => va_runV (As := [.int y0]) (rest := []) hF (c_X6_isLivingWorker (l := l) (D := D) (cI := cI) (cB := cB) (cS := cS) (cZ := cZ) (cW := cW) (aP := (qW 2)) (y0 := y0) (qP := qP)) (cwV 1 hts (gGV (fun _ h => List.mem_cons_of_mem _ h) wm_229 wm_230 wm_231 wm_81 wm_232) rfl rfl rfl (by decide +kernel) ⟨Nat.le_of_ble_eq_true rfl, Nat.le_of_ble_eq_true rfl⟩) (g_preV (q := (RX6, TX6, 15)) (ci := 6) (q0 := 0) hE hPc hDc rfl rfl) rfl rfl hl.1 rfl (lv_room (Nat.le_of_ble_eq_true rfl)) dX10_canMeet_5 ⟨Nat.le_of_ble_eq_true rfl, Nat.le_of_ble_eq_true rfl⟩) (fun r1 u2 H locs p3 hP hD hS => ?_)
  have hP : va_P D vwCl [(aW, .inr (10, [.int 0, .ref (qW 1), .ref (qW 2), .ref (qW 3), .ref (qW 4), .ref (qW 5)])), ((qW 2), .inr (6, [.int 0, .ref (qP 1), .ref (qP 2), .ref (qP 3), .ref (qP 4), .ref (qP 5), .ref (qP 6), .ref (qP 7), .ref (qP 8), .ref (qP 9), .ref (qP 10), .ref (qP 11), .ref (qP 12), .ref (qP 13), .ref (qP 14)]))] H := hP
  have hD : va_D A [(aW, .inr (10, [.int 0, .ref (qW 1), .ref (qW 2), .ref (qW 3), .ref (qW 4), .ref (qW 5)])), ((qW 2), .inr (6, [.int 0, .ref (qP 1), .ref (qP 2), .ref (qP 3), .ref (qP 4), .ref (qP 5), .ref (qP 6), .ref (qP 7), .ref (qP 8), .ref (qP 9), .ref (qP 10), .ref (qP 11), .ref (qP 12), .ref (qP 13), .ref (qP 14)]))] := hD
  obtain rfl := p3
  refine lv_if_eq (tgt := 36) hx hb dX10_canMeet_8 (by decide) (fun _ => ?_) (fun c9 => absurd c9 (by decide +kernel))
  refine lv_iconst (v := 0) hx hb dX10_canMeet_36 (by decide +kernel) ?_
  refine lv_istore (lv' := [(4, .int 0), (0, .ref aW), (1, .int y0), (2, .int y1), (3, .int y2)]) hx hb dX10_canMeet_37 hl (by decide) rfl (fun ls hl => ?_)
  refine lv_iload hx hb dX10_canMeet_39 (lv_at hl 0 rfl) ?_
  refine lv_if_eq (tgt := 61) hx hb dX10_canMeet_41 (by decide) (fun _ => ?_) (fun c9 => absurd c9 (by decide +kernel))
  refine lv_iconst (v := 0) hx hb dX10_canMeet_61 (by decide +kernel) ?_
  exact g_iret () hF hr rfl hlocks (hP.sub [0, 1] rfl) (hD.sub [0, 1] rfl rfl) hS rfl dX10_canMeet_62 (Nat.le_of_ble_eq_true rfl) (Nat.le_of_ble_eq_true rfl)
set_option maxHeartbeats 8000000 in
set_option maxRecDepth 100000 in
theorem c_X10_askFor {l : Launch} {D : va_G} {cI cB cS cZ cW : ClassId} {aW : Nat} {y0 : Int32} {y1 : Int32} {y2 : Int32} {y3 : Int32} {qW : Nat → Nat} {qP : Nat → Nat}  {sz : Nat} : MI l D (gT cI cB cS cZ cW) yX10_askFor (wG yX10_askFor cX10_askFor 5 (some .int)) { frames := 4, cells := 0, slots := 0, locals := 87 } [.ref aW, .int y0, .int y1, .int y2, .int y3] [(aW, .inr (10, [.int 0, .ref (qW 1), .ref (qW 2), .ref (qW 3), .ref (qW 4), .ref (qW 5)])), ((qW 2), .inr (6, [.int 0, .ref (qP 1), .ref (qP 2), .ref (qP 3), .ref (qP 4), .ref (qP 5), .ref (qP 6), .ref (qP 7), .ref (qP 8), .ref (qP 9), .ref (qP 10), .ref (qP 11), .ref (qP 12), .ref (qP 13), .ref (qP 14)]))] sz (fun (r : Int32) (u : Unit) => r = (-1)) (fun (u : Unit) => [] : (Unit) → va_W) 0 0 := by
  refine g_enter (y := yX10_askFor) (w := (wG yX10_askFor cX10_askFor 5 (some .int))) (As := [.ref aW, .int y0, .int y1, .int y2, .int y3]) (D := D) (T := gT cI cB cS cZ cW) (ws := [(aW, .inr (10, [.int 0, .ref (qW 1), .ref (qW 2), .ref (qW 3), .ref (qW 4), .ref (qW 5)])), ((qW 2), .inr (6, [.int 0, .ref (qP 1), .ref (qP 2), .ref (qP 3), .ref (qP 4), .ref (qP 5), .ref (qP 6), .ref (qP 7), .ref (qP 8), .ref (qP 9), .ref (qP 10), .ref (qP 11), .ref (qP 12), .ref (qP 13), .ref (qP 14)]))]) (gQi D (fun (r : Int32) (u : Unit) => r = (-1)) (fun (u : Unit) => [] : (Unit) → va_W)) (cc := cX10_askFor) (maxL := 5) (ret := (some .int)) (by decide) rfl (Nat.le_of_ble_eq_true rfl) ?_
  intro p e s m below meth c A ls hF hr hlocks hname hsz hE hA hP hD hS hl
  have hF : CallFix p m c cX10_askFor 5 s ([.ref aW, .int y0, .int y1, .int y2, .int y3] : List Value).toArray (wG yX10_askFor cX10_askFor 5 (some .int)) RX10 := hF
  obtain ⟨hx, hb, hml, hown, hts⟩ := id hF
  have htg : ∀ w ∈ GL, w.before ([.ref aW, .int y0, .int y1, .int y2, .int y3] : List Value).toArray s = true := fun w h => hts w (List.mem_cons_of_mem _ h)
  have hl : lv_has ls 5 [(0, .ref aW), (1, .int y0), (2, .int y1), (3, .int y2), (4, .int y3)] := hl
  have zm1 := tm_1
  have z0 := t_0
  refine lv_aload_n hx hb dX10_askFor_0 rfl (lv_at hl 0 rfl) ?_
  refine lv_iload_n hx hb dX10_askFor_1 rfl (lv_at hl 1 rfl) ?_
  refine lv_iload_n hx hb dX10_askFor_2 rfl (lv_at hl 2 rfl) ?_
  refine lv_iload_n hx hb dX10_askFor_3 rfl (lv_at hl 3 rfl) ?_
  refine g_ai (D := D) (wc := [(aW, .inr (10, [.int 0, .ref (qW 1), .ref (qW 2), .ref (qW 3), .ref (qW 4), .ref (qW 5)])), ((qW 2), .inr (6, [.int 0, .ref (qP 1), .ref (qP 2), .ref (qP 3), .ref (qP 4), .ref (qP 5), .ref (qP 6), .ref (qP 7), .ref (qP 8), .ref (qP 9), .ref (qP 10), .ref (qP 11), .ref (qP 12), .ref (qP 13), .ref (qP 14)]))]) (wr := []) hP hD hS hA [0, 1] [] rfl rfl rfl rfl (by decide) (fun hPc hDc => va_runV (As := [.int y0, .int y1, .int y2]) (rest := []) hF (c_X10_canMeet (l := l) (D := D) (cI := cI) (cB := cB) (cS := cS) (cZ := cZ) (cW := cW) (aW := aW) (y0 := y0) (y1 := y1) (y2 := y2) (qW := qW) (qP := qP)) (cwV 3 hts (gGV (fun _ h => List.mem_cons_of_mem _ h) wm_233 wm_234 wm_235 wm_108 wm_236) rfl rfl rfl (by decide +kernel) ⟨Nat.le_of_ble_eq_true rfl, Nat.le_of_ble_eq_true rfl⟩) (g_preV (q := (RX10, TX10, 6)) (ci := 10) (q0 := 0) hE hPc hDc rfl rfl) rfl rfl hl.1 rfl (lv_room (Nat.le_of_ble_eq_true rfl)) dX10_askFor_4 ⟨Nat.le_of_ble_eq_true rfl, Nat.le_of_ble_eq_true rfl⟩) (fun r1 u2 H locs p3 hP hD hS => ?_)
  have hP : va_P D vwCl [(aW, .inr (10, [.int 0, .ref (qW 1), .ref (qW 2), .ref (qW 3), .ref (qW 4), .ref (qW 5)])), ((qW 2), .inr (6, [.int 0, .ref (qP 1), .ref (qP 2), .ref (qP 3), .ref (qP 4), .ref (qP 5), .ref (qP 6), .ref (qP 7), .ref (qP 8), .ref (qP 9), .ref (qP 10), .ref (qP 11), .ref (qP 12), .ref (qP 13), .ref (qP 14)]))] H := hP
  have hD : va_D A [(aW, .inr (10, [.int 0, .ref (qW 1), .ref (qW 2), .ref (qW 3), .ref (qW 4), .ref (qW 5)])), ((qW 2), .inr (6, [.int 0, .ref (qP 1), .ref (qP 2), .ref (qP 3), .ref (qP 4), .ref (qP 5), .ref (qP 6), .ref (qP 7), .ref (qP 8), .ref (qP 9), .ref (qP 10), .ref (qP 11), .ref (qP 12), .ref (qP 13), .ref (qP 14)]))] := hD
  obtain rfl := p3
  refine lv_if_eq (tgt := 22) hx hb dX10_askFor_7 (by decide) (fun _ => ?_) (fun c9 => absurd c9 (by decide +kernel))
  refine lv_iconst (v := (-1)) hx hb dX10_askFor_22 (by decide +kernel) ?_
  exact g_iret () hF hr rfl hlocks (hP.sub [] rfl) (hD.sub [] rfl rfl) hS rfl dX10_askFor_23 (Nat.le_of_ble_eq_true rfl) (Nat.le_of_ble_eq_true rfl)
set_option maxHeartbeats 8000000 in
set_option maxRecDepth 100000 in
theorem c_X10_playTo {l : Launch} {D : va_G} {cI cB cS cZ cW : ClassId} {aW : Nat} {y0 : Int32} {y1 : Int32} {qW : Nat → Nat} {qP : Nat → Nat}  {sz : Nat} : MI l D (gT cI cB cS cZ cW) yX10_playTo (wG yX10_playTo cX10_playTo 6 (some .int)) { frames := 3, cells := 0, slots := 0, locals := 63 } [.ref aW, .int y0, .int y1] [(aW, .inr (10, [.int 0, .ref (qW 1), .ref (qW 2), .ref (qW 3), .ref (qW 4), .ref (qW 5)])), ((qW 2), .inr (6, [.int 0, .ref (qP 1), .ref (qP 2), .ref (qP 3), .ref (qP 4), .ref (qP 5), .ref (qP 6), .ref (qP 7), .ref (qP 8), .ref (qP 9), .ref (qP 10), .ref (qP 11), .ref (qP 12), .ref (qP 13), .ref (qP 14)]))] sz (fun (r : Int32) (u : Unit) => r = (-1)) (fun (u : Unit) => [] : (Unit) → va_W) 0 0 := by
  refine g_enter (y := yX10_playTo) (w := (wG yX10_playTo cX10_playTo 6 (some .int))) (As := [.ref aW, .int y0, .int y1]) (D := D) (T := gT cI cB cS cZ cW) (ws := [(aW, .inr (10, [.int 0, .ref (qW 1), .ref (qW 2), .ref (qW 3), .ref (qW 4), .ref (qW 5)])), ((qW 2), .inr (6, [.int 0, .ref (qP 1), .ref (qP 2), .ref (qP 3), .ref (qP 4), .ref (qP 5), .ref (qP 6), .ref (qP 7), .ref (qP 8), .ref (qP 9), .ref (qP 10), .ref (qP 11), .ref (qP 12), .ref (qP 13), .ref (qP 14)]))]) (gQi D (fun (r : Int32) (u : Unit) => r = (-1)) (fun (u : Unit) => [] : (Unit) → va_W)) (cc := cX10_playTo) (maxL := 6) (ret := (some .int)) (by decide) rfl (Nat.le_of_ble_eq_true rfl) ?_
  intro p e s m below meth c A ls hF hr hlocks hname hsz hE hA hP hD hS hl
  have hF : CallFix p m c cX10_playTo 6 s ([.ref aW, .int y0, .int y1] : List Value).toArray (wG yX10_playTo cX10_playTo 6 (some .int)) RX10 := hF
  obtain ⟨hx, hb, hml, hown, hts⟩ := id hF
  have htg : ∀ w ∈ GL, w.before ([.ref aW, .int y0, .int y1] : List Value).toArray s = true := fun w h => hts w (List.mem_cons_of_mem _ h)
  have hl : lv_has ls 6 [(0, .ref aW), (1, .int y0), (2, .int y1)] := hl
  have zm1 := tm_1
  have z0 := t_0
  refine lv_aload_n hx hb dX10_playTo_0 rfl (lv_at hl 0 rfl) ?_
  refine va_get (D := D) (ci := 10) (v := .ref (qW 2)) (C := RX10) (T := TX10) (N := 6) hx hb htg iwG_10 hown hE.1 hP 0 rfl rfl 2 (by decide) (htg _ wm_85) (fun _ h9 => h9) rfl dX10_playTo_1 ?_
  refine lv_iload_n hx hb dX10_playTo_4 rfl (lv_at hl 1 rfl) ?_
  refine g_ai (D := D) (wc := [((qW 2), .inr (6, [.int 0, .ref (qP 1), .ref (qP 2), .ref (qP 3), .ref (qP 4), .ref (qP 5), .ref (qP 6), .ref (qP 7), .ref (qP 8), .ref (qP 9), .ref (qP 10), .ref (qP 11), .ref (qP 12), .ref (qP 13), .ref (qP 14)]))]) (wr := [(aW, .inr (10, [.int 0, .ref (qW 1), .ref (qW 2), .ref (qW 3), .ref (qW 4), .ref (qW 5)]))]) hP hD hS hA [1] [0] rfl rfl rfl rfl (by decide) (fun hPc hDc => va_runV (As := [.int y0]) (rest := []) hF (c_X6_isLivingWorker (l := l) (D := D) (cI := cI) (cB := cB) (cS := cS) (cZ := cZ) (cW := cW) (aP := (qW 2)) (y0 := y0) (qP := qP)) (cwV 1 hts (gGV (fun _ h => List.mem_cons_of_mem _ h) wm_229 wm_230 wm_231 wm_81 wm_232) rfl rfl rfl (by decide +kernel) ⟨Nat.le_of_ble_eq_true rfl, Nat.le_of_ble_eq_true rfl⟩) (g_preV (q := (RX6, TX6, 15)) (ci := 6) (q0 := 0) hE hPc hDc rfl rfl) rfl rfl hl.1 rfl (lv_room (Nat.le_of_ble_eq_true rfl)) dX10_playTo_5 ⟨Nat.le_of_ble_eq_true rfl, Nat.le_of_ble_eq_true rfl⟩) (fun r1 u2 H locs p3 hP hD hS => ?_)
  have hP : va_P D vwCl [(aW, .inr (10, [.int 0, .ref (qW 1), .ref (qW 2), .ref (qW 3), .ref (qW 4), .ref (qW 5)])), ((qW 2), .inr (6, [.int 0, .ref (qP 1), .ref (qP 2), .ref (qP 3), .ref (qP 4), .ref (qP 5), .ref (qP 6), .ref (qP 7), .ref (qP 8), .ref (qP 9), .ref (qP 10), .ref (qP 11), .ref (qP 12), .ref (qP 13), .ref (qP 14)]))] H := hP
  have hD : va_D A [(aW, .inr (10, [.int 0, .ref (qW 1), .ref (qW 2), .ref (qW 3), .ref (qW 4), .ref (qW 5)])), ((qW 2), .inr (6, [.int 0, .ref (qP 1), .ref (qP 2), .ref (qP 3), .ref (qP 4), .ref (qP 5), .ref (qP 6), .ref (qP 7), .ref (qP 8), .ref (qP 9), .ref (qP 10), .ref (qP 11), .ref (qP 12), .ref (qP 13), .ref (qP 14)]))] := hD
  obtain rfl := p3
  refine lv_if_eq (tgt := 26) hx hb dX10_playTo_8 (by decide) (fun _ => ?_) (fun c9 => absurd c9 (by decide +kernel))
  refine lv_iconst (v := (-1)) hx hb dX10_playTo_26 (by decide +kernel) ?_
  exact g_iret () hF hr rfl hlocks (hP.sub [] rfl) (hD.sub [] rfl rfl) hS rfl dX10_playTo_27 (Nat.le_of_ble_eq_true rfl) (Nat.le_of_ble_eq_true rfl)
set_option maxHeartbeats 8000000 in
set_option maxRecDepth 100000 in
theorem c_X10_schoolsFact {l : Launch} {D : va_G} {cI cB cS cZ cW : ClassId} {aW : Nat} {y0 : Int32} {y1 : Int32} {qW : Nat → Nat} {qT : Nat → Nat} (hy0 : 0 ≤ y0.toInt ∧ y0.toInt ≤ 10000) {sz : Nat} : MI l D (gT cI cB cS cZ cW) yX10_schoolsFact (wG yX10_schoolsFact cX10_schoolsFact 11 (some .int)) { frames := 0, cells := 1, slots := 6, locals := 0 } [.ref aW, .int y0, .int y1] [(aW, .inr (10, [.int 0, .ref (qW 1), .ref (qW 2), .ref (qW 3), .ref (qW 4), .ref (qW 5)])), ((qW 1), .inr (9, [.int 0, .ref (qT 1), .ref (qT 2), .ref (qT 3), .ref (qT 4), .ref (qT 5), .ref (qT 6), .ref (qT 7), .ref (qT 8)]))] sz (fun (r : Int32) (u : Unit) => r = 0) (fun (u : Unit) => [] : (Unit) → va_W) 1 6 := by
  refine g_enter (y := yX10_schoolsFact) (w := (wG yX10_schoolsFact cX10_schoolsFact 11 (some .int))) (As := [.ref aW, .int y0, .int y1]) (D := D) (T := gT cI cB cS cZ cW) (ws := [(aW, .inr (10, [.int 0, .ref (qW 1), .ref (qW 2), .ref (qW 3), .ref (qW 4), .ref (qW 5)])), ((qW 1), .inr (9, [.int 0, .ref (qT 1), .ref (qT 2), .ref (qT 3), .ref (qT 4), .ref (qT 5), .ref (qT 6), .ref (qT 7), .ref (qT 8)]))]) (gQi D (fun (r : Int32) (u : Unit) => r = 0) (fun (u : Unit) => [] : (Unit) → va_W)) (cc := cX10_schoolsFact) (maxL := 11) (ret := (some .int)) (by decide) rfl (Nat.le_of_ble_eq_true rfl) ?_
  intro p e s m below meth c A ls hF hr hlocks hname hsz hE hA hP hD hS hl
  have hF : CallFix p m c cX10_schoolsFact 11 s ([.ref aW, .int y0, .int y1] : List Value).toArray (wG yX10_schoolsFact cX10_schoolsFact 11 (some .int)) RX10 := hF
  obtain ⟨hx, hb, hml, hown, hts⟩ := id hF
  have htg : ∀ w ∈ GL, w.before ([.ref aW, .int y0, .int y1] : List Value).toArray s = true := fun w h => hts w (List.mem_cons_of_mem _ h)
  have hl : lv_has ls 11 [(0, .ref aW), (1, .int y0), (2, .int y1)] := hl
  have z0 := t_0
  have z1 := t_1
  have z6 := t_6
  refine lv_bipush (v := 6) hx hb dX10_schoolsFact_0 (by decide +kernel) ?_
  refine g_newa (T := gT cI cB cS cZ cW) (cA := cI) (t0 := 0) (atype := .int) (ty := .int) (a0 := (6, .inl (fun _ => 0))) hx hb rfl (fun _ h => by cases h) (htg _ wm_4) rfl hE hP hD hS hA (fun _ => rfl) (by decide +kernel) (by decide +kernel) (by decide +kernel) (Nat.le_of_ble_eq_true rfl) (Nat.le_of_ble_eq_true rfl) dX10_schoolsFact_2 (fun q1 H hP hD hS => ?_)
  have hP : va_P D vwCl [(aW, .inr (10, [.int 0, .ref (qW 1), .ref (qW 2), .ref (qW 3), .ref (qW 4), .ref (qW 5)])), ((qW 1), .inr (9, [.int 0, .ref (qT 1), .ref (qT 2), .ref (qT 3), .ref (qT 4), .ref (qT 5), .ref (qT 6), .ref (qT 7), .ref (qT 8)])), (q1, .inl (cI, 6, .inl (fun _ => 0)))] H := hP
  have hD : va_D A [(aW, .inr (10, [.int 0, .ref (qW 1), .ref (qW 2), .ref (qW 3), .ref (qW 4), .ref (qW 5)])), ((qW 1), .inr (9, [.int 0, .ref (qT 1), .ref (qT 2), .ref (qT 3), .ref (qT 4), .ref (qT 5), .ref (qT 6), .ref (qT 7), .ref (qT 8)])), (q1, .inl (cI, 6, .inl (fun _ => 0)))] := hD
  refine W.widen (k := 1) (n := 6) (Nat.le_of_ble_eq_true rfl) (Nat.le_of_ble_eq_true rfl) ?_
  refine lv_astore_n (lv' := [(3, .ref q1), (0, .ref aW), (1, .int y0), (2, .int y1)]) hx hb dX10_schoolsFact_4 rfl hl (by decide) rfl (fun ls hl => ?_)
  refine lv_iconst (v := 0) hx hb dX10_schoolsFact_5 (by decide +kernel) ?_
  refine lv_istore (lv' := [(4, .int 0), (3, .ref q1), (0, .ref aW), (1, .int y0), (2, .int y1)]) hx hb dX10_schoolsFact_6 hl (by decide) rfl (fun ls hl => ?_)
  refine lv_iload hx hb dX10_schoolsFact_8 (lv_at hl 0 rfl) ?_
  refine lv_aload_n hx hb dX10_schoolsFact_10 rfl (lv_at hl 2 rfl) ?_
  refine va_get (D := D) (ci := 10) (v := .ref (qW 1)) (C := RX10) (T := TX10) (N := 6) hx hb htg iwG_10 hown hE.1 hP 0 rfl rfl 1 (by decide) (htg _ wm_78) (fun _ h9 => h9) rfl dX10_schoolsFact_11 ?_
  refine va_get (D := D) (ci := 9) (v := .int 0) (C := RX9) (T := TX9) (N := 9) hx hb htg iwG_9 hown hE.1 hP 1 rfl rfl 0 (by decide) (htg _ wm_237) (fun _ h9 => h9) rfl dX10_schoolsFact_14 ?_
  refine lv_icmp_ge (tgt := 40) hx hb dX10_schoolsFact_17 (by decide) (fun _ => ?_) (fun c9 => absurd c9 (by decide +kernel))
  refine lv_iconst (v := 0) hx hb dX10_schoolsFact_40 (by decide +kernel) ?_
  refine lv_istore (lv' := [(4, .int 0), (3, .ref q1), (0, .ref aW), (1, .int y0), (2, .int y1)]) hx hb dX10_schoolsFact_41 hl (by decide) rfl (fun ls hl => ?_)
  refine lv_iconst (v := 0) hx hb dX10_schoolsFact_43 (by decide +kernel) ?_
  refine lv_istore (lv' := [(5, .int 0), (4, .int 0), (3, .ref q1), (0, .ref aW), (1, .int y0), (2, .int y1)]) hx hb dX10_schoolsFact_44 hl (by decide) rfl (fun ls hl => ?_)
  refine lv_iconst (v := 0) hx hb dX10_schoolsFact_46 (by decide +kernel) ?_
  refine lv_istore (lv' := [(6, .int 0), (5, .int 0), (4, .int 0), (3, .ref q1), (0, .ref aW), (1, .int y0), (2, .int y1)]) hx hb dX10_schoolsFact_47 hl (by decide) rfl (fun ls hl => ?_)
  refine lv_iconst (v := 0) hx hb dX10_schoolsFact_49 (by decide +kernel) ?_
  refine lv_istore (lv' := [(7, .int 0), (6, .int 0), (5, .int 0), (4, .int 0), (3, .ref q1), (0, .ref aW), (1, .int y0), (2, .int y1)]) hx hb dX10_schoolsFact_50 hl (by decide) rfl (fun ls hl => ?_)
  refine lv_iload hx hb dX10_schoolsFact_52 (lv_at hl 0 rfl) ?_
  refine lv_iconst (v := 1) hx hb dX10_schoolsFact_54 (by decide +kernel) ?_
  refine lv_aload_n hx hb dX10_schoolsFact_55 rfl (lv_at hl 5 rfl) ?_
  refine va_get (D := D) (ci := 10) (v := .ref (qW 1)) (C := RX10) (T := TX10) (N := 6) hx hb htg iwG_10 hown hE.1 hP 0 rfl rfl 1 (by decide) (htg _ wm_78) (fun _ h9 => h9) rfl dX10_schoolsFact_56 ?_
  refine va_get (D := D) (ci := 9) (v := .int 0) (C := RX9) (T := TX9) (N := 9) hx hb htg iwG_9 hown hE.1 hP 1 rfl rfl 0 (by decide) (htg _ wm_237) (fun _ h9 => h9) rfl dX10_schoolsFact_59 ?_
  refine lv_ishl hx hb dX10_schoolsFact_62 ?_
  refine g_top 1 (by decide +kernel) ?_
  refine lv_icmp_ge (tgt := 184) hx hb dX10_schoolsFact_63 (by decide) (fun c9 => absurd c9 (by decide +kernel)) (fun _ => ?_)
  refine lv_iconst (v := 0) hx hb dX10_schoolsFact_66 (by decide +kernel) ?_
  refine lv_istore (lv' := [(8, .int 0), (7, .int 0), (6, .int 0), (5, .int 0), (4, .int 0), (3, .ref q1), (0, .ref aW), (1, .int y0), (2, .int y1)]) hx hb dX10_schoolsFact_67 hl (by decide) rfl (fun ls hl => ?_)
  refine lv_iconst (v := 0) hx hb dX10_schoolsFact_69 (by decide +kernel) ?_
  refine lv_istore (lv' := [(9, .int 0), (8, .int 0), (7, .int 0), (6, .int 0), (5, .int 0), (4, .int 0), (3, .ref q1), (0, .ref aW), (1, .int y0), (2, .int y1)]) hx hb dX10_schoolsFact_70 hl (by decide) rfl (fun ls hl => ?_)
  refine lv_iconst (v := 0) hx hb dX10_schoolsFact_72 (by decide +kernel) ?_
  refine lv_istore (lv' := [(10, .int 0), (9, .int 0), (8, .int 0), (7, .int 0), (6, .int 0), (5, .int 0), (4, .int 0), (3, .ref q1), (0, .ref aW), (1, .int y0), (2, .int y1)]) hx hb dX10_schoolsFact_73 hl (by decide) rfl (fun ls hl => ?_)
  refine lv_iload hx hb dX10_schoolsFact_75 (lv_at hl 0 rfl) ?_
  refine lv_aload_n hx hb dX10_schoolsFact_77 rfl (lv_at hl 8 rfl) ?_
  refine va_get (D := D) (ci := 10) (v := .ref (qW 1)) (C := RX10) (T := TX10) (N := 6) hx hb htg iwG_10 hown hE.1 hP 0 rfl rfl 1 (by decide) (htg _ wm_78) (fun _ h9 => h9) rfl dX10_schoolsFact_78 ?_
  refine va_get (D := D) (ci := 9) (v := .int 0) (C := RX9) (T := TX9) (N := 9) hx hb htg iwG_9 hown hE.1 hP 1 rfl rfl 0 (by decide) (htg _ wm_237) (fun _ h9 => h9) rfl dX10_schoolsFact_81 ?_
  refine lv_icmp_ge (tgt := 127) hx hb dX10_schoolsFact_84 (by decide) (fun _ => ?_) (fun c9 => absurd c9 (by decide +kernel))
  refine lv_iload hx hb dX10_schoolsFact_127 (lv_at hl 2 rfl) ?_
  refine lv_iload hx hb dX10_schoolsFact_129 (lv_at hl 6 rfl) ?_
  refine lv_icmp_gt (tgt := 148) hx hb dX10_schoolsFact_131 (by decide) (fun c9 => absurd c9 (by decide +kernel)) (fun _ => ?_)
  refine lv_iload hx hb dX10_schoolsFact_134 (lv_at hl 2 rfl) ?_
  refine lv_iload hx hb dX10_schoolsFact_136 (lv_at hl 6 rfl) ?_
  refine lv_icmp_ne (tgt := 152) hx hb dX10_schoolsFact_138 (by decide) (fun c9 => absurd c9 (by decide +kernel)) (fun _ => ?_)
  refine lv_iload hx hb dX10_schoolsFact_141 (lv_at hl 1 rfl) ?_
  refine lv_iload hx hb dX10_schoolsFact_143 (lv_at hl 5 rfl) ?_
  refine lv_icmp_ge (tgt := 152) hx hb dX10_schoolsFact_145 (by decide) (fun _ => ?_) (fun c9 => absurd c9 (by decide +kernel))
  refine lv_iconst (v := 0) hx hb dX10_schoolsFact_152 (by decide +kernel) ?_
  refine lv_istore (lv' := [(10, .int 0), (9, .int 0), (8, .int 0), (7, .int 0), (6, .int 0), (5, .int 0), (4, .int 0), (3, .ref q1), (0, .ref aW), (1, .int y0), (2, .int y1)]) hx hb dX10_schoolsFact_153 hl (by decide) rfl (fun ls hl => ?_)
  refine lv_iload hx hb dX10_schoolsFact_155 (lv_at hl 1 rfl) ?_
  refine lv_iload_n hx hb dX10_schoolsFact_157 rfl (lv_at hl 9 rfl) ?_
  refine lv_icmp_gt (tgt := 178) hx hb dX10_schoolsFact_158 (by decide) (fun c9 => absurd (i_lt.mp c9) (by omega)) (fun _ => ?_)
  refine lv_iload hx hb dX10_schoolsFact_161 (lv_at hl 0 rfl) ?_
  refine lv_if_eq (tgt := 178) hx hb dX10_schoolsFact_163 (by decide) (fun _ => ?_) (fun c9 => absurd c9 (by decide +kernel))
  refine lv_iinc (v := 1) (lv' := [(7, .int 1), (10, .int 0), (9, .int 0), (8, .int 0), (6, .int 0), (5, .int 0), (4, .int 0), (3, .ref q1), (0, .ref aW), (1, .int y0), (2, .int y1)]) hx hb dX10_schoolsFact_178 hl (k := 3) rfl (by decide +kernel) (by decide) rfl (fun ls hl => ?_)
  refine lv_goto (tgt := 52) hx hb dX10_schoolsFact_181 (by decide) ?_
  refine lv_iload hx hb dX10_schoolsFact_52 (lv_at hl 0 rfl) ?_
  refine lv_iconst (v := 1) hx hb dX10_schoolsFact_54 (by decide +kernel) ?_
  refine lv_aload_n hx hb dX10_schoolsFact_55 rfl (lv_at hl 8 rfl) ?_
  refine va_get (D := D) (ci := 10) (v := .ref (qW 1)) (C := RX10) (T := TX10) (N := 6) hx hb htg iwG_10 hown hE.1 hP 0 rfl rfl 1 (by decide) (htg _ wm_78) (fun _ h9 => h9) rfl dX10_schoolsFact_56 ?_
  refine va_get (D := D) (ci := 9) (v := .int 0) (C := RX9) (T := TX9) (N := 9) hx hb htg iwG_9 hown hE.1 hP 1 rfl rfl 0 (by decide) (htg _ wm_237) (fun _ h9 => h9) rfl dX10_schoolsFact_59 ?_
  refine lv_ishl hx hb dX10_schoolsFact_62 ?_
  refine g_top 1 (by decide +kernel) ?_
  refine lv_icmp_ge (tgt := 184) hx hb dX10_schoolsFact_63 (by decide) (fun _ => ?_) (fun c9 => absurd c9 (by decide +kernel))
  refine lv_iload_n hx hb dX10_schoolsFact_184 rfl (lv_at hl 10 rfl) ?_
  refine lv_if_ne (tgt := 193) hx hb dX10_schoolsFact_185 (by decide) (fun c2 => ?_) (fun c2 => ?_)
  · rw [i_eq] at c2
    refine lv_iload_n hx hb dX10_schoolsFact_193 rfl (lv_at hl 10 rfl) ?_
    refine lv_iconst (v := 1) hx hb dX10_schoolsFact_194 (by decide +kernel) ?_
    refine lv_icmp_ne (tgt := 203) hx hb dX10_schoolsFact_195 (by decide) (fun c3 => ?_) (fun c3 => ?_)
    · rw [i_eq] at c3
      refine lv_iload hx hb dX10_schoolsFact_203 (lv_at hl 4 rfl) ?_
      exact g_iret () hF hr rfl hlocks (hP.sub [] rfl) (hD.sub [] rfl rfl) hS rfl dX10_schoolsFact_205 (Nat.le_of_ble_eq_true rfl) (Nat.le_of_ble_eq_true rfl)
    · rw [i_eq] at c3
      refine lv_iload hx hb dX10_schoolsFact_198 (lv_at hl 5 rfl) ?_
      refine lv_goto (tgt := 205) hx hb dX10_schoolsFact_200 (by decide) ?_
      exact g_iret () hF hr rfl hlocks (hP.sub [] rfl) (hD.sub [] rfl rfl) hS rfl dX10_schoolsFact_205 (Nat.le_of_ble_eq_true rfl) (Nat.le_of_ble_eq_true rfl)
  · rw [i_eq] at c2
    refine lv_iload hx hb dX10_schoolsFact_188 (lv_at hl 6 rfl) ?_
    refine lv_goto (tgt := 205) hx hb dX10_schoolsFact_190 (by decide) ?_
    exact g_iret () hF hr rfl hlocks (hP.sub [] rfl) (hD.sub [] rfl rfl) hS rfl dX10_schoolsFact_205 (Nat.le_of_ble_eq_true rfl) (Nat.le_of_ble_eq_true rfl)
set_option maxHeartbeats 8000000 in
set_option maxRecDepth 100000 in
theorem c_X10_printBy {l : Launch} {D : va_G} {cI cB cS cZ cW : ClassId} {aW : Nat} {y0 : Int32} {y1 : Int32} {y2 : Int32} {qW : Nat → Nat} {qT : Nat → Nat} {qP : Nat → Nat} {qA : Nat → Nat}  {sz : Nat} : MI l D (gT cI cB cS cZ cW) yX10_printBy (wG yX10_printBy cX10_printBy 7 (some .int)) { frames := 2, cells := 0, slots := 0, locals := 43 } [.ref aW, .int y0, .int y1, .int y2] [(aW, .inr (10, [.int 0, .ref (qW 1), .ref (qW 2), .ref (qW 3), .ref (qW 4), .ref (qW 5)])), ((qW 1), .inr (9, [.int 0, .ref (qT 1), .ref (qT 2), .ref (qT 3), .ref (qT 4), .ref (qT 5), .ref (qT 6), .ref (qT 7), .ref (qT 8)])), ((qW 2), .inr (6, [.int 0, .ref (qP 1), .ref (qP 2), .ref (qP 3), .ref (qP 4), .ref (qP 5), .ref (qP 6), .ref (qP 7), .ref (qP 8), .ref (qP 9), .ref (qP 10), .ref (qP 11), .ref (qP 12), .ref (qP 13), .ref (qP 14)])), ((qW 4), .inr (0, [.ref (qA 0), .int 0, .ref (qA 2), .ref (qA 3), .int 0, .ref (qA 5), .ref (qA 6), .ref (qA 7), .ref (qA 8), .ref (qA 9), .ref (qA 10), .ref (qA 11), .ref (qA 12), .ref (qA 13)]))] sz (fun (r : Int32) (u : Unit) => r = (-1)) (fun (u : Unit) => [] : (Unit) → va_W) 0 0 := by
  refine g_enter (y := yX10_printBy) (w := (wG yX10_printBy cX10_printBy 7 (some .int))) (As := [.ref aW, .int y0, .int y1, .int y2]) (D := D) (T := gT cI cB cS cZ cW) (ws := [(aW, .inr (10, [.int 0, .ref (qW 1), .ref (qW 2), .ref (qW 3), .ref (qW 4), .ref (qW 5)])), ((qW 1), .inr (9, [.int 0, .ref (qT 1), .ref (qT 2), .ref (qT 3), .ref (qT 4), .ref (qT 5), .ref (qT 6), .ref (qT 7), .ref (qT 8)])), ((qW 2), .inr (6, [.int 0, .ref (qP 1), .ref (qP 2), .ref (qP 3), .ref (qP 4), .ref (qP 5), .ref (qP 6), .ref (qP 7), .ref (qP 8), .ref (qP 9), .ref (qP 10), .ref (qP 11), .ref (qP 12), .ref (qP 13), .ref (qP 14)])), ((qW 4), .inr (0, [.ref (qA 0), .int 0, .ref (qA 2), .ref (qA 3), .int 0, .ref (qA 5), .ref (qA 6), .ref (qA 7), .ref (qA 8), .ref (qA 9), .ref (qA 10), .ref (qA 11), .ref (qA 12), .ref (qA 13)]))]) (gQi D (fun (r : Int32) (u : Unit) => r = (-1)) (fun (u : Unit) => [] : (Unit) → va_W)) (cc := cX10_printBy) (maxL := 7) (ret := (some .int)) (by decide) rfl (Nat.le_of_ble_eq_true rfl) ?_
  intro p e s m below meth c A ls hF hr hlocks hname hsz hE hA hP hD hS hl
  have hF : CallFix p m c cX10_printBy 7 s ([.ref aW, .int y0, .int y1, .int y2] : List Value).toArray (wG yX10_printBy cX10_printBy 7 (some .int)) RX10 := hF
  obtain ⟨hx, hb, hml, hown, hts⟩ := id hF
  have htg : ∀ w ∈ GL, w.before ([.ref aW, .int y0, .int y1, .int y2] : List Value).toArray s = true := fun w h => hts w (List.mem_cons_of_mem _ h)
  have hl : lv_has ls 7 [(0, .ref aW), (1, .int y0), (2, .int y1), (3, .int y2)] := hl
  have zm1 := tm_1
  have z0 := t_0
  refine lv_aload_n hx hb dX10_printBy_0 rfl (lv_at hl 0 rfl) ?_
  refine va_get (D := D) (ci := 10) (v := .ref (qW 1)) (C := RX10) (T := TX10) (N := 6) hx hb htg iwG_10 hown hE.1 hP 0 rfl rfl 1 (by decide) (htg _ wm_78) (fun _ h9 => h9) rfl dX10_printBy_1 ?_
  refine lv_iload_n hx hb dX10_printBy_4 rfl (lv_at hl 2 rfl) ?_
  refine lv_iload_n hx hb dX10_printBy_5 rfl (lv_at hl 3 rfl) ?_
  refine g_ai (D := D) (wc := [((qW 1), .inr (9, [.int 0, .ref (qT 1), .ref (qT 2), .ref (qT 3), .ref (qT 4), .ref (qT 5), .ref (qT 6), .ref (qT 7), .ref (qT 8)]))]) (wr := [(aW, .inr (10, [.int 0, .ref (qW 1), .ref (qW 2), .ref (qW 3), .ref (qW 4), .ref (qW 5)])), ((qW 2), .inr (6, [.int 0, .ref (qP 1), .ref (qP 2), .ref (qP 3), .ref (qP 4), .ref (qP 5), .ref (qP 6), .ref (qP 7), .ref (qP 8), .ref (qP 9), .ref (qP 10), .ref (qP 11), .ref (qP 12), .ref (qP 13), .ref (qP 14)])), ((qW 4), .inr (0, [.ref (qA 0), .int 0, .ref (qA 2), .ref (qA 3), .int 0, .ref (qA 5), .ref (qA 6), .ref (qA 7), .ref (qA 8), .ref (qA 9), .ref (qA 10), .ref (qA 11), .ref (qA 12), .ref (qA 13)]))]) hP hD hS hA [1] [0, 2, 3] rfl rfl rfl rfl (by decide) (fun hPc hDc => va_runV (As := [.int y1, .int y2]) (rest := []) hF (c_X9_wordOf (l := l) (D := D) (cI := cI) (cB := cB) (cS := cS) (cZ := cZ) (cW := cW) (aT := (qW 1)) (y0 := y1) (y1 := y2) (qT := qT)) (cwV 2 hts (gGV (fun _ h => List.mem_cons_of_mem _ h) wm_238 wm_135 wm_136 wm_75 wm_137) rfl rfl rfl (by decide +kernel) ⟨Nat.le_of_ble_eq_true rfl, Nat.le_of_ble_eq_true rfl⟩) (g_preV (q := (RX9, TX9, 9)) (ci := 9) (q0 := 0) hE hPc hDc rfl rfl) rfl rfl hl.1 rfl (lv_room (Nat.le_of_ble_eq_true rfl)) dX10_printBy_6 ⟨Nat.le_of_ble_eq_true rfl, Nat.le_of_ble_eq_true rfl⟩) (fun r1 u2 H locs p3 hP hD hS => ?_)
  have hP : va_P D vwCl [(aW, .inr (10, [.int 0, .ref (qW 1), .ref (qW 2), .ref (qW 3), .ref (qW 4), .ref (qW 5)])), ((qW 2), .inr (6, [.int 0, .ref (qP 1), .ref (qP 2), .ref (qP 3), .ref (qP 4), .ref (qP 5), .ref (qP 6), .ref (qP 7), .ref (qP 8), .ref (qP 9), .ref (qP 10), .ref (qP 11), .ref (qP 12), .ref (qP 13), .ref (qP 14)])), ((qW 4), .inr (0, [.ref (qA 0), .int 0, .ref (qA 2), .ref (qA 3), .int 0, .ref (qA 5), .ref (qA 6), .ref (qA 7), .ref (qA 8), .ref (qA 9), .ref (qA 10), .ref (qA 11), .ref (qA 12), .ref (qA 13)])), ((qW 1), .inr (9, [.int 0, .ref (qT 1), .ref (qT 2), .ref (qT 3), .ref (qT 4), .ref (qT 5), .ref (qT 6), .ref (qT 7), .ref (qT 8)]))] H := hP
  have hD : va_D A [(aW, .inr (10, [.int 0, .ref (qW 1), .ref (qW 2), .ref (qW 3), .ref (qW 4), .ref (qW 5)])), ((qW 2), .inr (6, [.int 0, .ref (qP 1), .ref (qP 2), .ref (qP 3), .ref (qP 4), .ref (qP 5), .ref (qP 6), .ref (qP 7), .ref (qP 8), .ref (qP 9), .ref (qP 10), .ref (qP 11), .ref (qP 12), .ref (qP 13), .ref (qP 14)])), ((qW 4), .inr (0, [.ref (qA 0), .int 0, .ref (qA 2), .ref (qA 3), .int 0, .ref (qA 5), .ref (qA 6), .ref (qA 7), .ref (qA 8), .ref (qA 9), .ref (qA 10), .ref (qA 11), .ref (qA 12), .ref (qA 13)])), ((qW 1), .inr (9, [.int 0, .ref (qT 1), .ref (qT 2), .ref (qT 3), .ref (qT 4), .ref (qT 5), .ref (qT 6), .ref (qT 7), .ref (qT 8)]))] := hD
  obtain rfl := p3
  refine lv_istore (lv' := [(4, .int 0), (0, .ref aW), (1, .int y0), (2, .int y1), (3, .int y2)]) hx hb dX10_printBy_9 hl (by decide) rfl (fun ls hl => ?_)
  refine lv_aload_n hx hb dX10_printBy_11 rfl (lv_at hl 1 rfl) ?_
  refine va_get (D := D) (ci := 10) (v := .ref (qW 4)) (C := RX10) (T := TX10) (N := 6) hx hb htg iwG_10 hown hE.1 hP 0 rfl rfl 4 (by decide) (htg _ wm_98) (fun _ h9 => h9) rfl dX10_printBy_12 ?_
  refine lv_iload_n hx hb dX10_printBy_15 rfl (lv_at hl 3 rfl) ?_
  refine lv_iload_n hx hb dX10_printBy_16 rfl (lv_at hl 4 rfl) ?_
  refine g_ai (D := D) (wc := [((qW 4), .inr (0, [.ref (qA 0), .int 0, .ref (qA 2), .ref (qA 3), .int 0, .ref (qA 5), .ref (qA 6), .ref (qA 7), .ref (qA 8), .ref (qA 9), .ref (qA 10), .ref (qA 11), .ref (qA 12), .ref (qA 13)]))]) (wr := [(aW, .inr (10, [.int 0, .ref (qW 1), .ref (qW 2), .ref (qW 3), .ref (qW 4), .ref (qW 5)])), ((qW 2), .inr (6, [.int 0, .ref (qP 1), .ref (qP 2), .ref (qP 3), .ref (qP 4), .ref (qP 5), .ref (qP 6), .ref (qP 7), .ref (qP 8), .ref (qP 9), .ref (qP 10), .ref (qP 11), .ref (qP 12), .ref (qP 13), .ref (qP 14)])), ((qW 1), .inr (9, [.int 0, .ref (qT 1), .ref (qT 2), .ref (qT 3), .ref (qT 4), .ref (qT 5), .ref (qT 6), .ref (qT 7), .ref (qT 8)]))]) hP hD hS hA [2] [0, 1, 3] rfl rfl rfl rfl (by decide) (fun hPc hDc => va_runV (As := [.int y1, .int y2]) (rest := []) hF (c_X0_latestOf (l := l) (D := D) (cI := cI) (cB := cB) (cS := cS) (cZ := cZ) (cW := cW) (aA := (qW 4)) (y0 := y1) (y1 := y2) (qA := qA)) (cwV 2 hts (gGV (fun _ h => List.mem_cons_of_mem _ h) wm_239 wm_240 wm_241 wm_94 wm_242) rfl rfl rfl (by decide +kernel) ⟨Nat.le_of_ble_eq_true rfl, Nat.le_of_ble_eq_true rfl⟩) (g_preV (q := (RX0, TX0, 14)) (ci := 0) (q0 := 0) hE hPc hDc rfl rfl) rfl rfl hl.1 rfl (lv_room (Nat.le_of_ble_eq_true rfl)) dX10_printBy_17 ⟨Nat.le_of_ble_eq_true rfl, Nat.le_of_ble_eq_true rfl⟩) (fun r4 u5 H locs p6 hP hD hS => ?_)
  have hP : va_P D vwCl [(aW, .inr (10, [.int 0, .ref (qW 1), .ref (qW 2), .ref (qW 3), .ref (qW 4), .ref (qW 5)])), ((qW 2), .inr (6, [.int 0, .ref (qP 1), .ref (qP 2), .ref (qP 3), .ref (qP 4), .ref (qP 5), .ref (qP 6), .ref (qP 7), .ref (qP 8), .ref (qP 9), .ref (qP 10), .ref (qP 11), .ref (qP 12), .ref (qP 13), .ref (qP 14)])), ((qW 1), .inr (9, [.int 0, .ref (qT 1), .ref (qT 2), .ref (qT 3), .ref (qT 4), .ref (qT 5), .ref (qT 6), .ref (qT 7), .ref (qT 8)])), ((qW 4), .inr (0, [.ref (qA 0), .int 0, .ref (qA 2), .ref (qA 3), .int 0, .ref (qA 5), .ref (qA 6), .ref (qA 7), .ref (qA 8), .ref (qA 9), .ref (qA 10), .ref (qA 11), .ref (qA 12), .ref (qA 13)]))] H := hP
  have hD : va_D A [(aW, .inr (10, [.int 0, .ref (qW 1), .ref (qW 2), .ref (qW 3), .ref (qW 4), .ref (qW 5)])), ((qW 2), .inr (6, [.int 0, .ref (qP 1), .ref (qP 2), .ref (qP 3), .ref (qP 4), .ref (qP 5), .ref (qP 6), .ref (qP 7), .ref (qP 8), .ref (qP 9), .ref (qP 10), .ref (qP 11), .ref (qP 12), .ref (qP 13), .ref (qP 14)])), ((qW 1), .inr (9, [.int 0, .ref (qT 1), .ref (qT 2), .ref (qT 3), .ref (qT 4), .ref (qT 5), .ref (qT 6), .ref (qT 7), .ref (qT 8)])), ((qW 4), .inr (0, [.ref (qA 0), .int 0, .ref (qA 2), .ref (qA 3), .int 0, .ref (qA 5), .ref (qA 6), .ref (qA 7), .ref (qA 8), .ref (qA 9), .ref (qA 10), .ref (qA 11), .ref (qA 12), .ref (qA 13)]))] := hD
  obtain rfl := p6
  refine lv_istore (lv' := [(5, .int (-1)), (4, .int 0), (0, .ref aW), (1, .int y0), (2, .int y1), (3, .int y2)]) hx hb dX10_printBy_20 hl (by decide) rfl (fun ls hl => ?_)
  refine lv_aload_n hx hb dX10_printBy_22 rfl (lv_at hl 2 rfl) ?_
  refine va_get (D := D) (ci := 10) (v := .ref (qW 2)) (C := RX10) (T := TX10) (N := 6) hx hb htg iwG_10 hown hE.1 hP 0 rfl rfl 2 (by decide) (htg _ wm_85) (fun _ h9 => h9) rfl dX10_printBy_23 ?_
  refine lv_iload_n hx hb dX10_printBy_26 rfl (lv_at hl 3 rfl) ?_
  refine g_ai (D := D) (wc := [((qW 2), .inr (6, [.int 0, .ref (qP 1), .ref (qP 2), .ref (qP 3), .ref (qP 4), .ref (qP 5), .ref (qP 6), .ref (qP 7), .ref (qP 8), .ref (qP 9), .ref (qP 10), .ref (qP 11), .ref (qP 12), .ref (qP 13), .ref (qP 14)]))]) (wr := [(aW, .inr (10, [.int 0, .ref (qW 1), .ref (qW 2), .ref (qW 3), .ref (qW 4), .ref (qW 5)])), ((qW 1), .inr (9, [.int 0, .ref (qT 1), .ref (qT 2), .ref (qT 3), .ref (qT 4), .ref (qT 5), .ref (qT 6), .ref (qT 7), .ref (qT 8)])), ((qW 4), .inr (0, [.ref (qA 0), .int 0, .ref (qA 2), .ref (qA 3), .int 0, .ref (qA 5), .ref (qA 6), .ref (qA 7), .ref (qA 8), .ref (qA 9), .ref (qA 10), .ref (qA 11), .ref (qA 12), .ref (qA 13)]))]) hP hD hS hA [1] [0, 2, 3] rfl rfl rfl rfl (by decide) (fun hPc hDc => va_runV (As := [.int y0]) (rest := []) hF (c_X6_has (l := l) (D := D) (cI := cI) (cB := cB) (cS := cS) (cZ := cZ) (cW := cW) (aP := (qW 2)) (y0 := y0) (qP := qP)) (cwV 1 hts (gGV (fun _ h => List.mem_cons_of_mem _ h) wm_228 wm_154 wm_155 wm_81 wm_156) rfl rfl rfl (by decide +kernel) ⟨Nat.le_of_ble_eq_true rfl, Nat.le_of_ble_eq_true rfl⟩) (g_preV (q := (RX6, TX6, 15)) (ci := 6) (q0 := 0) hE hPc hDc rfl rfl) rfl rfl hl.1 rfl (lv_room (Nat.le_of_ble_eq_true rfl)) dX10_printBy_27 ⟨Nat.le_of_ble_eq_true rfl, Nat.le_of_ble_eq_true rfl⟩) (fun r7 u8 H locs p9 hP hD hS => ?_)
  have hP : va_P D vwCl [(aW, .inr (10, [.int 0, .ref (qW 1), .ref (qW 2), .ref (qW 3), .ref (qW 4), .ref (qW 5)])), ((qW 1), .inr (9, [.int 0, .ref (qT 1), .ref (qT 2), .ref (qT 3), .ref (qT 4), .ref (qT 5), .ref (qT 6), .ref (qT 7), .ref (qT 8)])), ((qW 4), .inr (0, [.ref (qA 0), .int 0, .ref (qA 2), .ref (qA 3), .int 0, .ref (qA 5), .ref (qA 6), .ref (qA 7), .ref (qA 8), .ref (qA 9), .ref (qA 10), .ref (qA 11), .ref (qA 12), .ref (qA 13)])), ((qW 2), .inr (6, [.int 0, .ref (qP 1), .ref (qP 2), .ref (qP 3), .ref (qP 4), .ref (qP 5), .ref (qP 6), .ref (qP 7), .ref (qP 8), .ref (qP 9), .ref (qP 10), .ref (qP 11), .ref (qP 12), .ref (qP 13), .ref (qP 14)]))] H := hP
  have hD : va_D A [(aW, .inr (10, [.int 0, .ref (qW 1), .ref (qW 2), .ref (qW 3), .ref (qW 4), .ref (qW 5)])), ((qW 1), .inr (9, [.int 0, .ref (qT 1), .ref (qT 2), .ref (qT 3), .ref (qT 4), .ref (qT 5), .ref (qT 6), .ref (qT 7), .ref (qT 8)])), ((qW 4), .inr (0, [.ref (qA 0), .int 0, .ref (qA 2), .ref (qA 3), .int 0, .ref (qA 5), .ref (qA 6), .ref (qA 7), .ref (qA 8), .ref (qA 9), .ref (qA 10), .ref (qA 11), .ref (qA 12), .ref (qA 13)])), ((qW 2), .inr (6, [.int 0, .ref (qP 1), .ref (qP 2), .ref (qP 3), .ref (qP 4), .ref (qP 5), .ref (qP 6), .ref (qP 7), .ref (qP 8), .ref (qP 9), .ref (qP 10), .ref (qP 11), .ref (qP 12), .ref (qP 13), .ref (qP 14)]))] := hD
  obtain rfl := p9
  refine lv_if_eq (tgt := 44) hx hb dX10_printBy_30 (by decide) (fun _ => ?_) (fun c9 => absurd c9 (by decide +kernel))
  refine lv_iconst (v := (-1)) hx hb dX10_printBy_44 (by decide +kernel) ?_
  exact g_iret () hF hr rfl hlocks (hP.sub [] rfl) (hD.sub [] rfl rfl) hS rfl dX10_printBy_45 (Nat.le_of_ble_eq_true rfl) (Nat.le_of_ble_eq_true rfl)
set_option maxHeartbeats 8000000 in
set_option maxRecDepth 100000 in
theorem c_X10_grantFact {l : Launch} {D : va_G} {cI cB cS cZ cW : ClassId} {aW : Nat} {y0 : Int32} {y1 : Int32} {qW : Nat → Nat} {qB : Nat → Nat}  {sz : Nat} : MI l D (gT cI cB cS cZ cW) yX10_grantFact (wG yX10_grantFact cX10_grantFact 6 (some .int)) { frames := 1, cells := 0, slots := 0, locals := 21 } [.ref aW, .int y0, .int y1] [(aW, .inr (10, [.int 0, .ref (qW 1), .ref (qW 2), .ref (qW 3), .ref (qW 4), .ref (qW 5)])), ((qW 5), .inr (5, [.int 0, .ref (qB 1), .ref (qB 2), .ref (qB 3), .ref (qB 4), .int 0, .ref (qB 6), .ref (qB 7), .ref (qB 8)]))] sz (fun (r : Int32) (u : Unit) => r = (-1)) (fun (u : Unit) => [] : (Unit) → va_W) 0 0 := by
  refine g_enter (y := yX10_grantFact) (w := (wG yX10_grantFact cX10_grantFact 6 (some .int))) (As := [.ref aW, .int y0, .int y1]) (D := D) (T := gT cI cB cS cZ cW) (ws := [(aW, .inr (10, [.int 0, .ref (qW 1), .ref (qW 2), .ref (qW 3), .ref (qW 4), .ref (qW 5)])), ((qW 5), .inr (5, [.int 0, .ref (qB 1), .ref (qB 2), .ref (qB 3), .ref (qB 4), .int 0, .ref (qB 6), .ref (qB 7), .ref (qB 8)]))]) (gQi D (fun (r : Int32) (u : Unit) => r = (-1)) (fun (u : Unit) => [] : (Unit) → va_W)) (cc := cX10_grantFact) (maxL := 6) (ret := (some .int)) (by decide) rfl (Nat.le_of_ble_eq_true rfl) ?_
  intro p e s m below meth c A ls hF hr hlocks hname hsz hE hA hP hD hS hl
  have hF : CallFix p m c cX10_grantFact 6 s ([.ref aW, .int y0, .int y1] : List Value).toArray (wG yX10_grantFact cX10_grantFact 6 (some .int)) RX10 := hF
  obtain ⟨hx, hb, hml, hown, hts⟩ := id hF
  have htg : ∀ w ∈ GL, w.before ([.ref aW, .int y0, .int y1] : List Value).toArray s = true := fun w h => hts w (List.mem_cons_of_mem _ h)
  have hl : lv_has ls 6 [(0, .ref aW), (1, .int y0), (2, .int y1)] := hl
  have zm1 := tm_1
  have z0 := t_0
  refine lv_aload_n hx hb dX10_grantFact_0 rfl (lv_at hl 0 rfl) ?_
  refine va_get (D := D) (ci := 10) (v := .ref (qW 5)) (C := RX10) (T := TX10) (N := 6) hx hb htg iwG_10 hown hE.1 hP 0 rfl rfl 5 (by decide) (htg _ wm_104) (fun _ h9 => h9) rfl dX10_grantFact_1 ?_
  refine lv_iload_n hx hb dX10_grantFact_4 rfl (lv_at hl 1 rfl) ?_
  refine g_ai (D := D) (wc := [((qW 5), .inr (5, [.int 0, .ref (qB 1), .ref (qB 2), .ref (qB 3), .ref (qB 4), .int 0, .ref (qB 6), .ref (qB 7), .ref (qB 8)]))]) (wr := [(aW, .inr (10, [.int 0, .ref (qW 1), .ref (qW 2), .ref (qW 3), .ref (qW 4), .ref (qW 5)]))]) hP hD hS hA [1] [0] rfl rfl rfl rfl (by decide) (fun hPc hDc => va_runV (As := [.int y0]) (rest := []) hF (c_X5_hasGrant (l := l) (D := D) (cI := cI) (cB := cB) (cS := cS) (cZ := cZ) (cW := cW) (aB := (qW 5)) (y0 := y0) (qB := qB)) (cwV 1 hts (gGV (fun _ h => List.mem_cons_of_mem _ h) wm_243 wm_244 wm_245 wm_101 wm_246) rfl rfl rfl (by decide +kernel) ⟨Nat.le_of_ble_eq_true rfl, Nat.le_of_ble_eq_true rfl⟩) (g_preV (q := (RX5, TX5, 9)) (ci := 5) (q0 := 0) hE hPc hDc rfl rfl) rfl rfl hl.1 rfl (lv_room (Nat.le_of_ble_eq_true rfl)) dX10_grantFact_5 ⟨Nat.le_of_ble_eq_true rfl, Nat.le_of_ble_eq_true rfl⟩) (fun r1 u2 H locs p3 hP hD hS => ?_)
  have hP : va_P D vwCl [(aW, .inr (10, [.int 0, .ref (qW 1), .ref (qW 2), .ref (qW 3), .ref (qW 4), .ref (qW 5)])), ((qW 5), .inr (5, [.int 0, .ref (qB 1), .ref (qB 2), .ref (qB 3), .ref (qB 4), .int 0, .ref (qB 6), .ref (qB 7), .ref (qB 8)]))] H := hP
  have hD : va_D A [(aW, .inr (10, [.int 0, .ref (qW 1), .ref (qW 2), .ref (qW 3), .ref (qW 4), .ref (qW 5)])), ((qW 5), .inr (5, [.int 0, .ref (qB 1), .ref (qB 2), .ref (qB 3), .ref (qB 4), .int 0, .ref (qB 6), .ref (qB 7), .ref (qB 8)]))] := hD
  obtain rfl := p3
  refine lv_if_ne (tgt := 13) hx hb dX10_grantFact_8 (by decide) (fun c9 => absurd c9 (by decide +kernel)) (fun _ => ?_)
  refine lv_iconst (v := (-1)) hx hb dX10_grantFact_11 (by decide +kernel) ?_
  exact g_iret () hF hr rfl hlocks (hP.sub [] rfl) (hD.sub [] rfl rfl) hS rfl dX10_grantFact_12 (Nat.le_of_ble_eq_true rfl) (Nat.le_of_ble_eq_true rfl)
set_option maxHeartbeats 8000000 in
set_option maxRecDepth 100000 in
theorem c_X10_countOf {l : Launch} {D : va_G} {cI cB cS cZ cW : ClassId} {aW : Nat} {y0 : Int32} {qW : Nat → Nat} {qT : Nat → Nat} {qP : Nat → Nat} {qC : Nat → Nat} {qA : Nat → Nat} {qB : Nat → Nat}  {sz : Nat} : MI l D (gT cI cB cS cZ cW) yX10_countOf (wG yX10_countOf cX10_countOf 2 (some .int)) { frames := 1, cells := 0, slots := 0, locals := 23 } [.ref aW, .int y0] [(aW, .inr (10, [.int 0, .ref (qW 1), .ref (qW 2), .ref (qW 3), .ref (qW 4), .ref (qW 5)])), ((qW 1), .inr (9, [.int 0, .ref (qT 1), .ref (qT 2), .ref (qT 3), .ref (qT 4), .ref (qT 5), .ref (qT 6), .ref (qT 7), .ref (qT 8)])), ((qW 2), .inr (6, [.int 0, .ref (qP 1), .ref (qP 2), .ref (qP 3), .ref (qP 4), .ref (qP 5), .ref (qP 6), .ref (qP 7), .ref (qP 8), .ref (qP 9), .ref (qP 10), .ref (qP 11), .ref (qP 12), .ref (qP 13), .ref (qP 14)])), ((qW 3), .inr (2, [.ref (qC 0), .int 0, .int 0, .int (-1), .int 0, .ref (qC 5), .ref (qC 6), .ref (qC 7), .ref (qC 8), .ref (qC 9), .ref (qC 10)])), ((qW 4), .inr (0, [.ref (qA 0), .int 0, .ref (qA 2), .ref (qA 3), .int 0, .ref (qA 5), .ref (qA 6), .ref (qA 7), .ref (qA 8), .ref (qA 9), .ref (qA 10), .ref (qA 11), .ref (qA 12), .ref (qA 13)])), ((qW 5), .inr (5, [.int 0, .ref (qB 1), .ref (qB 2), .ref (qB 3), .ref (qB 4), .int 0, .ref (qB 6), .ref (qB 7), .ref (qB 8)]))] sz (fun (r : Int32) (u : Unit) => r = S_count y0) (fun (u : Unit) => [] : (Unit) → va_W) 0 0 := by
  refine g_enter (y := yX10_countOf) (w := (wG yX10_countOf cX10_countOf 2 (some .int))) (As := [.ref aW, .int y0]) (D := D) (T := gT cI cB cS cZ cW) (ws := [(aW, .inr (10, [.int 0, .ref (qW 1), .ref (qW 2), .ref (qW 3), .ref (qW 4), .ref (qW 5)])), ((qW 1), .inr (9, [.int 0, .ref (qT 1), .ref (qT 2), .ref (qT 3), .ref (qT 4), .ref (qT 5), .ref (qT 6), .ref (qT 7), .ref (qT 8)])), ((qW 2), .inr (6, [.int 0, .ref (qP 1), .ref (qP 2), .ref (qP 3), .ref (qP 4), .ref (qP 5), .ref (qP 6), .ref (qP 7), .ref (qP 8), .ref (qP 9), .ref (qP 10), .ref (qP 11), .ref (qP 12), .ref (qP 13), .ref (qP 14)])), ((qW 3), .inr (2, [.ref (qC 0), .int 0, .int 0, .int (-1), .int 0, .ref (qC 5), .ref (qC 6), .ref (qC 7), .ref (qC 8), .ref (qC 9), .ref (qC 10)])), ((qW 4), .inr (0, [.ref (qA 0), .int 0, .ref (qA 2), .ref (qA 3), .int 0, .ref (qA 5), .ref (qA 6), .ref (qA 7), .ref (qA 8), .ref (qA 9), .ref (qA 10), .ref (qA 11), .ref (qA 12), .ref (qA 13)])), ((qW 5), .inr (5, [.int 0, .ref (qB 1), .ref (qB 2), .ref (qB 3), .ref (qB 4), .int 0, .ref (qB 6), .ref (qB 7), .ref (qB 8)]))]) (gQi D (fun (r : Int32) (u : Unit) => r = S_count y0) (fun (u : Unit) => [] : (Unit) → va_W)) (cc := cX10_countOf) (maxL := 2) (ret := (some .int)) (by decide) rfl (Nat.le_of_ble_eq_true rfl) ?_
  intro p e s m below meth c A ls hF hr hlocks hname hsz hE hA hP hD hS hl
  have hF : CallFix p m c cX10_countOf 2 s ([.ref aW, .int y0] : List Value).toArray (wG yX10_countOf cX10_countOf 2 (some .int)) RX10 := hF
  obtain ⟨hx, hb, hml, hown, hts⟩ := id hF
  have htg : ∀ w ∈ GL, w.before ([.ref aW, .int y0] : List Value).toArray s = true := fun w h => hts w (List.mem_cons_of_mem _ h)
  have hl : lv_has ls 2 [(0, .ref aW), (1, .int y0)] := hl
  have zm100 := tm_100
  have zm1 := tm_1
  have z0 := t_0
  have z1 := t_1
  have z2 := t_2
  have z3 := t_3
  have z4 := t_4
  have z5 := t_5
  have z6 := t_6
  have z7 := t_7
  have z8 := t_8
  have z9 := t_9
  have z10 := t_10
  refine lv_iload_n hx hb dX10_countOf_0 rfl (lv_at hl 1 rfl) ?_
  by_cases c1 : y0 = 0
  · subst c1
    refine lv_tableIn (off := 59) (tgt := 60) hx hb dX10_countOf_1 (by decide +kernel) (by decide +kernel) (by decide +kernel) (by decide) ?_
    refine lv_aload_n hx hb dX10_countOf_60 rfl (lv_at hl 0 rfl) ?_
    refine va_get (D := D) (ci := 10) (v := .ref (qW 1)) (C := RX10) (T := TX10) (N := 6) hx hb htg iwG_10 hown hE.1 hP 0 rfl rfl 1 (by decide) (htg _ wm_78) (fun _ h9 => h9) rfl dX10_countOf_61 ?_
    refine va_get (D := D) (ci := 9) (v := .int 0) (C := RX9) (T := TX9) (N := 9) hx hb htg iwG_9 hown hE.1 hP 1 rfl rfl 0 (by decide) (htg _ wm_237) (fun _ h9 => h9) rfl dX10_countOf_64 ?_
    exact g_iret () hF hr rfl hlocks (hP.sub [] rfl) (hD.sub [] rfl rfl) hS (by show (_ : Int32) = _; unfold S_count; (repeat' split) <;> first | rfl | (exfalso; omega) | omega) dX10_countOf_67 (Nat.le_of_ble_eq_true rfl) (Nat.le_of_ble_eq_true rfl)
  rw [i_eq] at c1
  by_cases c2 : y0 = 1
  · subst c2
    refine lv_tableIn (off := 67) (tgt := 68) hx hb dX10_countOf_1 (by decide +kernel) (by decide +kernel) (by decide +kernel) (by decide) ?_
    refine lv_aload_n hx hb dX10_countOf_68 rfl (lv_at hl 0 rfl) ?_
    refine va_get (D := D) (ci := 10) (v := .ref (qW 2)) (C := RX10) (T := TX10) (N := 6) hx hb htg iwG_10 hown hE.1 hP 0 rfl rfl 2 (by decide) (htg _ wm_85) (fun _ h9 => h9) rfl dX10_countOf_69 ?_
    refine va_get (D := D) (ci := 6) (v := .int 0) (C := RX6) (T := TX6) (N := 15) hx hb htg iwG_6 hown hE.1 hP 2 rfl rfl 0 (by decide) (htg _ wm_247) (fun _ h9 => h9) rfl dX10_countOf_72 ?_
    exact g_iret () hF hr rfl hlocks (hP.sub [] rfl) (hD.sub [] rfl rfl) hS (by show (_ : Int32) = _; unfold S_count; (repeat' split) <;> first | rfl | (exfalso; omega) | omega) dX10_countOf_75 (Nat.le_of_ble_eq_true rfl) (Nat.le_of_ble_eq_true rfl)
  rw [i_eq] at c2
  by_cases c3 : y0 = 2
  · subst c3
    refine lv_tableIn (off := 75) (tgt := 76) hx hb dX10_countOf_1 (by decide +kernel) (by decide +kernel) (by decide +kernel) (by decide) ?_
    refine lv_aload_n hx hb dX10_countOf_76 rfl (lv_at hl 0 rfl) ?_
    refine va_get (D := D) (ci := 10) (v := .ref (qW 3)) (C := RX10) (T := TX10) (N := 6) hx hb htg iwG_10 hown hE.1 hP 0 rfl rfl 3 (by decide) (htg _ wm_91) (fun _ h9 => h9) rfl dX10_countOf_77 ?_
    refine va_get (D := D) (ci := 2) (v := .int 0) (C := RX2) (T := TX2) (N := 11) hx hb htg iwG_2 hown hE.1 hP 3 rfl rfl 4 (by decide) (htg _ wm_248) (fun _ h9 => h9) rfl dX10_countOf_80 ?_
    exact g_iret () hF hr rfl hlocks (hP.sub [] rfl) (hD.sub [] rfl rfl) hS (by show (_ : Int32) = _; unfold S_count; (repeat' split) <;> first | rfl | (exfalso; omega) | omega) dX10_countOf_83 (Nat.le_of_ble_eq_true rfl) (Nat.le_of_ble_eq_true rfl)
  rw [i_eq] at c3
  by_cases c4 : y0 = 3
  · subst c4
    refine lv_tableIn (off := 83) (tgt := 84) hx hb dX10_countOf_1 (by decide +kernel) (by decide +kernel) (by decide +kernel) (by decide) ?_
    refine lv_aload_n hx hb dX10_countOf_84 rfl (lv_at hl 0 rfl) ?_
    refine va_get (D := D) (ci := 10) (v := .ref (qW 4)) (C := RX10) (T := TX10) (N := 6) hx hb htg iwG_10 hown hE.1 hP 0 rfl rfl 4 (by decide) (htg _ wm_98) (fun _ h9 => h9) rfl dX10_countOf_85 ?_
    refine va_get (D := D) (ci := 0) (v := .int 0) (C := RX0) (T := TX0) (N := 14) hx hb htg iwG_0 hown hE.1 hP 4 rfl rfl 1 (by decide) (htg _ wm_249) (fun _ h9 => h9) rfl dX10_countOf_88 ?_
    exact g_iret () hF hr rfl hlocks (hP.sub [] rfl) (hD.sub [] rfl rfl) hS (by show (_ : Int32) = _; unfold S_count; (repeat' split) <;> first | rfl | (exfalso; omega) | omega) dX10_countOf_91 (Nat.le_of_ble_eq_true rfl) (Nat.le_of_ble_eq_true rfl)
  rw [i_eq] at c4
  by_cases c5 : y0 = 4
  · subst c5
    refine lv_tableIn (off := 91) (tgt := 92) hx hb dX10_countOf_1 (by decide +kernel) (by decide +kernel) (by decide +kernel) (by decide) ?_
    refine lv_aload_n hx hb dX10_countOf_92 rfl (lv_at hl 0 rfl) ?_
    refine va_get (D := D) (ci := 10) (v := .ref (qW 4)) (C := RX10) (T := TX10) (N := 6) hx hb htg iwG_10 hown hE.1 hP 0 rfl rfl 4 (by decide) (htg _ wm_98) (fun _ h9 => h9) rfl dX10_countOf_93 ?_
    refine va_get (D := D) (ci := 0) (v := .int 0) (C := RX0) (T := TX0) (N := 14) hx hb htg iwG_0 hown hE.1 hP 4 rfl rfl 4 (by decide) (htg _ wm_250) (fun _ h9 => h9) rfl dX10_countOf_96 ?_
    exact g_iret () hF hr rfl hlocks (hP.sub [] rfl) (hD.sub [] rfl rfl) hS (by show (_ : Int32) = _; unfold S_count; (repeat' split) <;> first | rfl | (exfalso; omega) | omega) dX10_countOf_99 (Nat.le_of_ble_eq_true rfl) (Nat.le_of_ble_eq_true rfl)
  rw [i_eq] at c5
  by_cases c6 : y0 = 5
  · subst c6
    refine lv_tableIn (off := 99) (tgt := 100) hx hb dX10_countOf_1 (by decide +kernel) (by decide +kernel) (by decide +kernel) (by decide) ?_
    refine lv_aload_n hx hb dX10_countOf_100 rfl (lv_at hl 0 rfl) ?_
    refine va_get (D := D) (ci := 10) (v := .int 0) (C := RX10) (T := TX10) (N := 6) hx hb htg iwG_10 hown hE.1 hP 0 rfl rfl 0 (by decide) (htg _ wm_72) (fun _ h9 => h9) rfl dX10_countOf_101 ?_
    exact g_iret () hF hr rfl hlocks (hP.sub [] rfl) (hD.sub [] rfl rfl) hS (by show (_ : Int32) = _; unfold S_count; (repeat' split) <;> first | rfl | (exfalso; omega) | omega) dX10_countOf_104 (Nat.le_of_ble_eq_true rfl) (Nat.le_of_ble_eq_true rfl)
  rw [i_eq] at c6
  by_cases c7 : y0 = 6
  · subst c7
    refine lv_tableIn (off := 104) (tgt := 105) hx hb dX10_countOf_1 (by decide +kernel) (by decide +kernel) (by decide +kernel) (by decide) ?_
    refine lv_aload_n hx hb dX10_countOf_105 rfl (lv_at hl 0 rfl) ?_
    refine va_get (D := D) (ci := 10) (v := .ref (qW 5)) (C := RX10) (T := TX10) (N := 6) hx hb htg iwG_10 hown hE.1 hP 0 rfl rfl 5 (by decide) (htg _ wm_104) (fun _ h9 => h9) rfl dX10_countOf_106 ?_
    refine va_get (D := D) (ci := 5) (v := .int 0) (C := RX5) (T := TX5) (N := 9) hx hb htg iwG_5 hown hE.1 hP 5 rfl rfl 0 (by decide) (htg _ wm_251) (fun _ h9 => h9) rfl dX10_countOf_109 ?_
    exact g_iret () hF hr rfl hlocks (hP.sub [] rfl) (hD.sub [] rfl rfl) hS (by show (_ : Int32) = _; unfold S_count; (repeat' split) <;> first | rfl | (exfalso; omega) | omega) dX10_countOf_112 (Nat.le_of_ble_eq_true rfl) (Nat.le_of_ble_eq_true rfl)
  rw [i_eq] at c7
  by_cases c8 : y0 = 7
  · subst c8
    refine lv_tableIn (off := 112) (tgt := 113) hx hb dX10_countOf_1 (by decide +kernel) (by decide +kernel) (by decide +kernel) (by decide) ?_
    refine lv_aload_n hx hb dX10_countOf_113 rfl (lv_at hl 0 rfl) ?_
    refine va_get (D := D) (ci := 10) (v := .ref (qW 5)) (C := RX10) (T := TX10) (N := 6) hx hb htg iwG_10 hown hE.1 hP 0 rfl rfl 5 (by decide) (htg _ wm_104) (fun _ h9 => h9) rfl dX10_countOf_114 ?_
    refine lv_aload_n hx hb dX10_countOf_117 rfl (lv_at hl 0 rfl) ?_
    refine va_get (D := D) (ci := 10) (v := .ref (qW 1)) (C := RX10) (T := TX10) (N := 6) hx hb htg iwG_10 hown hE.1 hP 0 rfl rfl 1 (by decide) (htg _ wm_78) (fun _ h9 => h9) rfl dX10_countOf_118 ?_
    refine g_ai (D := D) (wc := [((qW 5), .inr (5, [.int 0, .ref (qB 1), .ref (qB 2), .ref (qB 3), .ref (qB 4), .int 0, .ref (qB 6), .ref (qB 7), .ref (qB 8)]))]) (wr := [(aW, .inr (10, [.int 0, .ref (qW 1), .ref (qW 2), .ref (qW 3), .ref (qW 4), .ref (qW 5)])), ((qW 1), .inr (9, [.int 0, .ref (qT 1), .ref (qT 2), .ref (qT 3), .ref (qT 4), .ref (qT 5), .ref (qT 6), .ref (qT 7), .ref (qT 8)])), ((qW 2), .inr (6, [.int 0, .ref (qP 1), .ref (qP 2), .ref (qP 3), .ref (qP 4), .ref (qP 5), .ref (qP 6), .ref (qP 7), .ref (qP 8), .ref (qP 9), .ref (qP 10), .ref (qP 11), .ref (qP 12), .ref (qP 13), .ref (qP 14)])), ((qW 3), .inr (2, [.ref (qC 0), .int 0, .int 0, .int (-1), .int 0, .ref (qC 5), .ref (qC 6), .ref (qC 7), .ref (qC 8), .ref (qC 9), .ref (qC 10)])), ((qW 4), .inr (0, [.ref (qA 0), .int 0, .ref (qA 2), .ref (qA 3), .int 0, .ref (qA 5), .ref (qA 6), .ref (qA 7), .ref (qA 8), .ref (qA 9), .ref (qA 10), .ref (qA 11), .ref (qA 12), .ref (qA 13)]))]) hP hD hS hA [5] [0, 1, 2, 3, 4] rfl rfl rfl rfl (by decide) (fun hPc hDc => va_runV (As := [.ref (qW 1)]) (rest := []) hF (c_X5_fallen (l := l) (D := D) (cI := cI) (cB := cB) (cS := cS) (cZ := cZ) (cW := cW) (aB := (qW 5)) (aT := (qW 1)) (qB := qB)) (cwV 1 hts (gGV (fun _ h => List.mem_cons_of_mem _ h) wm_252 wm_253 wm_254 wm_101 wm_255) rfl rfl rfl (by decide +kernel) ⟨Nat.le_of_ble_eq_true rfl, Nat.le_of_ble_eq_true rfl⟩) (g_preV (q := (RX5, TX5, 9)) (ci := 5) (q0 := 0) hE hPc hDc rfl rfl) rfl rfl hl.1 rfl (lv_room (Nat.le_of_ble_eq_true rfl)) dX10_countOf_121 ⟨Nat.le_of_ble_eq_true rfl, Nat.le_of_ble_eq_true rfl⟩) (fun r9 u10 H locs p11 hP hD hS => ?_)
    have hP : va_P D vwCl [(aW, .inr (10, [.int 0, .ref (qW 1), .ref (qW 2), .ref (qW 3), .ref (qW 4), .ref (qW 5)])), ((qW 1), .inr (9, [.int 0, .ref (qT 1), .ref (qT 2), .ref (qT 3), .ref (qT 4), .ref (qT 5), .ref (qT 6), .ref (qT 7), .ref (qT 8)])), ((qW 2), .inr (6, [.int 0, .ref (qP 1), .ref (qP 2), .ref (qP 3), .ref (qP 4), .ref (qP 5), .ref (qP 6), .ref (qP 7), .ref (qP 8), .ref (qP 9), .ref (qP 10), .ref (qP 11), .ref (qP 12), .ref (qP 13), .ref (qP 14)])), ((qW 3), .inr (2, [.ref (qC 0), .int 0, .int 0, .int (-1), .int 0, .ref (qC 5), .ref (qC 6), .ref (qC 7), .ref (qC 8), .ref (qC 9), .ref (qC 10)])), ((qW 4), .inr (0, [.ref (qA 0), .int 0, .ref (qA 2), .ref (qA 3), .int 0, .ref (qA 5), .ref (qA 6), .ref (qA 7), .ref (qA 8), .ref (qA 9), .ref (qA 10), .ref (qA 11), .ref (qA 12), .ref (qA 13)])), ((qW 5), .inr (5, [.int 0, .ref (qB 1), .ref (qB 2), .ref (qB 3), .ref (qB 4), .int 0, .ref (qB 6), .ref (qB 7), .ref (qB 8)]))] H := hP
    have hD : va_D A [(aW, .inr (10, [.int 0, .ref (qW 1), .ref (qW 2), .ref (qW 3), .ref (qW 4), .ref (qW 5)])), ((qW 1), .inr (9, [.int 0, .ref (qT 1), .ref (qT 2), .ref (qT 3), .ref (qT 4), .ref (qT 5), .ref (qT 6), .ref (qT 7), .ref (qT 8)])), ((qW 2), .inr (6, [.int 0, .ref (qP 1), .ref (qP 2), .ref (qP 3), .ref (qP 4), .ref (qP 5), .ref (qP 6), .ref (qP 7), .ref (qP 8), .ref (qP 9), .ref (qP 10), .ref (qP 11), .ref (qP 12), .ref (qP 13), .ref (qP 14)])), ((qW 3), .inr (2, [.ref (qC 0), .int 0, .int 0, .int (-1), .int 0, .ref (qC 5), .ref (qC 6), .ref (qC 7), .ref (qC 8), .ref (qC 9), .ref (qC 10)])), ((qW 4), .inr (0, [.ref (qA 0), .int 0, .ref (qA 2), .ref (qA 3), .int 0, .ref (qA 5), .ref (qA 6), .ref (qA 7), .ref (qA 8), .ref (qA 9), .ref (qA 10), .ref (qA 11), .ref (qA 12), .ref (qA 13)])), ((qW 5), .inr (5, [.int 0, .ref (qB 1), .ref (qB 2), .ref (qB 3), .ref (qB 4), .int 0, .ref (qB 6), .ref (qB 7), .ref (qB 8)]))] := hD
    obtain rfl := p11
    exact g_iret () hF hr rfl hlocks (hP.sub [] rfl) (hD.sub [] rfl rfl) hS (by show (_ : Int32) = _; unfold S_count; (repeat' split) <;> first | rfl | (exfalso; omega) | omega) dX10_countOf_124 (Nat.le_of_ble_eq_true rfl) (Nat.le_of_ble_eq_true rfl)
  rw [i_eq] at c8
  by_cases c12 : y0 = 8
  · subst c12
    refine lv_tableIn (off := 124) (tgt := 125) hx hb dX10_countOf_1 (by decide +kernel) (by decide +kernel) (by decide +kernel) (by decide) ?_
    refine lv_aload_n hx hb dX10_countOf_125 rfl (lv_at hl 0 rfl) ?_
    refine va_get (D := D) (ci := 10) (v := .ref (qW 5)) (C := RX10) (T := TX10) (N := 6) hx hb htg iwG_10 hown hE.1 hP 0 rfl rfl 5 (by decide) (htg _ wm_104) (fun _ h9 => h9) rfl dX10_countOf_126 ?_
    refine va_get (D := D) (ci := 5) (v := .int 0) (C := RX5) (T := TX5) (N := 9) hx hb htg iwG_5 hown hE.1 hP 5 rfl rfl 5 (by decide) (htg _ wm_256) (fun _ h9 => h9) rfl dX10_countOf_129 ?_
    exact g_iret () hF hr rfl hlocks (hP.sub [] rfl) (hD.sub [] rfl rfl) hS (by show (_ : Int32) = _; unfold S_count; (repeat' split) <;> first | rfl | (exfalso; omega) | omega) dX10_countOf_132 (Nat.le_of_ble_eq_true rfl) (Nat.le_of_ble_eq_true rfl)
  rw [i_eq] at c12
  by_cases c13 : y0 = 9
  · subst c13
    refine lv_tableIn (off := 132) (tgt := 133) hx hb dX10_countOf_1 (by decide +kernel) (by decide +kernel) (by decide +kernel) (by decide) ?_
    refine lv_aload_n hx hb dX10_countOf_133 rfl (lv_at hl 0 rfl) ?_
    refine va_get (D := D) (ci := 10) (v := .ref (qW 3)) (C := RX10) (T := TX10) (N := 6) hx hb htg iwG_10 hown hE.1 hP 0 rfl rfl 3 (by decide) (htg _ wm_91) (fun _ h9 => h9) rfl dX10_countOf_134 ?_
    refine lv_aload_n hx hb dX10_countOf_137 rfl (lv_at hl 0 rfl) ?_
    refine va_get (D := D) (ci := 10) (v := .int 0) (C := RX10) (T := TX10) (N := 6) hx hb htg iwG_10 hown hE.1 hP 0 rfl rfl 0 (by decide) (htg _ wm_72) (fun _ h9 => h9) rfl dX10_countOf_138 ?_
    refine g_ai (D := D) (wc := [((qW 3), .inr (2, [.ref (qC 0), .int 0, .int 0, .int (-1), .int 0, .ref (qC 5), .ref (qC 6), .ref (qC 7), .ref (qC 8), .ref (qC 9), .ref (qC 10)]))]) (wr := [(aW, .inr (10, [.int 0, .ref (qW 1), .ref (qW 2), .ref (qW 3), .ref (qW 4), .ref (qW 5)])), ((qW 1), .inr (9, [.int 0, .ref (qT 1), .ref (qT 2), .ref (qT 3), .ref (qT 4), .ref (qT 5), .ref (qT 6), .ref (qT 7), .ref (qT 8)])), ((qW 2), .inr (6, [.int 0, .ref (qP 1), .ref (qP 2), .ref (qP 3), .ref (qP 4), .ref (qP 5), .ref (qP 6), .ref (qP 7), .ref (qP 8), .ref (qP 9), .ref (qP 10), .ref (qP 11), .ref (qP 12), .ref (qP 13), .ref (qP 14)])), ((qW 4), .inr (0, [.ref (qA 0), .int 0, .ref (qA 2), .ref (qA 3), .int 0, .ref (qA 5), .ref (qA 6), .ref (qA 7), .ref (qA 8), .ref (qA 9), .ref (qA 10), .ref (qA 11), .ref (qA 12), .ref (qA 13)])), ((qW 5), .inr (5, [.int 0, .ref (qB 1), .ref (qB 2), .ref (qB 3), .ref (qB 4), .int 0, .ref (qB 6), .ref (qB 7), .ref (qB 8)]))]) hP hD hS hA [3] [0, 1, 2, 4, 5] rfl rfl rfl rfl (by decide) (fun hPc hDc => va_runV (As := [.int 0]) (rest := []) hF (c_X2_inForce (l := l) (D := D) (cI := cI) (cB := cB) (cS := cS) (cZ := cZ) (cW := cW) (aC := (qW 3)) (qC := qC)) (cwV 1 hts (gGV (fun _ h => List.mem_cons_of_mem _ h) wm_257 wm_258 wm_259 wm_88 wm_260) rfl rfl rfl (by decide +kernel) ⟨Nat.le_of_ble_eq_true rfl, Nat.le_of_ble_eq_true rfl⟩) (g_preV (q := (RX2, TX2, 11)) (ci := 2) (q0 := 0) hE hPc hDc rfl rfl) rfl rfl hl.1 rfl (lv_room (Nat.le_of_ble_eq_true rfl)) dX10_countOf_141 ⟨Nat.le_of_ble_eq_true rfl, Nat.le_of_ble_eq_true rfl⟩) (fun r14 u15 H locs p16 hP hD hS => ?_)
    have hP : va_P D vwCl [(aW, .inr (10, [.int 0, .ref (qW 1), .ref (qW 2), .ref (qW 3), .ref (qW 4), .ref (qW 5)])), ((qW 1), .inr (9, [.int 0, .ref (qT 1), .ref (qT 2), .ref (qT 3), .ref (qT 4), .ref (qT 5), .ref (qT 6), .ref (qT 7), .ref (qT 8)])), ((qW 2), .inr (6, [.int 0, .ref (qP 1), .ref (qP 2), .ref (qP 3), .ref (qP 4), .ref (qP 5), .ref (qP 6), .ref (qP 7), .ref (qP 8), .ref (qP 9), .ref (qP 10), .ref (qP 11), .ref (qP 12), .ref (qP 13), .ref (qP 14)])), ((qW 4), .inr (0, [.ref (qA 0), .int 0, .ref (qA 2), .ref (qA 3), .int 0, .ref (qA 5), .ref (qA 6), .ref (qA 7), .ref (qA 8), .ref (qA 9), .ref (qA 10), .ref (qA 11), .ref (qA 12), .ref (qA 13)])), ((qW 5), .inr (5, [.int 0, .ref (qB 1), .ref (qB 2), .ref (qB 3), .ref (qB 4), .int 0, .ref (qB 6), .ref (qB 7), .ref (qB 8)])), ((qW 3), .inr (2, [.ref (qC 0), .int 0, .int 0, .int (-1), .int 0, .ref (qC 5), .ref (qC 6), .ref (qC 7), .ref (qC 8), .ref (qC 9), .ref (qC 10)]))] H := hP
    have hD : va_D A [(aW, .inr (10, [.int 0, .ref (qW 1), .ref (qW 2), .ref (qW 3), .ref (qW 4), .ref (qW 5)])), ((qW 1), .inr (9, [.int 0, .ref (qT 1), .ref (qT 2), .ref (qT 3), .ref (qT 4), .ref (qT 5), .ref (qT 6), .ref (qT 7), .ref (qT 8)])), ((qW 2), .inr (6, [.int 0, .ref (qP 1), .ref (qP 2), .ref (qP 3), .ref (qP 4), .ref (qP 5), .ref (qP 6), .ref (qP 7), .ref (qP 8), .ref (qP 9), .ref (qP 10), .ref (qP 11), .ref (qP 12), .ref (qP 13), .ref (qP 14)])), ((qW 4), .inr (0, [.ref (qA 0), .int 0, .ref (qA 2), .ref (qA 3), .int 0, .ref (qA 5), .ref (qA 6), .ref (qA 7), .ref (qA 8), .ref (qA 9), .ref (qA 10), .ref (qA 11), .ref (qA 12), .ref (qA 13)])), ((qW 5), .inr (5, [.int 0, .ref (qB 1), .ref (qB 2), .ref (qB 3), .ref (qB 4), .int 0, .ref (qB 6), .ref (qB 7), .ref (qB 8)])), ((qW 3), .inr (2, [.ref (qC 0), .int 0, .int 0, .int (-1), .int 0, .ref (qC 5), .ref (qC 6), .ref (qC 7), .ref (qC 8), .ref (qC 9), .ref (qC 10)]))] := hD
    obtain rfl := p16
    exact g_iret () hF hr rfl hlocks (hP.sub [] rfl) (hD.sub [] rfl rfl) hS (by show (_ : Int32) = _; unfold S_count; (repeat' split) <;> first | rfl | (exfalso; omega) | omega) dX10_countOf_144 (Nat.le_of_ble_eq_true rfl) (Nat.le_of_ble_eq_true rfl)
  rw [i_eq] at c13
  by_cases c17 : y0 = 10
  · subst c17
    refine lv_tableIn (off := 144) (tgt := 145) hx hb dX10_countOf_1 (by decide +kernel) (by decide +kernel) (by decide +kernel) (by decide) ?_
    refine lv_aload_n hx hb dX10_countOf_145 rfl (lv_at hl 0 rfl) ?_
    refine va_get (D := D) (ci := 10) (v := .ref (qW 2)) (C := RX10) (T := TX10) (N := 6) hx hb htg iwG_10 hown hE.1 hP 0 rfl rfl 2 (by decide) (htg _ wm_85) (fun _ h9 => h9) rfl dX10_countOf_146 ?_
    refine g_ai (D := D) (wc := [((qW 2), .inr (6, [.int 0, .ref (qP 1), .ref (qP 2), .ref (qP 3), .ref (qP 4), .ref (qP 5), .ref (qP 6), .ref (qP 7), .ref (qP 8), .ref (qP 9), .ref (qP 10), .ref (qP 11), .ref (qP 12), .ref (qP 13), .ref (qP 14)]))]) (wr := [(aW, .inr (10, [.int 0, .ref (qW 1), .ref (qW 2), .ref (qW 3), .ref (qW 4), .ref (qW 5)])), ((qW 1), .inr (9, [.int 0, .ref (qT 1), .ref (qT 2), .ref (qT 3), .ref (qT 4), .ref (qT 5), .ref (qT 6), .ref (qT 7), .ref (qT 8)])), ((qW 3), .inr (2, [.ref (qC 0), .int 0, .int 0, .int (-1), .int 0, .ref (qC 5), .ref (qC 6), .ref (qC 7), .ref (qC 8), .ref (qC 9), .ref (qC 10)])), ((qW 4), .inr (0, [.ref (qA 0), .int 0, .ref (qA 2), .ref (qA 3), .int 0, .ref (qA 5), .ref (qA 6), .ref (qA 7), .ref (qA 8), .ref (qA 9), .ref (qA 10), .ref (qA 11), .ref (qA 12), .ref (qA 13)])), ((qW 5), .inr (5, [.int 0, .ref (qB 1), .ref (qB 2), .ref (qB 3), .ref (qB 4), .int 0, .ref (qB 6), .ref (qB 7), .ref (qB 8)]))]) hP hD hS hA [2] [0, 1, 3, 4, 5] rfl rfl rfl rfl (by decide) (fun hPc hDc => va_runV (As := []) (rest := []) hF (c_X6_living (l := l) (D := D) (cI := cI) (cB := cB) (cS := cS) (cZ := cZ) (cW := cW) (aP := (qW 2)) (qP := qP)) (cwV 0 hts (gGV (fun _ h => List.mem_cons_of_mem _ h) wm_261 wm_262 wm_263 wm_81 wm_264) rfl rfl rfl (by decide +kernel) ⟨Nat.le_of_ble_eq_true rfl, Nat.le_of_ble_eq_true rfl⟩) (g_preV (q := (RX6, TX6, 15)) (ci := 6) (q0 := 0) hE hPc hDc rfl rfl) rfl rfl hl.1 rfl (lv_room (Nat.le_of_ble_eq_true rfl)) dX10_countOf_149 ⟨Nat.le_of_ble_eq_true rfl, Nat.le_of_ble_eq_true rfl⟩) (fun r18 u19 H locs p20 hP hD hS => ?_)
    have hP : va_P D vwCl [(aW, .inr (10, [.int 0, .ref (qW 1), .ref (qW 2), .ref (qW 3), .ref (qW 4), .ref (qW 5)])), ((qW 1), .inr (9, [.int 0, .ref (qT 1), .ref (qT 2), .ref (qT 3), .ref (qT 4), .ref (qT 5), .ref (qT 6), .ref (qT 7), .ref (qT 8)])), ((qW 3), .inr (2, [.ref (qC 0), .int 0, .int 0, .int (-1), .int 0, .ref (qC 5), .ref (qC 6), .ref (qC 7), .ref (qC 8), .ref (qC 9), .ref (qC 10)])), ((qW 4), .inr (0, [.ref (qA 0), .int 0, .ref (qA 2), .ref (qA 3), .int 0, .ref (qA 5), .ref (qA 6), .ref (qA 7), .ref (qA 8), .ref (qA 9), .ref (qA 10), .ref (qA 11), .ref (qA 12), .ref (qA 13)])), ((qW 5), .inr (5, [.int 0, .ref (qB 1), .ref (qB 2), .ref (qB 3), .ref (qB 4), .int 0, .ref (qB 6), .ref (qB 7), .ref (qB 8)])), ((qW 2), .inr (6, [.int 0, .ref (qP 1), .ref (qP 2), .ref (qP 3), .ref (qP 4), .ref (qP 5), .ref (qP 6), .ref (qP 7), .ref (qP 8), .ref (qP 9), .ref (qP 10), .ref (qP 11), .ref (qP 12), .ref (qP 13), .ref (qP 14)]))] H := hP
    have hD : va_D A [(aW, .inr (10, [.int 0, .ref (qW 1), .ref (qW 2), .ref (qW 3), .ref (qW 4), .ref (qW 5)])), ((qW 1), .inr (9, [.int 0, .ref (qT 1), .ref (qT 2), .ref (qT 3), .ref (qT 4), .ref (qT 5), .ref (qT 6), .ref (qT 7), .ref (qT 8)])), ((qW 3), .inr (2, [.ref (qC 0), .int 0, .int 0, .int (-1), .int 0, .ref (qC 5), .ref (qC 6), .ref (qC 7), .ref (qC 8), .ref (qC 9), .ref (qC 10)])), ((qW 4), .inr (0, [.ref (qA 0), .int 0, .ref (qA 2), .ref (qA 3), .int 0, .ref (qA 5), .ref (qA 6), .ref (qA 7), .ref (qA 8), .ref (qA 9), .ref (qA 10), .ref (qA 11), .ref (qA 12), .ref (qA 13)])), ((qW 5), .inr (5, [.int 0, .ref (qB 1), .ref (qB 2), .ref (qB 3), .ref (qB 4), .int 0, .ref (qB 6), .ref (qB 7), .ref (qB 8)])), ((qW 2), .inr (6, [.int 0, .ref (qP 1), .ref (qP 2), .ref (qP 3), .ref (qP 4), .ref (qP 5), .ref (qP 6), .ref (qP 7), .ref (qP 8), .ref (qP 9), .ref (qP 10), .ref (qP 11), .ref (qP 12), .ref (qP 13), .ref (qP 14)]))] := hD
    obtain rfl := p20
    exact g_iret () hF hr rfl hlocks (hP.sub [] rfl) (hD.sub [] rfl rfl) hS (by show (_ : Int32) = _; unfold S_count; (repeat' split) <;> first | rfl | (exfalso; omega) | omega) dX10_countOf_152 (Nat.le_of_ble_eq_true rfl) (Nat.le_of_ble_eq_true rfl)
  rw [i_eq] at c17
  refine lv_tableOut (tgt := 153) hx hb dX10_countOf_1 (by omega) (by decide) ?_
  refine lv_bipush (v := (-100)) hx hb dX10_countOf_153 (by decide +kernel) ?_
  exact g_iret () hF hr rfl hlocks (hP.sub [] rfl) (hD.sub [] rfl rfl) hS (by show (_ : Int32) = _; unfold S_count; (repeat' split) <;> first | rfl | (exfalso; omega) | omega) dX10_countOf_155 (Nat.le_of_ble_eq_true rfl) (Nat.le_of_ble_eq_true rfl)
