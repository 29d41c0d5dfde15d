set_option maxHeartbeats 8000000 in
set_option maxRecDepth 100000 in
theorem c_X1_init {l : Launch} {D : va_G} {cI cB cS cZ cW : ClassId} {aY : Nat}  {sz : Nat} : MV l D (gT cI cB cS cZ cW) yX1_init (wG yX1_init cX1_init 1 none) { frames := 1, cells := 4, slots := 48, locals := 24 } [.ref aY] [(aY, .inr (1, [.int 0, .null, .null, .null, .null, .int 0, .int 0, .int 0]))] sz (fun (u : Nat → Nat) => True) (fun (u : Nat → Nat) => [(aY, .inr (1, [.int 0, .ref (u 1), .ref (u 2), .ref (u 3), .ref (u 4), .int 0, .int 0, .int 0])), ((u 1), .inl (cI, 12, .inl (fun _ => 0))), ((u 2), .inl (cI, 12, .inl (fun _ => 0))), ((u 3), .inl (cI, 12, .inl (fun _ => 0))), ((u 4), .inl (cI, 12, .inl (fun _ => 0)))] : (Nat → Nat) → va_W) 4 48 := by
  refine g_enter (y := yX1_init) (w := (wG yX1_init cX1_init 1 none)) (As := [.ref aY]) (D := D) (T := gT cI cB cS cZ cW) (ws := [(aY, .inr (1, [.int 0, .null, .null, .null, .null, .int 0, .int 0, .int 0]))]) (gQv D (fun (u : Nat → Nat) => True) (fun (u : Nat → Nat) => [(aY, .inr (1, [.int 0, .ref (u 1), .ref (u 2), .ref (u 3), .ref (u 4), .int 0, .int 0, .int 0])), ((u 1), .inl (cI, 12, .inl (fun _ => 0))), ((u 2), .inl (cI, 12, .inl (fun _ => 0))), ((u 3), .inl (cI, 12, .inl (fun _ => 0))), ((u 4), .inl (cI, 12, .inl (fun _ => 0)))] : (Nat → Nat) → va_W)) (cc := cX1_init) (maxL := 1) (ret := none) (by decide) rfl (Nat.le_of_ble_eq_true rfl) ?_
  intro p e s m below meth c A ls hF hr hlocks hname hsz hE hA hP hD hS hl
  have hF : CallFix p m c cX1_init 1 s ([.ref aY] : List Value).toArray (wG yX1_init cX1_init 1 none) RX1 := hF
  obtain ⟨hx, hb, hml, hown, hts⟩ := id hF
  have htg : ∀ w ∈ GL, w.before ([.ref aY] : List Value).toArray s = true := fun w h => hts w (List.mem_cons_of_mem _ h)
  have hl : lv_has ls 1 [(0, .ref aY)] := hl
  have z0 := t_0
  have z12 := t_12
  refine lv_aload_n hx hb dX1_init_0 rfl (lv_at hl 0 rfl) ?_
  refine W.objInit hx hb hown (htg _ wm_113) (htg _ wm_1) (htg _ wm_2) rfl (by rw [hml]; exact hl.1) rfl dX1_init_1 (Nat.le_of_ble_eq_true rfl) (Nat.le_of_ble_eq_true rfl) ?_
  refine W.eq (g2 := F0 m 4 ls ([])) rfl ?_
  refine lv_aload_n hx hb dX1_init_4 rfl (lv_at hl 0 rfl) ?_
  refine lv_iconst (v := 0) hx hb dX1_init_5 (by decide +kernel) ?_
  refine va_put (D := D) (ci := 1) (v := .int 0) (ty := tyX1 0) (C := RX1) (T := TX1) (N := 8) hx hb htg iwG_1 tyX1 tyX1_ok nmX1 hown hE.1 hP hD hS 0 rfl rfl 0 (by decide) (htg _ wm_114) (fun _ h9 => h9) rfl (by decide +kernel) rfl rfl (Nat.le_of_ble_eq_true rfl) dX1_init_6 (fun H locs hP hD hS => ?_)
  have hP : va_P D vwCl [(aY, .inr (1, [.int 0, .null, .null, .null, .null, .int 0, .int 0, .int 0]))] H := hP
  have hD : va_D A [(aY, .inr (1, [.int 0, .null, .null, .null, .null, .int 0, .int 0, .int 0]))] := hD
  refine lv_aload_n hx hb dX1_init_9 rfl (lv_at hl 0 rfl) ?_
  refine lv_bipush (v := 12) hx hb dX1_init_10 (by decide +kernel) ?_
  refine g_newa (T := gT cI cB cS cZ cW) (cA := cI) (t0 := 0) (atype := .int) (ty := .int) (a0 := (12, .inl (fun _ => 0))) hx hb rfl (fun _ h => by cases h) (htg _ wm_4) rfl hE hP hD hS hA (fun _ => rfl) (by decide +kernel) (by decide +kernel) (by decide +kernel) (Nat.le_of_ble_eq_true rfl) (Nat.le_of_ble_eq_true rfl) dX1_init_12 (fun q1 H hP hD hS => ?_)
  have hP : va_P D vwCl [(aY, .inr (1, [.int 0, .null, .null, .null, .null, .int 0, .int 0, .int 0])), (q1, .inl (cI, 12, .inl (fun _ => 0)))] H := hP
  have hD : va_D A [(aY, .inr (1, [.int 0, .null, .null, .null, .null, .int 0, .int 0, .int 0])), (q1, .inl (cI, 12, .inl (fun _ => 0)))] := hD
  refine W.widen (k := 1) (n := 12) (Nat.le_of_ble_eq_true rfl) (Nat.le_of_ble_eq_true rfl) ?_
  refine va_putF (D := D) (ci := 1) (v := .ref q1) (ty := tyX1 1) (C := RX1) (T := TX1) (N := 8) hx hb htg iwG_1 tyX1 tyX1_ok nmX1 hown hE.1 hP hD hS 0 rfl rfl 1 (by decide) (htg _ wm_115) (fun _ h9 => h9) rfl hname rfl (by decide +kernel) rfl rfl (Nat.le_of_ble_eq_true rfl) dX1_init_14 (fun H locs hP hD hS => ?_)
  have hP : va_P D vwCl [(aY, .inr (1, [.int 0, .ref q1, .null, .null, .null, .int 0, .int 0, .int 0])), (q1, .inl (cI, 12, .inl (fun _ => 0)))] H := hP
  have hD : va_D A [(aY, .inr (1, [.int 0, .ref q1, .null, .null, .null, .int 0, .int 0, .int 0])), (q1, .inl (cI, 12, .inl (fun _ => 0)))] := hD
  refine lv_aload_n hx hb dX1_init_17 rfl (lv_at hl 0 rfl) ?_
  refine lv_bipush (v := 12) hx hb dX1_init_18 (by decide +kernel) ?_
  refine g_newa (T := gT cI cB cS cZ cW) (cA := cI) (t0 := 0) (atype := .int) (ty := .int) (a0 := (12, .inl (fun _ => 0))) hx hb rfl (fun _ h => by cases h) (htg _ wm_4) rfl hE hP hD hS hA (fun _ => rfl) (by decide +kernel) (by decide +kernel) (by decide +kernel) (Nat.le_of_ble_eq_true rfl) (Nat.le_of_ble_eq_true rfl) dX1_init_20 (fun q2 H hP hD hS => ?_)
  have hP : va_P D vwCl [(aY, .inr (1, [.int 0, .ref q1, .null, .null, .null, .int 0, .int 0, .int 0])), (q1, .inl (cI, 12, .inl (fun _ => 0))), (q2, .inl (cI, 12, .inl (fun _ => 0)))] H := hP
  have hD : va_D A [(aY, .inr (1, [.int 0, .ref q1, .null, .null, .null, .int 0, .int 0, .int 0])), (q1, .inl (cI, 12, .inl (fun _ => 0))), (q2, .inl (cI, 12, .inl (fun _ => 0)))] := hD
  refine W.widen (k := 2) (n := 24) (Nat.le_of_ble_eq_true rfl) (Nat.le_of_ble_eq_true rfl) ?_
  refine va_putF (D := D) (ci := 1) (v := .ref q2) (ty := tyX1 2) (C := RX1) (T := TX1) (N := 8) hx hb htg iwG_1 tyX1 tyX1_ok nmX1 hown hE.1 hP hD hS 0 rfl rfl 2 (by decide) (htg _ wm_116) (fun _ h9 => h9) rfl hname rfl (by decide +kernel) rfl rfl (Nat.le_of_ble_eq_true rfl) dX1_init_22 (fun H locs hP hD hS => ?_)
  have hP : va_P D vwCl [(aY, .inr (1, [.int 0, .ref q1, .ref q2, .null, .null, .int 0, .int 0, .int 0])), (q1, .inl (cI, 12, .inl (fun _ => 0))), (q2, .inl (cI, 12, .inl (fun _ => 0)))] H := hP
  have hD : va_D A [(aY, .inr (1, [.int 0, .ref q1, .ref q2, .null, .null, .int 0, .int 0, .int 0])), (q1, .inl (cI, 12, .inl (fun _ => 0))), (q2, .inl (cI, 12, .inl (fun _ => 0)))] := hD
  refine lv_aload_n hx hb dX1_init_25 rfl (lv_at hl 0 rfl) ?_
  refine lv_bipush (v := 12) hx hb dX1_init_26 (by decide +kernel) ?_
  refine g_newa (T := gT cI cB cS cZ cW) (cA := cI) (t0 := 0) (atype := .int) (ty := .int) (a0 := (12, .inl (fun _ => 0))) hx hb rfl (fun _ h => by cases h) (htg _ wm_4) rfl hE hP hD hS hA (fun _ => rfl) (by decide +kernel) (by decide +kernel) (by decide +kernel) (Nat.le_of_ble_eq_true rfl) (Nat.le_of_ble_eq_true rfl) dX1_init_28 (fun q3 H hP hD hS => ?_)
  have hP : va_P D vwCl [(aY, .inr (1, [.int 0, .ref q1, .ref q2, .null, .null, .int 0, .int 0, .int 0])), (q1, .inl (cI, 12, .inl (fun _ => 0))), (q2, .inl (cI, 12, .inl (fun _ => 0))), (q3, .inl (cI, 12, .inl (fun _ => 0)))] H := hP
  have hD : va_D A [(aY, .inr (1, [.int 0, .ref q1, .ref q2, .null, .null, .int 0, .int 0, .int 0])), (q1, .inl (cI, 12, .inl (fun _ => 0))), (q2, .inl (cI, 12, .inl (fun _ => 0))), (q3, .inl (cI, 12, .inl (fun _ => 0)))] := hD
  refine W.widen (k := 3) (n := 36) (Nat.le_of_ble_eq_true rfl) (Nat.le_of_ble_eq_true rfl) ?_
  refine va_putF (D := D) (ci := 1) (v := .ref q3) (ty := tyX1 3) (C := RX1) (T := TX1) (N := 8) hx hb htg iwG_1 tyX1 tyX1_ok nmX1 hown hE.1 hP hD hS 0 rfl rfl 3 (by decide) (htg _ wm_117) (fun _ h9 => h9) rfl hname rfl (by decide +kernel) rfl rfl (Nat.le_of_ble_eq_true rfl) dX1_init_30 (fun H locs hP hD hS => ?_)
  have hP : va_P D vwCl [(aY, .inr (1, [.int 0, .ref q1, .ref q2, .ref q3, .null, .int 0, .int 0, .int 0])), (q1, .inl (cI, 12, .inl (fun _ => 0))), (q2, .inl (cI, 12, .inl (fun _ => 0))), (q3, .inl (cI, 12, .inl (fun _ => 0)))] H := hP
  have hD : va_D A [(aY, .inr (1, [.int 0, .ref q1, .ref q2, .ref q3, .null, .int 0, .int 0, .int 0])), (q1, .inl (cI, 12, .inl (fun _ => 0))), (q2, .inl (cI, 12, .inl (fun _ => 0))), (q3, .inl (cI, 12, .inl (fun _ => 0)))] := hD
  refine lv_aload_n hx hb dX1_init_33 rfl (lv_at hl 0 rfl) ?_
  refine lv_bipush (v := 12) hx hb dX1_init_34 (by decide +kernel) ?_
  refine g_newa (T := gT cI cB cS cZ cW) (cA := cI) (t0 := 0) (atype := .int) (ty := .int) (a0 := (12, .inl (fun _ => 0))) hx hb rfl (fun _ h => by cases h) (htg _ wm_4) rfl hE hP hD hS hA (fun _ => rfl) (by decide +kernel) (by decide +kernel) (by decide +kernel) (Nat.le_of_ble_eq_true rfl) (Nat.le_of_ble_eq_true rfl) dX1_init_36 (fun q4 H hP hD hS => ?_)
  have hP : va_P D vwCl [(aY, .inr (1, [.int 0, .ref q1, .ref q2, .ref q3, .null, .int 0, .int 0, .int 0])), (q1, .inl (cI, 12, .inl (fun _ => 0))), (q2, .inl (cI, 12, .inl (fun _ => 0))), (q3, .inl (cI, 12, .inl (fun _ => 0))), (q4, .inl (cI, 12, .inl (fun _ => 0)))] H := hP
  have hD : va_D A [(aY, .inr (1, [.int 0, .ref q1, .ref q2, .ref q3, .null, .int 0, .int 0, .int 0])), (q1, .inl (cI, 12, .inl (fun _ => 0))), (q2, .inl (cI, 12, .inl (fun _ => 0))), (q3, .inl (cI, 12, .inl (fun _ => 0))), (q4, .inl (cI, 12, .inl (fun _ => 0)))] := hD
  refine W.widen (k := 4) (n := 48) (Nat.le_of_ble_eq_true rfl) (Nat.le_of_ble_eq_true rfl) ?_
  refine va_putF (D := D) (ci := 1) (v := .ref q4) (ty := tyX1 4) (C := RX1) (T := TX1) (N := 8) hx hb htg iwG_1 tyX1 tyX1_ok nmX1 hown hE.1 hP hD hS 0 rfl rfl 4 (by decide) (htg _ wm_118) (fun _ h9 => h9) rfl hname rfl (by decide +kernel) rfl rfl (Nat.le_of_ble_eq_true rfl) dX1_init_38 (fun H locs hP hD hS => ?_)
  have hP : va_P D vwCl [(aY, .inr (1, [.int 0, .ref q1, .ref q2, .ref q3, .ref q4, .int 0, .int 0, .int 0])), (q1, .inl (cI, 12, .inl (fun _ => 0))), (q2, .inl (cI, 12, .inl (fun _ => 0))), (q3, .inl (cI, 12, .inl (fun _ => 0))), (q4, .inl (cI, 12, .inl (fun _ => 0)))] H := hP
  have hD : va_D A [(aY, .inr (1, [.int 0, .ref q1, .ref q2, .ref q3, .ref q4, .int 0, .int 0, .int 0])), (q1, .inl (cI, 12, .inl (fun _ => 0))), (q2, .inl (cI, 12, .inl (fun _ => 0))), (q3, .inl (cI, 12, .inl (fun _ => 0))), (q4, .inl (cI, 12, .inl (fun _ => 0)))] := hD
  refine lv_aload_n hx hb dX1_init_41 rfl (lv_at hl 0 rfl) ?_
  refine lv_iconst (v := 0) hx hb dX1_init_42 (by decide +kernel) ?_
  refine va_put (D := D) (ci := 1) (v := .int 0) (ty := tyX1 5) (C := RX1) (T := TX1) (N := 8) hx hb htg iwG_1 tyX1 tyX1_ok nmX1 hown hE.1 hP hD hS 0 rfl rfl 5 (by decide) (htg _ wm_119) (fun _ h9 => h9) rfl (by decide +kernel) rfl rfl (Nat.le_of_ble_eq_true rfl) dX1_init_43 (fun H locs hP hD hS => ?_)
  have hP : va_P D vwCl [(aY, .inr (1, [.int 0, .ref q1, .ref q2, .ref q3, .ref q4, .int 0, .int 0, .int 0])), (q1, .inl (cI, 12, .inl (fun _ => 0))), (q2, .inl (cI, 12, .inl (fun _ => 0))), (q3, .inl (cI, 12, .inl (fun _ => 0))), (q4, .inl (cI, 12, .inl (fun _ => 0)))] H := hP
  have hD : va_D A [(aY, .inr (1, [.int 0, .ref q1, .ref q2, .ref q3, .ref q4, .int 0, .int 0, .int 0])), (q1, .inl (cI, 12, .inl (fun _ => 0))), (q2, .inl (cI, 12, .inl (fun _ => 0))), (q3, .inl (cI, 12, .inl (fun _ => 0))), (q4, .inl (cI, 12, .inl (fun _ => 0)))] := hD
  refine lv_aload_n hx hb dX1_init_46 rfl (lv_at hl 0 rfl) ?_
  refine lv_iconst (v := 0) hx hb dX1_init_47 (by decide +kernel) ?_
  refine va_put (D := D) (ci := 1) (v := .int 0) (ty := tyX1 6) (C := RX1) (T := TX1) (N := 8) hx hb htg iwG_1 tyX1 tyX1_ok nmX1 hown hE.1 hP hD hS 0 rfl rfl 6 (by decide) (htg _ wm_120) (fun _ h9 => h9) rfl (by decide +kernel) rfl rfl (Nat.le_of_ble_eq_true rfl) dX1_init_48 (fun H locs hP hD hS => ?_)
  have hP : va_P D vwCl [(aY, .inr (1, [.int 0, .ref q1, .ref q2, .ref q3, .ref q4, .int 0, .int 0, .int 0])), (q1, .inl (cI, 12, .inl (fun _ => 0))), (q2, .inl (cI, 12, .inl (fun _ => 0))), (q3, .inl (cI, 12, .inl (fun _ => 0))), (q4, .inl (cI, 12, .inl (fun _ => 0)))] H := hP
  have hD : va_D A [(aY, .inr (1, [.int 0, .ref q1, .ref q2, .ref q3, .ref q4, .int 0, .int 0, .int 0])), (q1, .inl (cI, 12, .inl (fun _ => 0))), (q2, .inl (cI, 12, .inl (fun _ => 0))), (q3, .inl (cI, 12, .inl (fun _ => 0))), (q4, .inl (cI, 12, .inl (fun _ => 0)))] := hD
  refine lv_aload_n hx hb dX1_init_51 rfl (lv_at hl 0 rfl) ?_
  refine lv_iconst (v := 0) hx hb dX1_init_52 (by decide +kernel) ?_
  refine va_put (D := D) (ci := 1) (v := .int 0) (ty := tyX1 7) (C := RX1) (T := TX1) (N := 8) hx hb htg iwG_1 tyX1 tyX1_ok nmX1 hown hE.1 hP hD hS 0 rfl rfl 7 (by decide) (htg _ wm_121) (fun _ h9 => h9) rfl (by decide +kernel) rfl rfl (Nat.le_of_ble_eq_true rfl) dX1_init_53 (fun H locs hP hD hS => ?_)
  have hP : va_P D vwCl [(aY, .inr (1, [.int 0, .ref q1, .ref q2, .ref q3, .ref q4, .int 0, .int 0, .int 0])), (q1, .inl (cI, 12, .inl (fun _ => 0))), (q2, .inl (cI, 12, .inl (fun _ => 0))), (q3, .inl (cI, 12, .inl (fun _ => 0))), (q4, .inl (cI, 12, .inl (fun _ => 0)))] H := hP
  have hD : va_D A [(aY, .inr (1, [.int 0, .ref q1, .ref q2, .ref q3, .ref q4, .int 0, .int 0, .int 0])), (q1, .inl (cI, 12, .inl (fun _ => 0))), (q2, .inl (cI, 12, .inl (fun _ => 0))), (q3, .inl (cI, 12, .inl (fun _ => 0))), (q4, .inl (cI, 12, .inl (fun _ => 0)))] := hD
  exact g_vret (fun z => [0, q1, q2, q3, q4].getD z 0) hF hr hlocks (hP.sub [0, 1, 2, 3, 4] rfl) (hD.sub [0, 1, 2, 3, 4] rfl rfl) hS trivial dX1_init_56 (Nat.le_of_ble_eq_true rfl) (Nat.le_of_ble_eq_true rfl)
set_option maxHeartbeats 8000000 in
set_option maxRecDepth 100000 in
theorem c_X7_init {l : Launch} {D : va_G} {cI cB cS cZ cW : ClassId} {aR : Nat} {aC : Nat}  {sz : Nat} : MV l D (gT cI cB cS cZ cW) yX7_init (wG yX7_init cX7_init 2 none) { frames := 1, cells := 2, slots := 1002, locals := 24 } [.ref aR, .ref aC] [(aR, .inr (7, [.null, .null, .null, .int 0, .int 0, .int 0, .int 0]))] sz (fun (u : Nat → Nat) => True) (fun (u : Nat → Nat) => [(aR, .inr (7, [.ref aC, .ref (u 1), .ref (u 2), .int 0, .int 0, .int (-1), .int (-1)])), ((u 1), .inl (cI, 501, .inl (fun _ => 0))), ((u 2), .inl (cI, 501, .inl (fun _ => 0)))] : (Nat → Nat) → va_W) 2 1002 := by
  refine g_enter (y := yX7_init) (w := (wG yX7_init cX7_init 2 none)) (As := [.ref aR, .ref aC]) (D := D) (T := gT cI cB cS cZ cW) (ws := [(aR, .inr (7, [.null, .null, .null, .int 0, .int 0, .int 0, .int 0]))]) (gQv D (fun (u : Nat → Nat) => True) (fun (u : Nat → Nat) => [(aR, .inr (7, [.ref aC, .ref (u 1), .ref (u 2), .int 0, .int 0, .int (-1), .int (-1)])), ((u 1), .inl (cI, 501, .inl (fun _ => 0))), ((u 2), .inl (cI, 501, .inl (fun _ => 0)))] : (Nat → Nat) → va_W)) (cc := cX7_init) (maxL := 2) (ret := none) (by decide) rfl (Nat.le_of_ble_eq_true rfl) ?_
  intro p e s m below meth c A ls hF hr hlocks hname hsz hE hA hP hD hS hl
  have hF : CallFix p m c cX7_init 2 s ([.ref aR, .ref aC] : List Value).toArray (wG yX7_init cX7_init 2 none) RX7 := hF
  obtain ⟨hx, hb, hml, hown, hts⟩ := id hF
  have htg : ∀ w ∈ GL, w.before ([.ref aR, .ref aC] : List Value).toArray s = true := fun w h => hts w (List.mem_cons_of_mem _ h)
  have hl : lv_has ls 2 [(0, .ref aR), (1, .ref aC)] := hl
  have zm1 := tm_1
  have z0 := t_0
  have z501 := t_501
  refine lv_aload_n hx hb dX7_init_0 rfl (lv_at hl 0 rfl) ?_
  refine W.objInit hx hb hown (htg _ wm_122) (htg _ wm_1) (htg _ wm_2) rfl (by rw [hml]; exact hl.1) rfl dX7_init_1 (Nat.le_of_ble_eq_true rfl) (Nat.le_of_ble_eq_true rfl) ?_
  refine W.eq (g2 := F0 m 4 ls ([])) rfl ?_
  refine lv_aload_n hx hb dX7_init_4 rfl (lv_at hl 0 rfl) ?_
  refine lv_sipush (v := 501) hx hb dX7_init_5 (by decide +kernel) ?_
  refine g_newa (T := gT cI cB cS cZ cW) (cA := cI) (t0 := 0) (atype := .int) (ty := .int) (a0 := (501, .inl (fun _ => 0))) hx hb rfl (fun _ h => by cases h) (htg _ wm_4) rfl hE hP hD hS hA (fun _ => rfl) (by decide +kernel) (by decide +kernel) (by decide +kernel) (Nat.le_of_ble_eq_true rfl) (Nat.le_of_ble_eq_true rfl) dX7_init_8 (fun q1 H hP hD hS => ?_)
  have hP : va_P D vwCl [(aR, .inr (7, [.null, .null, .null, .int 0, .int 0, .int 0, .int 0])), (q1, .inl (cI, 501, .inl (fun _ => 0)))] H := hP
  have hD : va_D A [(aR, .inr (7, [.null, .null, .null, .int 0, .int 0, .int 0, .int 0])), (q1, .inl (cI, 501, .inl (fun _ => 0)))] := hD
  refine W.widen (k := 1) (n := 501) (Nat.le_of_ble_eq_true rfl) (Nat.le_of_ble_eq_true rfl) ?_
  refine va_putF (D := D) (ci := 7) (v := .ref q1) (ty := tyX7 1) (C := RX7) (T := TX7) (N := 7) hx hb htg iwG_7 tyX7 tyX7_ok nmX7 hown hE.1 hP hD hS 0 rfl rfl 1 (by decide) (htg _ wm_123) (fun _ h9 => h9) rfl hname rfl (by decide +kernel) rfl rfl (Nat.le_of_ble_eq_true rfl) dX7_init_10 (fun H locs hP hD hS => ?_)
  have hP : va_P D vwCl [(aR, .inr (7, [.null, .ref q1, .null, .int 0, .int 0, .int 0, .int 0])), (q1, .inl (cI, 501, .inl (fun _ => 0)))] H := hP
  have hD : va_D A [(aR, .inr (7, [.null, .ref q1, .null, .int 0, .int 0, .int 0, .int 0])), (q1, .inl (cI, 501, .inl (fun _ => 0)))] := hD
  refine lv_aload_n hx hb dX7_init_13 rfl (lv_at hl 0 rfl) ?_
  refine lv_sipush (v := 501) hx hb dX7_init_14 (by decide +kernel) ?_
  refine g_newa (T := gT cI cB cS cZ cW) (cA := cI) (t0 := 0) (atype := .int) (ty := .int) (a0 := (501, .inl (fun _ => 0))) hx hb rfl (fun _ h => by cases h) (htg _ wm_4) rfl hE hP hD hS hA (fun _ => rfl) (by decide +kernel) (by decide +kernel) (by decide +kernel) (Nat.le_of_ble_eq_true rfl) (Nat.le_of_ble_eq_true rfl) dX7_init_17 (fun q2 H hP hD hS => ?_)
  have hP : va_P D vwCl [(aR, .inr (7, [.null, .ref q1, .null, .int 0, .int 0, .int 0, .int 0])), (q1, .inl (cI, 501, .inl (fun _ => 0))), (q2, .inl (cI, 501, .inl (fun _ => 0)))] H := hP
  have hD : va_D A [(aR, .inr (7, [.null, .ref q1, .null, .int 0, .int 0, .int 0, .int 0])), (q1, .inl (cI, 501, .inl (fun _ => 0))), (q2, .inl (cI, 501, .inl (fun _ => 0)))] := hD
  refine W.widen (k := 2) (n := 1002) (Nat.le_of_ble_eq_true rfl) (Nat.le_of_ble_eq_true rfl) ?_
  refine va_putF (D := D) (ci := 7) (v := .ref q2) (ty := tyX7 2) (C := RX7) (T := TX7) (N := 7) hx hb htg iwG_7 tyX7 tyX7_ok nmX7 hown hE.1 hP hD hS 0 rfl rfl 2 (by decide) (htg _ wm_124) (fun _ h9 => h9) rfl hname rfl (by decide +kernel) rfl rfl (Nat.le_of_ble_eq_true rfl) dX7_init_19 (fun H locs hP hD hS => ?_)
  have hP : va_P D vwCl [(aR, .inr (7, [.null, .ref q1, .ref q2, .int 0, .int 0, .int 0, .int 0])), (q1, .inl (cI, 501, .inl (fun _ => 0))), (q2, .inl (cI, 501, .inl (fun _ => 0)))] H := hP
  have hD : va_D A [(aR, .inr (7, [.null, .ref q1, .ref q2, .int 0, .int 0, .int 0, .int 0])), (q1, .inl (cI, 501, .inl (fun _ => 0))), (q2, .inl (cI, 501, .inl (fun _ => 0)))] := hD
  refine lv_aload_n hx hb dX7_init_22 rfl (lv_at hl 0 rfl) ?_
  refine lv_iconst (v := 0) hx hb dX7_init_23 (by decide +kernel) ?_
  refine va_put (D := D) (ci := 7) (v := .int 0) (ty := tyX7 3) (C := RX7) (T := TX7) (N := 7) hx hb htg iwG_7 tyX7 tyX7_ok nmX7 hown hE.1 hP hD hS 0 rfl rfl 3 (by decide) (htg _ wm_125) (fun _ h9 => h9) rfl (by decide +kernel) rfl rfl (Nat.le_of_ble_eq_true rfl) dX7_init_24 (fun H locs hP hD hS => ?_)
  have hP : va_P D vwCl [(aR, .inr (7, [.null, .ref q1, .ref q2, .int 0, .int 0, .int 0, .int 0])), (q1, .inl (cI, 501, .inl (fun _ => 0))), (q2, .inl (cI, 501, .inl (fun _ => 0)))] H := hP
  have hD : va_D A [(aR, .inr (7, [.null, .ref q1, .ref q2, .int 0, .int 0, .int 0, .int 0])), (q1, .inl (cI, 501, .inl (fun _ => 0))), (q2, .inl (cI, 501, .inl (fun _ => 0)))] := hD
  refine lv_aload_n hx hb dX7_init_27 rfl (lv_at hl 0 rfl) ?_
  refine lv_iconst (v := 0) hx hb dX7_init_28 (by decide +kernel) ?_
  refine va_put (D := D) (ci := 7) (v := .int 0) (ty := tyX7 4) (C := RX7) (T := TX7) (N := 7) hx hb htg iwG_7 tyX7 tyX7_ok nmX7 hown hE.1 hP hD hS 0 rfl rfl 4 (by decide) (htg _ wm_126) (fun _ h9 => h9) rfl (by decide +kernel) rfl rfl (Nat.le_of_ble_eq_true rfl) dX7_init_29 (fun H locs hP hD hS => ?_)
  have hP : va_P D vwCl [(aR, .inr (7, [.null, .ref q1, .ref q2, .int 0, .int 0, .int 0, .int 0])), (q1, .inl (cI, 501, .inl (fun _ => 0))), (q2, .inl (cI, 501, .inl (fun _ => 0)))] H := hP
  have hD : va_D A [(aR, .inr (7, [.null, .ref q1, .ref q2, .int 0, .int 0, .int 0, .int 0])), (q1, .inl (cI, 501, .inl (fun _ => 0))), (q2, .inl (cI, 501, .inl (fun _ => 0)))] := hD
  refine lv_aload_n hx hb dX7_init_32 rfl (lv_at hl 0 rfl) ?_
  refine lv_iconst (v := (-1)) hx hb dX7_init_33 (by decide +kernel) ?_
  refine va_put (D := D) (ci := 7) (v := .int (-1)) (ty := tyX7 5) (C := RX7) (T := TX7) (N := 7) hx hb htg iwG_7 tyX7 tyX7_ok nmX7 hown hE.1 hP hD hS 0 rfl rfl 5 (by decide) (htg _ wm_127) (fun _ h9 => h9) rfl (by decide +kernel) rfl rfl (Nat.le_of_ble_eq_true rfl) dX7_init_34 (fun H locs hP hD hS => ?_)
  have hP : va_P D vwCl [(aR, .inr (7, [.null, .ref q1, .ref q2, .int 0, .int 0, .int (-1), .int 0])), (q1, .inl (cI, 501, .inl (fun _ => 0))), (q2, .inl (cI, 501, .inl (fun _ => 0)))] H := hP
  have hD : va_D A [(aR, .inr (7, [.null, .ref q1, .ref q2, .int 0, .int 0, .int (-1), .int 0])), (q1, .inl (cI, 501, .inl (fun _ => 0))), (q2, .inl (cI, 501, .inl (fun _ => 0)))] := hD
  refine lv_aload_n hx hb dX7_init_37 rfl (lv_at hl 0 rfl) ?_
  refine lv_iconst (v := (-1)) hx hb dX7_init_38 (by decide +kernel) ?_
  refine va_put (D := D) (ci := 7) (v := .int (-1)) (ty := tyX7 6) (C := RX7) (T := TX7) (N := 7) hx hb htg iwG_7 tyX7 tyX7_ok nmX7 hown hE.1 hP hD hS 0 rfl rfl 6 (by decide) (htg _ wm_128) (fun _ h9 => h9) rfl (by decide +kernel) rfl rfl (Nat.le_of_ble_eq_true rfl) dX7_init_39 (fun H locs hP hD hS => ?_)
  have hP : va_P D vwCl [(aR, .inr (7, [.null, .ref q1, .ref q2, .int 0, .int 0, .int (-1), .int (-1)])), (q1, .inl (cI, 501, .inl (fun _ => 0))), (q2, .inl (cI, 501, .inl (fun _ => 0)))] H := hP
  have hD : va_D A [(aR, .inr (7, [.null, .ref q1, .ref q2, .int 0, .int 0, .int (-1), .int (-1)])), (q1, .inl (cI, 501, .inl (fun _ => 0))), (q2, .inl (cI, 501, .inl (fun _ => 0)))] := hD
  refine lv_aload_n hx hb dX7_init_42 rfl (lv_at hl 0 rfl) ?_
  refine lv_aload_n hx hb dX7_init_43 rfl (lv_at hl 1 rfl) ?_
  refine va_putF (D := D) (ci := 7) (v := .ref aC) (ty := tyX7 0) (C := RX7) (T := TX7) (N := 7) hx hb htg iwG_7 tyX7 tyX7_ok nmX7 hown hE.1 hP hD hS 0 rfl rfl 0 (by decide) (htg _ wm_129) (fun _ h9 => h9) rfl hname rfl (by decide +kernel) rfl rfl (Nat.le_of_ble_eq_true rfl) dX7_init_44 (fun H locs hP hD hS => ?_)
  have hP : va_P D vwCl [(aR, .inr (7, [.ref aC, .ref q1, .ref q2, .int 0, .int 0, .int (-1), .int (-1)])), (q1, .inl (cI, 501, .inl (fun _ => 0))), (q2, .inl (cI, 501, .inl (fun _ => 0)))] H := hP
  have hD : va_D A [(aR, .inr (7, [.ref aC, .ref q1, .ref q2, .int 0, .int 0, .int (-1), .int (-1)])), (q1, .inl (cI, 501, .inl (fun _ => 0))), (q2, .inl (cI, 501, .inl (fun _ => 0)))] := hD
  exact g_vret (fun z => [0, q1, q2].getD z 0) hF hr hlocks (hP.sub [0, 1, 2] rfl) (hD.sub [0, 1, 2] rfl rfl) hS trivial dX7_init_47 (Nat.le_of_ble_eq_true rfl) (Nat.le_of_ble_eq_true rfl)
set_option maxHeartbeats 8000000 in
set_option maxRecDepth 100000 in
theorem c_X9_has {l : Launch} {D : va_G} {cI cB cS cZ cW : ClassId} {aT : Nat} {y0 : Int32} {qT : Nat → Nat}  {sz : Nat} : MI l D (gT cI cB cS cZ cW) yX9_has (wG yX9_has cX9_has 2 (some .boolean)) { frames := 0, cells := 0, slots := 0, locals := 0 } [.ref aT, .int y0] [(aT, .inr (9, [.int 0, .ref (qT 1), .ref (qT 2), .ref (qT 3), .ref (qT 4), .ref (qT 5), .ref (qT 6), .ref (qT 7), .ref (qT 8)]))] sz (fun (r : Int32) (u : Unit) => r = 0) (fun (u : Unit) => [(aT, .inr (9, [.int 0, .ref (qT 1), .ref (qT 2), .ref (qT 3), .ref (qT 4), .ref (qT 5), .ref (qT 6), .ref (qT 7), .ref (qT 8)]))] : (Unit) → va_W) 0 0 := by
  refine g_enter (y := yX9_has) (w := (wG yX9_has cX9_has 2 (some .boolean))) (As := [.ref aT, .int y0]) (D := D) (T := gT cI cB cS cZ cW) (ws := [(aT, .inr (9, [.int 0, .ref (qT 1), .ref (qT 2), .ref (qT 3), .ref (qT 4), .ref (qT 5), .ref (qT 6), .ref (qT 7), .ref (qT 8)]))]) (gQi D (fun (r : Int32) (u : Unit) => r = 0) (fun (u : Unit) => [(aT, .inr (9, [.int 0, .ref (qT 1), .ref (qT 2), .ref (qT 3), .ref (qT 4), .ref (qT 5), .ref (qT 6), .ref (qT 7), .ref (qT 8)]))] : (Unit) → va_W)) (cc := cX9_has) (maxL := 2) (ret := (some .boolean)) (by decide) rfl (Nat.le_of_ble_eq_true rfl) ?_
  intro p e s m below meth c A ls hF hr hlocks hname hsz hE hA hP hD hS hl
  have hF : CallFix p m c cX9_has 2 s ([.ref aT, .int y0] : List Value).toArray (wG yX9_has cX9_has 2 (some .boolean)) RX9 := hF
  obtain ⟨hx, hb, hml, hown, hts⟩ := id hF
  have htg : ∀ w ∈ GL, w.before ([.ref aT, .int y0] : List Value).toArray s = true := fun w h => hts w (List.mem_cons_of_mem _ h)
  have hl : lv_has ls 2 [(0, .ref aT), (1, .int y0)] := hl
  have z0 := t_0
  refine lv_iload_n hx hb dX9_has_0 rfl (lv_at hl 1 rfl) ?_
  refine lv_if_lt (tgt := 16) hx hb dX9_has_1 (by decide) (fun c1 => ?_) (fun c1 => ?_)
  · rw [i_lt] at c1
    refine lv_iconst (v := 0) hx hb dX9_has_16 (by decide +kernel) ?_
    exact g_iret () hF hr rfl hlocks (hP.sub [0] rfl) (hD.sub [0] rfl rfl) hS rfl dX9_has_17 (Nat.le_of_ble_eq_true rfl) (Nat.le_of_ble_eq_true rfl)
  · rw [i_lt] at c1
    refine lv_iload_n hx hb dX9_has_4 rfl (lv_at hl 1 rfl) ?_
    refine lv_aload_n hx hb dX9_has_5 rfl (lv_at hl 0 rfl) ?_
    refine va_get (D := D) (ci := 9) (v := .int 0) (C := RX9) (T := TX9) (N := 9) hx hb htg iwG_9 hown hE.1 hP 0 rfl rfl 0 (by decide) (htg _ wm_3) (fun _ h9 => h9) rfl dX9_has_6 ?_
    refine lv_icmp_ge (tgt := 16) hx hb dX9_has_9 (by decide) (fun _ => ?_) (fun c9 => absurd (i_le.mpr (by omega)) c9)
    refine lv_iconst (v := 0) hx hb dX9_has_16 (by decide +kernel) ?_
    exact g_iret () hF hr rfl hlocks (hP.sub [0] rfl) (hD.sub [0] rfl rfl) hS rfl dX9_has_17 (Nat.le_of_ble_eq_true rfl) (Nat.le_of_ble_eq_true rfl)
set_option maxHeartbeats 8000000 in
set_option maxRecDepth 100000 in
theorem c_X9_has_m {l : Launch} {D : va_G} {cI cB cS cZ cW : ClassId} {aT : Nat} {y0 : Int32} {qT : Nat → Nat}  {sz : Nat} : MI l D (gT cI cB cS cZ cW) yX9_has (wG yX9_has cX9_has 2 (some .boolean)) { frames := 0, cells := 0, slots := 0, locals := 0 } [.ref aT, .int (-1)] [(aT, .inr (9, [.int y0, .ref (qT 1), .ref (qT 2), .ref (qT 3), .ref (qT 4), .ref (qT 5), .ref (qT 6), .ref (qT 7), .ref (qT 8)]))] sz (fun (r : Int32) (u : Unit) => r = 0) (fun (u : Unit) => [(aT, .inr (9, [.int y0, .ref (qT 1), .ref (qT 2), .ref (qT 3), .ref (qT 4), .ref (qT 5), .ref (qT 6), .ref (qT 7), .ref (qT 8)]))] : (Unit) → va_W) 0 0 := by
  refine g_enter (y := yX9_has) (w := (wG yX9_has cX9_has 2 (some .boolean))) (As := [.ref aT, .int (-1)]) (D := D) (T := gT cI cB cS cZ cW) (ws := [(aT, .inr (9, [.int y0, .ref (qT 1), .ref (qT 2), .ref (qT 3), .ref (qT 4), .ref (qT 5), .ref (qT 6), .ref (qT 7), .ref (qT 8)]))]) (gQi D (fun (r : Int32) (u : Unit) => r = 0) (fun (u : Unit) => [(aT, .inr (9, [.int y0, .ref (qT 1), .ref (qT 2), .ref (qT 3), .ref (qT 4), .ref (qT 5), .ref (qT 6), .ref (qT 7), .ref (qT 8)]))] : (Unit) → va_W)) (cc := cX9_has) (maxL := 2) (ret := (some .boolean)) (by decide) rfl (Nat.le_of_ble_eq_true rfl) ?_
  intro p e s m below meth c A ls hF hr hlocks hname hsz hE hA hP hD hS hl
  have hF : CallFix p m c cX9_has 2 s ([.ref aT, .int (-1)] : List Value).toArray (wG yX9_has cX9_has 2 (some .boolean)) RX9 := hF
  obtain ⟨hx, hb, hml, hown, hts⟩ := id hF
  have htg : ∀ w ∈ GL, w.before ([.ref aT, .int (-1)] : List Value).toArray s = true := fun w h => hts w (List.mem_cons_of_mem _ h)
  have hl : lv_has ls 2 [(0, .ref aT), (1, .int (-1))] := hl
  have zm1 := tm_1
  have z0 := t_0
  refine lv_iload_n hx hb dX9_has_0 rfl (lv_at hl 1 rfl) ?_
  refine lv_if_lt (tgt := 16) hx hb dX9_has_1 (by decide) (fun _ => ?_) (fun c9 => absurd c9 (by decide +kernel))
  refine lv_iconst (v := 0) hx hb dX9_has_16 (by decide +kernel) ?_
  exact g_iret () hF hr rfl hlocks (hP.sub [0] rfl) (hD.sub [0] rfl rfl) hS rfl dX9_has_17 (Nat.le_of_ble_eq_true rfl) (Nat.le_of_ble_eq_true rfl)
set_option maxHeartbeats 8000000 in
set_option maxRecDepth 100000 in
theorem c_X9_hasParent {l : Launch} {D : va_G} {cI cB cS cZ cW : ClassId} {aT : Nat} {y0 : Int32} {qT : Nat → Nat}  {sz : Nat} : MI l D (gT cI cB cS cZ cW) yX9_hasParent (wG yX9_hasParent cX9_hasParent 2 (some .boolean)) { frames := 1, cells := 0, slots := 0, locals := 21 } [.ref aT, .int y0] [(aT, .inr (9, [.int 0, .ref (qT 1), .ref (qT 2), .ref (qT 3), .ref (qT 4), .ref (qT 5), .ref (qT 6), .ref (qT 7), .ref (qT 8)]))] sz (fun (r : Int32) (u : Unit) => r = 0) (fun (u : Unit) => [(aT, .inr (9, [.int 0, .ref (qT 1), .ref (qT 2), .ref (qT 3), .ref (qT 4), .ref (qT 5), .ref (qT 6), .ref (qT 7), .ref (qT 8)]))] : (Unit) → va_W) 0 0 := by
  refine g_enter (y := yX9_hasParent) (w := (wG yX9_hasParent cX9_hasParent 2 (some .boolean))) (As := [.ref aT, .int y0]) (D := D) (T := gT cI cB cS cZ cW) (ws := [(aT, .inr (9, [.int 0, .ref (qT 1), .ref (qT 2), .ref (qT 3), .ref (qT 4), .ref (qT 5), .ref (qT 6), .ref (qT 7), .ref (qT 8)]))]) (gQi D (fun (r : Int32) (u : Unit) => r = 0) (fun (u : Unit) => [(aT, .inr (9, [.int 0, .ref (qT 1), .ref (qT 2), .ref (qT 3), .ref (qT 4), .ref (qT 5), .ref (qT 6), .ref (qT 7), .ref (qT 8)]))] : (Unit) → va_W)) (cc := cX9_hasParent) (maxL := 2) (ret := (some .boolean)) (by decide) rfl (Nat.le_of_ble_eq_true rfl) ?_
  intro p e s m below meth c A ls hF hr hlocks hname hsz hE hA hP hD hS hl
  have hF : CallFix p m c cX9_hasParent 2 s ([.ref aT, .int y0] : List Value).toArray (wG yX9_hasParent cX9_hasParent 2 (some .boolean)) RX9 := hF
  obtain ⟨hx, hb, hml, hown, hts⟩ := id hF
  have htg : ∀ w ∈ GL, w.before ([.ref aT, .int y0] : List Value).toArray s = true := fun w h => hts w (List.mem_cons_of_mem _ h)
  have hl : lv_has ls 2 [(0, .ref aT), (1, .int y0)] := hl
  have z0 := t_0
  refine lv_aload_n hx hb dX9_hasParent_0 rfl (lv_at hl 0 rfl) ?_
  refine lv_iload_n hx hb dX9_hasParent_1 rfl (lv_at hl 1 rfl) ?_
  refine g_ai (D := D) (wc := [(aT, .inr (9, [.int 0, .ref (qT 1), .ref (qT 2), .ref (qT 3), .ref (qT 4), .ref (qT 5), .ref (qT 6), .ref (qT 7), .ref (qT 8)]))]) (wr := []) hP hD hS hA [0] [] rfl rfl rfl rfl (by decide) (fun hPc hDc => va_runV (As := [.int y0]) (rest := []) hF (c_X9_has (l := l) (D := D) (cI := cI) (cB := cB) (cS := cS) (cZ := cZ) (cW := cW) (aT := aT) (y0 := y0) (qT := qT)) (cwV 1 hts (gGV (fun _ h => List.mem_cons_of_mem _ h) wm_130 wm_131 wm_132 wm_75 wm_133) rfl rfl rfl (by decide +kernel) ⟨Nat.le_of_ble_eq_true rfl, Nat.le_of_ble_eq_true rfl⟩) (g_preV (q := (RX9, TX9, 9)) (ci := 9) (q0 := 0) hE hPc hDc rfl rfl) rfl rfl hl.1 rfl (lv_room (Nat.le_of_ble_eq_true rfl)) dX9_hasParent_2 ⟨Nat.le_of_ble_eq_true rfl, Nat.le_of_ble_eq_true rfl⟩) (fun r1 u2 H locs p3 hP hD hS => ?_)
  have hP : va_P D vwCl [(aT, .inr (9, [.int 0, .ref (qT 1), .ref (qT 2), .ref (qT 3), .ref (qT 4), .ref (qT 5), .ref (qT 6), .ref (qT 7), .ref (qT 8)]))] H := hP
  have hD : va_D A [(aT, .inr (9, [.int 0, .ref (qT 1), .ref (qT 2), .ref (qT 3), .ref (qT 4), .ref (qT 5), .ref (qT 6), .ref (qT 7), .ref (qT 8)]))] := hD
  obtain rfl := p3
  refine lv_if_eq (tgt := 25) hx hb dX9_hasParent_5 (by decide) (fun _ => ?_) (fun c9 => absurd c9 (by decide +kernel))
  refine lv_iconst (v := 0) hx hb dX9_hasParent_25 (by decide +kernel) ?_
  exact g_iret () hF hr rfl hlocks (hP.sub [0] rfl) (hD.sub [0] rfl rfl) hS rfl dX9_hasParent_26 (Nat.le_of_ble_eq_true rfl) (Nat.le_of_ble_eq_true rfl)
set_option maxHeartbeats 8000000 in
set_option maxRecDepth 100000 in
theorem c_X9_wordOf_m {l : Launch} {D : va_G} {cI cB cS cZ cW : ClassId} {aT : Nat} {y1 : Int32} {y0 : Int32} {qT : Nat → Nat}  {sz : Nat} : MI l D (gT cI cB cS cZ cW) yX9_wordOf (wG yX9_wordOf cX9_wordOf 3 (some .int)) { frames := 1, cells := 0, slots := 0, locals := 21 } [.ref aT, .int (-1), .int y1] [(aT, .inr (9, [.int y0, .ref (qT 1), .ref (qT 2), .ref (qT 3), .ref (qT 4), .ref (qT 5), .ref (qT 6), .ref (qT 7), .ref (qT 8)]))] sz (fun (r : Int32) (u : Unit) => r = 0) (fun (u : Unit) => [(aT, .inr (9, [.int y0, .ref (qT 1), .ref (qT 2), .ref (qT 3), .ref (qT 4), .ref (qT 5), .ref (qT 6), .ref (qT 7), .ref (qT 8)]))] : (Unit) → va_W) 0 0 := by
  refine g_enter (y := yX9_wordOf) (w := (wG yX9_wordOf cX9_wordOf 3 (some .int))) (As := [.ref aT, .int (-1), .int y1]) (D := D) (T := gT cI cB cS cZ cW) (ws := [(aT, .inr (9, [.int y0, .ref (qT 1), .ref (qT 2), .ref (qT 3), .ref (qT 4), .ref (qT 5), .ref (qT 6), .ref (qT 7), .ref (qT 8)]))]) (gQi D (fun (r : Int32) (u : Unit) => r = 0) (fun (u : Unit) => [(aT, .inr (9, [.int y0, .ref (qT 1), .ref (qT 2), .ref (qT 3), .ref (qT 4), .ref (qT 5), .ref (qT 6), .ref (qT 7), .ref (qT 8)]))] : (Unit) → va_W)) (cc := cX9_wordOf) (maxL := 3) (ret := (some .int)) (by decide) rfl (Nat.le_of_ble_eq_true rfl) ?_
  intro p e s m below meth c A ls hF hr hlocks hname hsz hE hA hP hD hS hl
  have hF : CallFix p m c cX9_wordOf 3 s ([.ref aT, .int (-1), .int y1] : List Value).toArray (wG yX9_wordOf cX9_wordOf 3 (some .int)) RX9 := hF
  obtain ⟨hx, hb, hml, hown, hts⟩ := id hF
  have htg : ∀ w ∈ GL, w.before ([.ref aT, .int (-1), .int y1] : List Value).toArray s = true := fun w h => hts w (List.mem_cons_of_mem _ h)
  have hl : lv_has ls 3 [(0, .ref aT), (1, .int (-1)), (2, .int y1)] := hl
  have z0 := t_0
  refine lv_aload_n hx hb dX9_wordOf_0 rfl (lv_at hl 0 rfl) ?_
  refine lv_iload_n hx hb dX9_wordOf_1 rfl (lv_at hl 1 rfl) ?_
  refine g_ai (D := D) (wc := [(aT, .inr (9, [.int y0, .ref (qT 1), .ref (qT 2), .ref (qT 3), .ref (qT 4), .ref (qT 5), .ref (qT 6), .ref (qT 7), .ref (qT 8)]))]) (wr := []) hP hD hS hA [0] [] rfl rfl rfl rfl (by decide) (fun hPc hDc => va_runV (As := [.int (-1)]) (rest := []) hF (c_X9_has_m (l := l) (D := D) (cI := cI) (cB := cB) (cS := cS) (cZ := cZ) (cW := cW) (aT := aT) (y0 := y0) (qT := qT)) (cwV 1 hts (gGV (fun _ h => List.mem_cons_of_mem _ h) wm_130 wm_131 wm_132 wm_75 wm_133) rfl rfl rfl (by decide +kernel) ⟨Nat.le_of_ble_eq_true rfl, Nat.le_of_ble_eq_true rfl⟩) (g_preV (q := (RX9, TX9, 9)) (ci := 9) (q0 := 0) hE hPc hDc rfl rfl) rfl rfl hl.1 rfl (lv_room (Nat.le_of_ble_eq_true rfl)) dX9_wordOf_2 ⟨Nat.le_of_ble_eq_true rfl, Nat.le_of_ble_eq_true rfl⟩) (fun r1 u2 H locs p3 hP hD hS => ?_)
  have hP : va_P D vwCl [(aT, .inr (9, [.int y0, .ref (qT 1), .ref (qT 2), .ref (qT 3), .ref (qT 4), .ref (qT 5), .ref (qT 6), .ref (qT 7), .ref (qT 8)]))] H := hP
  have hD : va_D A [(aT, .inr (9, [.int y0, .ref (qT 1), .ref (qT 2), .ref (qT 3), .ref (qT 4), .ref (qT 5), .ref (qT 6), .ref (qT 7), .ref (qT 8)]))] := hD
  obtain rfl := p3
  refine lv_if_eq (tgt := 32) hx hb dX9_wordOf_5 (by decide) (fun _ => ?_) (fun c9 => absurd c9 (by decide +kernel))
  refine lv_iconst (v := 0) hx hb dX9_wordOf_32 (by decide +kernel) ?_
  exact g_iret () hF hr rfl hlocks (hP.sub [0] rfl) (hD.sub [0] rfl rfl) hS rfl dX9_wordOf_33 (Nat.le_of_ble_eq_true rfl) (Nat.le_of_ble_eq_true rfl)
set_option maxHeartbeats 8000000 in
set_option maxRecDepth 100000 in
theorem c_X9_wordOf {l : Launch} {D : va_G} {cI cB cS cZ cW : ClassId} {aT : Nat} {y0 : Int32} {y1 : Int32} {qT : Nat → Nat}  {sz : Nat} : MI l D (gT cI cB cS cZ cW) yX9_wordOf (wG yX9_wordOf cX9_wordOf 3 (some .int)) { frames := 1, cells := 0, slots := 0, locals := 21 } [.ref aT, .int y0, .int y1] [(aT, .inr (9, [.int 0, .ref (qT 1), .ref (qT 2), .ref (qT 3), .ref (qT 4), .ref (qT 5), .ref (qT 6), .ref (qT 7), .ref (qT 8)]))] sz (fun (r : Int32) (u : Unit) => r = 0) (fun (u : Unit) => [(aT, .inr (9, [.int 0, .ref (qT 1), .ref (qT 2), .ref (qT 3), .ref (qT 4), .ref (qT 5), .ref (qT 6), .ref (qT 7), .ref (qT 8)]))] : (Unit) → va_W) 0 0 := by
  refine g_enter (y := yX9_wordOf) (w := (wG yX9_wordOf cX9_wordOf 3 (some .int))) (As := [.ref aT, .int y0, .int y1]) (D := D) (T := gT cI cB cS cZ cW) (ws := [(aT, .inr (9, [.int 0, .ref (qT 1), .ref (qT 2), .ref (qT 3), .ref (qT 4), .ref (qT 5), .ref (qT 6), .ref (qT 7), .ref (qT 8)]))]) (gQi D (fun (r : Int32) (u : Unit) => r = 0) (fun (u : Unit) => [(aT, .inr (9, [.int 0, .ref (qT 1), .ref (qT 2), .ref (qT 3), .ref (qT 4), .ref (qT 5), .ref (qT 6), .ref (qT 7), .ref (qT 8)]))] : (Unit) → va_W)) (cc := cX9_wordOf) (maxL := 3) (ret := (some .int)) (by decide) rfl (Nat.le_of_ble_eq_true rfl) ?_
  intro p e s m below meth c A ls hF hr hlocks hname hsz hE hA hP hD hS hl
  have hF : CallFix p m c cX9_wordOf 3 s ([.ref aT, .int y0, .int y1] : List Value).toArray (wG yX9_wordOf cX9_wordOf 3 (some .int)) RX9 := hF
  obtain ⟨hx, hb, hml, hown, hts⟩ := id hF
  have htg : ∀ w ∈ GL, w.before ([.ref aT, .int y0, .int y1] : List Value).toArray s = true := fun w h => hts w (List.mem_cons_of_mem _ h)
  have hl : lv_has ls 3 [(0, .ref aT), (1, .int y0), (2, .int y1)] := hl
  have z0 := t_0
  refine lv_aload_n hx hb dX9_wordOf_0 rfl (lv_at hl 0 rfl) ?_
  refine lv_iload_n hx hb dX9_wordOf_1 rfl (lv_at hl 1 rfl) ?_
  refine g_ai (D := D) (wc := [(aT, .inr (9, [.int 0, .ref (qT 1), .ref (qT 2), .ref (qT 3), .ref (qT 4), .ref (qT 5), .ref (qT 6), .ref (qT 7), .ref (qT 8)]))]) (wr := []) hP hD hS hA [0] [] rfl rfl rfl rfl (by decide) (fun hPc hDc => va_runV (As := [.int y0]) (rest := []) hF (c_X9_has (l := l) (D := D) (cI := cI) (cB := cB) (cS := cS) (cZ := cZ) (cW := cW) (aT := aT) (y0 := y0) (qT := qT)) (cwV 1 hts (gGV (fun _ h => List.mem_cons_of_mem _ h) wm_130 wm_131 wm_132 wm_75 wm_133) rfl rfl rfl (by decide +kernel) ⟨Nat.le_of_ble_eq_true rfl, Nat.le_of_ble_eq_true rfl⟩) (g_preV (q := (RX9, TX9, 9)) (ci := 9) (q0 := 0) hE hPc hDc rfl rfl) rfl rfl hl.1 rfl (lv_room (Nat.le_of_ble_eq_true rfl)) dX9_wordOf_2 ⟨Nat.le_of_ble_eq_true rfl, Nat.le_of_ble_eq_true rfl⟩) (fun r1 u2 H locs p3 hP hD hS => ?_)
  have hP : va_P D vwCl [(aT, .inr (9, [.int 0, .ref (qT 1), .ref (qT 2), .ref (qT 3), .ref (qT 4), .ref (qT 5), .ref (qT 6), .ref (qT 7), .ref (qT 8)]))] H := hP
  have hD : va_D A [(aT, .inr (9, [.int 0, .ref (qT 1), .ref (qT 2), .ref (qT 3), .ref (qT 4), .ref (qT 5), .ref (qT 6), .ref (qT 7), .ref (qT 8)]))] := hD
  obtain rfl := p3
  refine lv_if_eq (tgt := 32) hx hb dX9_wordOf_5 (by decide) (fun _ => ?_) (fun c9 => absurd c9 (by decide +kernel))
  refine lv_iconst (v := 0) hx hb dX9_wordOf_32 (by decide +kernel) ?_
  exact g_iret () hF hr rfl hlocks (hP.sub [0] rfl) (hD.sub [0] rfl rfl) hS rfl dX9_wordOf_33 (Nat.le_of_ble_eq_true rfl) (Nat.le_of_ble_eq_true rfl)
set_option maxHeartbeats 8000000 in
set_option maxRecDepth 100000 in
theorem c_X9_setWord {l : Launch} {D : va_G} {cI cB cS cZ cW : ClassId} {aT : Nat} {y0 : Int32} {qT : Nat → Nat} {gb : Nat → Int32} {gc : Nat → Int32} (hy0 : 0 ≤ y0.toInt ∧ y0.toInt ≤ 23) {sz : Nat} : MV l D (gT cI cB cS cZ cW) yX9_setWord (wG yX9_setWord cX9_setWord 5 none) { frames := 0, cells := 0, slots := 0, locals := 0 } [.ref aT, .int 0, .int y0, .int 0] [(aT, .inr (9, [.int 1, .ref (qT 1), .ref (qT 2), .ref (qT 3), .ref (qT 4), .ref (qT 5), .ref (qT 6), .ref (qT 7), .ref (qT 8)])), ((qT 6), .inl (cI, 144, .inl gb)), ((qT 7), .inl (cI, 6, .inl gc))] sz (fun (u : (Nat → Int32) × (Nat → Int32)) => True) (fun (u : (Nat → Int32) × (Nat → Int32)) => [(aT, .inr (9, [.int 1, .ref (qT 1), .ref (qT 2), .ref (qT 3), .ref (qT 4), .ref (qT 5), .ref (qT 6), .ref (qT 7), .ref (qT 8)])), ((qT 6), .inl (cI, 144, .inl u.1)), ((qT 7), .inl (cI, 6, .inl u.2))] : ((Nat → Int32) × (Nat → Int32)) → va_W) 0 0 := by
  refine g_enter (y := yX9_setWord) (w := (wG yX9_setWord cX9_setWord 5 none)) (As := [.ref aT, .int 0, .int y0, .int 0]) (D := D) (T := gT cI cB cS cZ cW) (ws := [(aT, .inr (9, [.int 1, .ref (qT 1), .ref (qT 2), .ref (qT 3), .ref (qT 4), .ref (qT 5), .ref (qT 6), .ref (qT 7), .ref (qT 8)])), ((qT 6), .inl (cI, 144, .inl gb)), ((qT 7), .inl (cI, 6, .inl gc))]) (gQv D (fun (u : (Nat → Int32) × (Nat → Int32)) => True) (fun (u : (Nat → Int32) × (Nat → Int32)) => [(aT, .inr (9, [.int 1, .ref (qT 1), .ref (qT 2), .ref (qT 3), .ref (qT 4), .ref (qT 5), .ref (qT 6), .ref (qT 7), .ref (qT 8)])), ((qT 6), .inl (cI, 144, .inl u.1)), ((qT 7), .inl (cI, 6, .inl u.2))] : ((Nat → Int32) × (Nat → Int32)) → va_W)) (cc := cX9_setWord) (maxL := 5) (ret := none) (by decide) rfl (Nat.le_of_ble_eq_true rfl) ?_
  intro p e s m below meth c A ls hF hr hlocks hname hsz hE hA hP hD hS hl
  have hF : CallFix p m c cX9_setWord 5 s ([.ref aT, .int 0, .int y0, .int 0] : List Value).toArray (wG yX9_setWord cX9_setWord 5 none) RX9 := hF
  obtain ⟨hx, hb, hml, hown, hts⟩ := id hF
  have htg : ∀ w ∈ GL, w.before ([.ref aT, .int 0, .int y0, .int 0] : List Value).toArray s = true := fun w h => hts w (List.mem_cons_of_mem _ h)
  have hl : lv_has ls 5 [(0, .ref aT), (1, .int 0), (2, .int y0), (3, .int 0)] := hl
  have zm1 := tm_1
  have z0 := t_0
  have z1 := t_1
  have z24 := t_24
  refine lv_aload_n hx hb dX9_setWord_0 rfl (lv_at hl 0 rfl) ?_
  refine va_get (D := D) (ci := 9) (v := .ref (qT 6)) (C := RX9) (T := TX9) (N := 9) hx hb htg iwG_9 hown hE.1 hP 0 rfl rfl 6 (by decide) (htg _ wm_10) (fun _ h9 => h9) rfl dX9_setWord_1 ?_
  refine lv_iload_n hx hb dX9_setWord_4 rfl (lv_at hl 1 rfl) ?_
  refine lv_bipush (v := 24) hx hb dX9_setWord_5 (by decide +kernel) ?_
  refine lv_imul hx hb dX9_setWord_7 ?_
  refine g_top 0 (by decide +kernel) ?_
  refine lv_iload_n hx hb dX9_setWord_8 rfl (lv_at hl 2 rfl) ?_
  refine lv_iadd hx hb dX9_setWord_9 ?_
  refine lv_topi (fun v1 ev1 => ?_)
  have iv1 : v1.toInt = (0 : Int32).toInt + (y0 : Int32).toInt := by rw [ev1]; exact fb_addI (by omega) (by omega)
  refine lv_iload_n hx hb dX9_setWord_10 rfl (lv_at hl 3 rfl) ?_
  refine va_iast hx hb hE.1 hP hD hS 1 0 rfl rfl (vp_in_iff.mpr ⟨by omega, by omega⟩) dX9_setWord_11 (fun H locs hP hD hS => ?_)
  obtain ⟨g2, eg2⟩ : ∃ gz : Nat → Int32, gz = upd gb (v1 : Int32).toNatClampNeg 0 := ⟨_, rfl⟩
  have hP : va_P D vwCl [(aT, .inr (9, [.int 1, .ref (qT 1), .ref (qT 2), .ref (qT 3), .ref (qT 4), .ref (qT 5), .ref (qT 6), .ref (qT 7), .ref (qT 8)])), ((qT 6), .inl (cI, 144, .inl g2)), ((qT 7), .inl (cI, 6, .inl gc))] H := by rw [eg2]; exact hP
  have hD : va_D A [(aT, .inr (9, [.int 1, .ref (qT 1), .ref (qT 2), .ref (qT 3), .ref (qT 4), .ref (qT 5), .ref (qT 6), .ref (qT 7), .ref (qT 8)])), ((qT 6), .inl (cI, 144, .inl g2)), ((qT 7), .inl (cI, 6, .inl gc))] := by rw [eg2]; exact hD
  refine lv_aload_n hx hb dX9_setWord_12 rfl (lv_at hl 0 rfl) ?_
  refine va_get (D := D) (ci := 9) (v := .ref (qT 7)) (C := RX9) (T := TX9) (N := 9) hx hb htg iwG_9 hown hE.1 hP 0 rfl rfl 7 (by decide) (htg _ wm_11) (fun _ h9 => h9) rfl dX9_setWord_13 ?_
  refine lv_iload_n hx hb dX9_setWord_16 rfl (lv_at hl 1 rfl) ?_
  refine va_iald hx hb hE.1 hP 2 0 rfl rfl (vp_in_iff.mpr ⟨by decide +kernel, by decide +kernel⟩) dX9_setWord_17 ?_
  refine lv_topi (fun v3 ev3 => ?_)
  refine lv_iconst (v := 1) hx hb dX9_setWord_18 (by decide +kernel) ?_
  refine lv_iload_n hx hb dX9_setWord_19 rfl (lv_at hl 2 rfl) ?_
  refine lv_ishl hx hb dX9_setWord_20 ?_
  refine lv_topi (fun v4 ev4 => ?_)
  refine lv_iconst (v := (-1)) hx hb dX9_setWord_21 (by decide +kernel) ?_
  refine lv_ixor hx hb dX9_setWord_22 ?_
  refine lv_topi (fun v5 ev5 => ?_)
  refine lv_iand hx hb dX9_setWord_23 ?_
  refine lv_topi (fun v6 ev6 => ?_)
  refine lv_istore (lv' := [(4, .int v6), (0, .ref aT), (1, .int 0), (2, .int y0), (3, .int 0)]) hx hb dX9_setWord_24 hl (by decide) rfl (fun ls hl => ?_)
  refine lv_aload_n hx hb dX9_setWord_26 rfl (lv_at hl 1 rfl) ?_
  refine va_get (D := D) (ci := 9) (v := .ref (qT 7)) (C := RX9) (T := TX9) (N := 9) hx hb htg iwG_9 hown hE.1 hP 0 rfl rfl 7 (by decide) (htg _ wm_11) (fun _ h9 => h9) rfl dX9_setWord_27 ?_
  refine lv_iload_n hx hb dX9_setWord_30 rfl (lv_at hl 2 rfl) ?_
  refine lv_iload_n hx hb dX9_setWord_31 rfl (lv_at hl 4 rfl) ?_
  refine lv_if_ne (tgt := 40) hx hb dX9_setWord_32 (by decide) (fun c9 => absurd c9 (by decide +kernel)) (fun _ => ?_)
  refine lv_iload hx hb dX9_setWord_35 (lv_at hl 0 rfl) ?_
  refine lv_goto (tgt := 46) hx hb dX9_setWord_37 (by decide) ?_
  refine va_iast hx hb hE.1 hP hD hS 2 0 rfl rfl (vp_in_iff.mpr ⟨by decide +kernel, by decide +kernel⟩) dX9_setWord_46 (fun H locs hP hD hS => ?_)
  obtain ⟨g7, eg7⟩ : ∃ gz : Nat → Int32, gz = upd gc (0 : Int32).toNatClampNeg v6 := ⟨_, rfl⟩
  have hP : va_P D vwCl [(aT, .inr (9, [.int 1, .ref (qT 1), .ref (qT 2), .ref (qT 3), .ref (qT 4), .ref (qT 5), .ref (qT 6), .ref (qT 7), .ref (qT 8)])), ((qT 6), .inl (cI, 144, .inl g2)), ((qT 7), .inl (cI, 6, .inl g7))] H := by rw [eg7]; exact hP
  have hD : va_D A [(aT, .inr (9, [.int 1, .ref (qT 1), .ref (qT 2), .ref (qT 3), .ref (qT 4), .ref (qT 5), .ref (qT 6), .ref (qT 7), .ref (qT 8)])), ((qT 6), .inl (cI, 144, .inl g2)), ((qT 7), .inl (cI, 6, .inl g7))] := by rw [eg7]; exact hD
  exact g_vret (g2, g7) hF hr hlocks (hP.sub [0, 1, 2] rfl) (hD.sub [0, 1, 2] rfl rfl) hS trivial dX9_setWord_47 (Nat.le_of_ble_eq_true rfl) (Nat.le_of_ble_eq_true rfl)
set_option maxHeartbeats 8000000 in
set_option maxRecDepth 100000 in
theorem c_X9_refreshMeaning {l : Launch} {D : va_G} {cI cB cS cZ cW : ClassId} {aT : Nat} {y0 : Int32} {qT : Nat → Nat} {g : Nat → Int32} {gb : Nat → Int32} {gc : Nat → Int32} (hy0 : 0 ≤ y0.toInt ∧ y0.toInt ≤ 23) (hg : g (0 : Int32).toNatClampNeg = (-1)) {sz : Nat} : MV l D (gT cI cB cS cZ cW) yX9_refreshMeaning (wG yX9_refreshMeaning cX9_refreshMeaning 7 none) { frames := 2, cells := 0, slots := 0, locals := 43 } [.ref aT, .int 0, .int y0] [(aT, .inr (9, [.int 1, .ref (qT 1), .ref (qT 2), .ref (qT 3), .ref (qT 4), .ref (qT 5), .ref (qT 6), .ref (qT 7), .ref (qT 8)])), ((qT 1), .inl (cI, 6, .inl g)), ((qT 5), .inl (cI, 144, .inl (fun _ => 0))), ((qT 6), .inl (cI, 144, .inl gb)), ((qT 7), .inl (cI, 6, .inl gc))] sz (fun (u : (Nat → Int32) × (Nat → Int32)) => True) (fun (u : (Nat → Int32) × (Nat → Int32)) => [(aT, .inr (9, [.int 1, .ref (qT 1), .ref (qT 2), .ref (qT 3), .ref (qT 4), .ref (qT 5), .ref (qT 6), .ref (qT 7), .ref (qT 8)])), ((qT 1), .inl (cI, 6, .inl g)), ((qT 5), .inl (cI, 144, .inl (fun _ => 0))), ((qT 6), .inl (cI, 144, .inl u.1)), ((qT 7), .inl (cI, 6, .inl u.2))] : ((Nat → Int32) × (Nat → Int32)) → va_W) 0 0 := by
  refine g_enter (y := yX9_refreshMeaning) (w := (wG yX9_refreshMeaning cX9_refreshMeaning 7 none)) (As := [.ref aT, .int 0, .int y0]) (D := D) (T := gT cI cB cS cZ cW) (ws := [(aT, .inr (9, [.int 1, .ref (qT 1), .ref (qT 2), .ref (qT 3), .ref (qT 4), .ref (qT 5), .ref (qT 6), .ref (qT 7), .ref (qT 8)])), ((qT 1), .inl (cI, 6, .inl g)), ((qT 5), .inl (cI, 144, .inl (fun _ => 0))), ((qT 6), .inl (cI, 144, .inl gb)), ((qT 7), .inl (cI, 6, .inl gc))]) (gQv D (fun (u : (Nat → Int32) × (Nat → Int32)) => True) (fun (u : (Nat → Int32) × (Nat → Int32)) => [(aT, .inr (9, [.int 1, .ref (qT 1), .ref (qT 2), .ref (qT 3), .ref (qT 4), .ref (qT 5), .ref (qT 6), .ref (qT 7), .ref (qT 8)])), ((qT 1), .inl (cI, 6, .inl g)), ((qT 5), .inl (cI, 144, .inl (fun _ => 0))), ((qT 6), .inl (cI, 144, .inl u.1)), ((qT 7), .inl (cI, 6, .inl u.2))] : ((Nat → Int32) × (Nat → Int32)) → va_W)) (cc := cX9_refreshMeaning) (maxL := 7) (ret := none) (by decide) rfl (Nat.le_of_ble_eq_true rfl) ?_
  intro p e s m below meth c A ls hF hr hlocks hname hsz hE hA hP hD hS hl
  have hF : CallFix p m c cX9_refreshMeaning 7 s ([.ref aT, .int 0, .int y0] : List Value).toArray (wG yX9_refreshMeaning cX9_refreshMeaning 7 none) RX9 := hF
  obtain ⟨hx, hb, hml, hown, hts⟩ := id hF
  have htg : ∀ w ∈ GL, w.before ([.ref aT, .int 0, .int y0] : List Value).toArray s = true := fun w h => hts w (List.mem_cons_of_mem _ h)
  have hl : lv_has ls 7 [(0, .ref aT), (1, .int 0), (2, .int y0)] := hl
  have zm1 := tm_1
  have z0 := t_0
  have z1 := t_1
  have z24 := t_24
  refine lv_iload_n hx hb dX9_refreshMeaning_0 rfl (lv_at hl 1 rfl) ?_
  refine lv_istore_n (lv' := [(3, .int 0), (0, .ref aT), (1, .int 0), (2, .int y0)]) hx hb dX9_refreshMeaning_1 rfl hl (by decide) rfl (fun ls hl => ?_)
  refine lv_iload_n hx hb dX9_refreshMeaning_2 rfl (lv_at hl 0 rfl) ?_
  refine lv_aload_n hx hb dX9_refreshMeaning_3 rfl (lv_at hl 1 rfl) ?_
  refine va_get (D := D) (ci := 9) (v := .int 1) (C := RX9) (T := TX9) (N := 9) hx hb htg iwG_9 hown hE.1 hP 0 rfl rfl 0 (by decide) (htg _ wm_3) (fun _ h9 => h9) rfl dX9_refreshMeaning_4 ?_
  refine lv_icmp_ge (tgt := 78) hx hb dX9_refreshMeaning_7 (by decide) (fun c9 => absurd c9 (by decide +kernel)) (fun _ => ?_)
  refine lv_aload_n hx hb dX9_refreshMeaning_10 rfl (lv_at hl 1 rfl) ?_
  refine va_get (D := D) (ci := 9) (v := .ref (qT 5)) (C := RX9) (T := TX9) (N := 9) hx hb htg iwG_9 hown hE.1 hP 0 rfl rfl 5 (by decide) (htg _ wm_9) (fun _ h9 => h9) rfl dX9_refreshMeaning_11 ?_
  refine lv_iload_n hx hb dX9_refreshMeaning_14 rfl (lv_at hl 0 rfl) ?_
  refine lv_bipush (v := 24) hx hb dX9_refreshMeaning_15 (by decide +kernel) ?_
  refine lv_imul hx hb dX9_refreshMeaning_17 ?_
  refine g_top 0 (by decide +kernel) ?_
  refine lv_iload_n hx hb dX9_refreshMeaning_18 rfl (lv_at hl 3 rfl) ?_
  refine lv_iadd hx hb dX9_refreshMeaning_19 ?_
  refine lv_topi (fun v1 ev1 => ?_)
  have iv1 : v1.toInt = (0 : Int32).toInt + (y0 : Int32).toInt := by rw [ev1]; exact fb_addI (by omega) (by omega)
  refine va_iald hx hb hE.1 hP 2 0 rfl rfl (vp_in_iff.mpr ⟨by omega, by omega⟩) dX9_refreshMeaning_20 ?_
  refine g_top 0 rfl ?_
  refine lv_istore (lv' := [(4, .int 0), (3, .int 0), (0, .ref aT), (1, .int 0), (2, .int y0)]) hx hb dX9_refreshMeaning_21 hl (by decide) rfl (fun ls hl => ?_)
  refine lv_aload_n hx hb dX9_refreshMeaning_23 rfl (lv_at hl 2 rfl) ?_
  refine lv_aload_n hx hb dX9_refreshMeaning_24 rfl (lv_at hl 2 rfl) ?_
  refine va_get (D := D) (ci := 9) (v := .ref (qT 1)) (C := RX9) (T := TX9) (N := 9) hx hb htg iwG_9 hown hE.1 hP 0 rfl rfl 1 (by decide) (htg _ wm_5) (fun _ h9 => h9) rfl dX9_refreshMeaning_25 ?_
  refine lv_iload_n hx hb dX9_refreshMeaning_28 rfl (lv_at hl 1 rfl) ?_
  refine va_iald hx hb hE.1 hP 1 0 rfl rfl (vp_in_iff.mpr ⟨by decide +kernel, by decide +kernel⟩) dX9_refreshMeaning_29 ?_
  refine g_top (-1) hg ?_
  refine lv_iload_n hx hb dX9_refreshMeaning_30 rfl (lv_at hl 4 rfl) ?_
  refine g_ai (D := D) (wc := [(aT, .inr (9, [.int 1, .ref (qT 1), .ref (qT 2), .ref (qT 3), .ref (qT 4), .ref (qT 5), .ref (qT 6), .ref (qT 7), .ref (qT 8)]))]) (wr := [((qT 1), .inl (cI, 6, .inl g)), ((qT 5), .inl (cI, 144, .inl (fun _ => 0))), ((qT 6), .inl (cI, 144, .inl gb)), ((qT 7), .inl (cI, 6, .inl gc))]) hP hD hS hA [0] [1, 2, 3, 4] rfl rfl rfl rfl (by decide) (fun hPc hDc => va_runV (As := [.int (-1), .int y0]) (rest := []) hF (c_X9_wordOf_m (l := l) (D := D) (cI := cI) (cB := cB) (cS := cS) (cZ := cZ) (cW := cW) (aT := aT) (y1 := y0) (y0 := 1) (qT := qT)) (cwV 2 hts (gGV (fun _ h => List.mem_cons_of_mem _ h) wm_134 wm_135 wm_136 wm_75 wm_137) rfl rfl rfl (by decide +kernel) ⟨Nat.le_of_ble_eq_true rfl, Nat.le_of_ble_eq_true rfl⟩) (g_preV (q := (RX9, TX9, 9)) (ci := 9) (q0 := 0) hE hPc hDc rfl rfl) rfl rfl hl.1 rfl (lv_room (Nat.le_of_ble_eq_true rfl)) dX9_refreshMeaning_31 ⟨Nat.le_of_ble_eq_true rfl, Nat.le_of_ble_eq_true rfl⟩) (fun r2 u3 H locs p4 hP hD hS => ?_)
  have hP : va_P D vwCl [((qT 1), .inl (cI, 6, .inl g)), ((qT 5), .inl (cI, 144, .inl (fun _ => 0))), ((qT 6), .inl (cI, 144, .inl gb)), ((qT 7), .inl (cI, 6, .inl gc)), (aT, .inr (9, [.int 1, .ref (qT 1), .ref (qT 2), .ref (qT 3), .ref (qT 4), .ref (qT 5), .ref (qT 6), .ref (qT 7), .ref (qT 8)]))] H := hP
  have hD : va_D A [((qT 1), .inl (cI, 6, .inl g)), ((qT 5), .inl (cI, 144, .inl (fun _ => 0))), ((qT 6), .inl (cI, 144, .inl gb)), ((qT 7), .inl (cI, 6, .inl gc)), (aT, .inr (9, [.int 1, .ref (qT 1), .ref (qT 2), .ref (qT 3), .ref (qT 4), .ref (qT 5), .ref (qT 6), .ref (qT 7), .ref (qT 8)]))] := hD
  obtain rfl := p4
  refine lv_istore (lv' := [(5, .int 0), (4, .int 0), (3, .int 0), (0, .ref aT), (1, .int 0), (2, .int y0)]) hx hb dX9_refreshMeaning_34 hl (by decide) rfl (fun ls hl => ?_)
  refine lv_iload hx hb dX9_refreshMeaning_36 (lv_at hl 0 rfl) ?_
  refine lv_if_ne (tgt := 45) hx hb dX9_refreshMeaning_38 (by decide) (fun c9 => absurd c9 (by decide +kernel)) (fun _ => ?_)
  refine lv_iconst (v := 0) hx hb dX9_refreshMeaning_41 (by decide +kernel) ?_
  refine lv_goto (tgt := 52) hx hb dX9_refreshMeaning_42 (by decide) ?_
  refine lv_istore (lv' := [(6, .int 0), (5, .int 0), (4, .int 0), (3, .int 0), (0, .ref aT), (1, .int 0), (2, .int y0)]) hx hb dX9_refreshMeaning_52 hl (by decide) rfl (fun ls hl => ?_)
  refine lv_aload_n hx hb dX9_refreshMeaning_54 rfl (lv_at hl 4 rfl) ?_
  refine lv_iload_n hx hb dX9_refreshMeaning_55 rfl (lv_at hl 3 rfl) ?_
  refine lv_iload_n hx hb dX9_refreshMeaning_56 rfl (lv_at hl 6 rfl) ?_
  refine lv_iload hx hb dX9_refreshMeaning_57 (lv_at hl 2 rfl) ?_
  refine lv_if_eq (tgt := 67) hx hb dX9_refreshMeaning_59 (by decide) (fun _ => ?_) (fun c9 => absurd c9 (by decide +kernel))
  refine lv_iload hx hb dX9_refreshMeaning_67 (lv_at hl 0 rfl) ?_
  refine g_av (D := D) (wc := [(aT, .inr (9, [.int 1, .ref (qT 1), .ref (qT 2), .ref (qT 3), .ref (qT 4), .ref (qT 5), .ref (qT 6), .ref (qT 7), .ref (qT 8)])), ((qT 6), .inl (cI, 144, .inl gb)), ((qT 7), .inl (cI, 6, .inl gc))]) (wr := [((qT 1), .inl (cI, 6, .inl g)), ((qT 5), .inl (cI, 144, .inl (fun _ => 0)))]) hP hD hS hA [4, 2, 3] [0, 1] rfl rfl rfl rfl (by decide) (fun hPc hDc => va_runV (As := [.int 0, .int y0, .int 0]) (rest := []) hF (c_X9_setWord (l := l) (D := D) (cI := cI) (cB := cB) (cS := cS) (cZ := cZ) (cW := cW) (aT := aT) (y0 := y0) (qT := qT) (gb := gb) (gc := gc) (hy0 := (by omega))) (cwV 3 hts (gGV (fun _ h => List.mem_cons_of_mem _ h) wm_138 wm_139 wm_140 wm_75 wm_141) rfl rfl rfl (by decide +kernel) ⟨Nat.le_of_ble_eq_true rfl, Nat.le_of_ble_eq_true rfl⟩) (g_preV (q := (RX9, TX9, 9)) (ci := 9) (q0 := 0) hE hPc hDc rfl rfl) rfl rfl hl.1 rfl (lv_room (Nat.le_of_ble_eq_true rfl)) dX9_refreshMeaning_69 ⟨Nat.le_of_ble_eq_true rfl, Nat.le_of_ble_eq_true rfl⟩) (fun u6 H locs p7 hP hD hS => ?_)
  obtain ⟨g8, g9⟩ := u6
  have hP : va_P D vwCl [((qT 1), .inl (cI, 6, .inl g)), ((qT 5), .inl (cI, 144, .inl (fun _ => 0))), (aT, .inr (9, [.int 1, .ref (qT 1), .ref (qT 2), .ref (qT 3), .ref (qT 4), .ref (qT 5), .ref (qT 6), .ref (qT 7), .ref (qT 8)])), ((qT 6), .inl (cI, 144, .inl g8)), ((qT 7), .inl (cI, 6, .inl g9))] H := hP
  have hD : va_D A [((qT 1), .inl (cI, 6, .inl g)), ((qT 5), .inl (cI, 144, .inl (fun _ => 0))), (aT, .inr (9, [.int 1, .ref (qT 1), .ref (qT 2), .ref (qT 3), .ref (qT 4), .ref (qT 5), .ref (qT 6), .ref (qT 7), .ref (qT 8)])), ((qT 6), .inl (cI, 144, .inl g8)), ((qT 7), .inl (cI, 6, .inl g9))] := hD
  refine lv_iinc (v := 1) (lv' := [(3, .int 1), (6, .int 0), (5, .int 0), (4, .int 0), (0, .ref aT), (1, .int 0), (2, .int y0)]) hx hb dX9_refreshMeaning_72 hl (k := 3) rfl (by decide +kernel) (by decide) rfl (fun ls hl => ?_)
  refine lv_goto (tgt := 2) hx hb dX9_refreshMeaning_75 (by decide) ?_
  refine lv_iload_n hx hb dX9_refreshMeaning_2 rfl (lv_at hl 0 rfl) ?_
  refine lv_aload_n hx hb dX9_refreshMeaning_3 rfl (lv_at hl 4 rfl) ?_
  refine va_get (D := D) (ci := 9) (v := .int 1) (C := RX9) (T := TX9) (N := 9) hx hb htg iwG_9 hown hE.1 hP 2 rfl rfl 0 (by decide) (htg _ wm_3) (fun _ h9 => h9) rfl dX9_refreshMeaning_4 ?_
  refine lv_icmp_ge (tgt := 78) hx hb dX9_refreshMeaning_7 (by decide) (fun _ => ?_) (fun c9 => absurd c9 (by decide +kernel))
  exact g_vret (g8, g9) hF hr hlocks (hP.sub [2, 0, 1, 3, 4] rfl) (hD.sub [2, 0, 1, 3, 4] rfl rfl) hS trivial dX9_refreshMeaning_78 (Nat.le_of_ble_eq_true rfl) (Nat.le_of_ble_eq_true rfl)
set_option maxHeartbeats 8000000 in
set_option maxRecDepth 100000 in
theorem c_X9_refreshFrom {l : Launch} {D : va_G} {cI cB cS cZ cW : ClassId} {aT : Nat} {qT : Nat → Nat} {g : Nat → Int32} {gb : Nat → Int32} {gc : Nat → Int32} (hg : g (0 : Int32).toNatClampNeg = (-1)) {sz : Nat} : MV l D (gT cI cB cS cZ cW) yX9_refreshFrom (wG yX9_refreshFrom cX9_refreshFrom 3 none) { frames := 3, cells := 0, slots := 0, locals := 69 } [.ref aT, .int 0] [(aT, .inr (9, [.int 1, .ref (qT 1), .ref (qT 2), .ref (qT 3), .ref (qT 4), .ref (qT 5), .ref (qT 6), .ref (qT 7), .ref (qT 8)])), ((qT 1), .inl (cI, 6, .inl g)), ((qT 5), .inl (cI, 144, .inl (fun _ => 0))), ((qT 6), .inl (cI, 144, .inl gb)), ((qT 7), .inl (cI, 6, .inl gc))] sz (fun (u : Unit) => True) (fun (u : Unit) => [] : (Unit) → va_W) 0 0 := by
  refine g_enter (y := yX9_refreshFrom) (w := (wG yX9_refreshFrom cX9_refreshFrom 3 none)) (As := [.ref aT, .int 0]) (D := D) (T := gT cI cB cS cZ cW) (ws := [(aT, .inr (9, [.int 1, .ref (qT 1), .ref (qT 2), .ref (qT 3), .ref (qT 4), .ref (qT 5), .ref (qT 6), .ref (qT 7), .ref (qT 8)])), ((qT 1), .inl (cI, 6, .inl g)), ((qT 5), .inl (cI, 144, .inl (fun _ => 0))), ((qT 6), .inl (cI, 144, .inl gb)), ((qT 7), .inl (cI, 6, .inl gc))]) (gQv D (fun (u : Unit) => True) (fun (u : Unit) => [] : (Unit) → va_W)) (cc := cX9_refreshFrom) (maxL := 3) (ret := none) (by decide) rfl (Nat.le_of_ble_eq_true rfl) ?_
  intro p e s m below meth c A ls hF hr hlocks hname hsz hE hA hP hD hS hl
  have hF : CallFix p m c cX9_refreshFrom 3 s ([.ref aT, .int 0] : List Value).toArray (wG yX9_refreshFrom cX9_refreshFrom 3 none) RX9 := hF
  obtain ⟨hx, hb, hml, hown, hts⟩ := id hF
  have htg : ∀ w ∈ GL, w.before ([.ref aT, .int 0] : List Value).toArray s = true := fun w h => hts w (List.mem_cons_of_mem _ h)
  have hl : lv_has ls 3 [(0, .ref aT), (1, .int 0)] := hl
  have z0 := t_0
  have z24 := t_24
  refine lv_iconst (v := 0) hx hb dX9_refreshFrom_0 (by decide +kernel) ?_
  refine lv_istore_n (lv' := [(2, .int 0), (0, .ref aT), (1, .int 0)]) hx hb dX9_refreshFrom_1 rfl hl (by decide) rfl (fun ls hl => ?_)
  have LP5 : ∀ (n4 k3 : Nat), k3 + n4 = 24 → ∀ (g1 g2 : Nat → Int32) (H : Heap) (locs : List Loc) (ls : Array Slot), va_P D vwCl [(aT, .inr (9, [.int 1, .ref (qT 1), .ref (qT 2), .ref (qT 3), .ref (qT 4), .ref (qT 5), .ref (qT 6), .ref (qT 7), .ref (qT 8)])), ((qT 1), .inl (cI, 6, .inl g)), ((qT 5), .inl (cI, 144, .inl (fun _ => 0))), ((qT 6), .inl (cI, 144, .inl g1)), ((qT 7), .inl (cI, 6, .inl g2))] H → va_D A [(aT, .inr (9, [.int 1, .ref (qT 1), .ref (qT 2), .ref (qT 3), .ref (qT 4), .ref (qT 5), .ref (qT 6), .ref (qT 7), .ref (qT 8)])), ((qT 1), .inl (cI, 6, .inl g)), ((qT 5), .inl (cI, 144, .inl (fun _ => 0))), ((qT 6), .inl (cI, 144, .inl g1)), ((qT 7), .inl (cI, 6, .inl g2))] → va_S A s.heap H locs → lv_has ls 3 [(2, .int (nI k3)), (0, .ref aT), (1, .int 0)] → W p l e ({ frames := 3, cells := 0, slots := 0, locals := 69 } : Room) s m ([.ref aT, .int 0] : List Value).toArray below meth c H locs 0 0 (MQ below (gQv D (fun (u : Unit) => True) (fun (u : Unit) => [] : (Unit) → va_W) A) ([.ref aT, .int 0] : List Value).toArray s 0 0 A) (F0 m 2 ls []) := by
    intro n4
    induction n4 with
    | zero =>
      intro k3 hk g1 g2 H locs ls hP hD hS hl
      obtain rfl : k3 = 24 := by omega
      have hl : lv_has ls 3 [(2, .int 24), (0, .ref aT), (1, .int 0)] := hl
      refine lv_iload_n hx hb dX9_refreshFrom_2 rfl (lv_at hl 0 rfl) ?_
      refine lv_bipush (v := 24) hx hb dX9_refreshFrom_3 (by decide +kernel) ?_
      refine lv_icmp_ge (tgt := 20) hx hb dX9_refreshFrom_5 (by decide) (fun _ => ?_) (fun c9 => absurd c9 (by decide +kernel))
      exact g_vret () hF hr hlocks (hP.sub [] rfl) (hD.sub [] rfl rfl) hS trivial dX9_refreshFrom_20 (Nat.le_of_ble_eq_true rfl) (Nat.le_of_ble_eq_true rfl)
    | succ n4 ih =>
      intro k3 hk g1 g2 H locs ls hP hD hS hl
      have hk2 : k3 < 24 := by omega
      have ikk3 : (nI k3).toInt = k3 := nI_toInt (by omega)
      refine lv_iload_n hx hb dX9_refreshFrom_2 rfl (lv_at hl 0 rfl) ?_
      refine lv_bipush (v := 24) hx hb dX9_refreshFrom_3 (by decide +kernel) ?_
      refine lv_icmp_ge (tgt := 20) hx hb dX9_refreshFrom_5 (by decide) (fun c9 => absurd (i_le.mp c9) (by omega)) (fun _ => ?_)
      refine lv_aload_n hx hb dX9_refreshFrom_8 rfl (lv_at hl 1 rfl) ?_
      refine lv_iload_n hx hb dX9_refreshFrom_9 rfl (lv_at hl 2 rfl) ?_
      refine lv_iload_n hx hb dX9_refreshFrom_10 rfl (lv_at hl 0 rfl) ?_
      refine g_av (D := D) (wc := [(aT, .inr (9, [.int 1, .ref (qT 1), .ref (qT 2), .ref (qT 3), .ref (qT 4), .ref (qT 5), .ref (qT 6), .ref (qT 7), .ref (qT 8)])), ((qT 1), .inl (cI, 6, .inl g)), ((qT 5), .inl (cI, 144, .inl (fun _ => 0))), ((qT 6), .inl (cI, 144, .inl g1)), ((qT 7), .inl (cI, 6, .inl g2))]) (wr := []) hP hD hS hA [0, 1, 2, 3, 4] [] rfl rfl rfl rfl (by decide) (fun hPc hDc => va_runV (As := [.int 0, .int (nI k3)]) (rest := []) hF (c_X9_refreshMeaning (l := l) (D := D) (cI := cI) (cB := cB) (cS := cS) (cZ := cZ) (cW := cW) (aT := aT) (y0 := (nI k3)) (qT := qT) (g := g) (gb := g1) (gc := g2) (hy0 := (by omega)) (hg := hg)) (cwV 2 hts (gGV (fun _ h => List.mem_cons_of_mem _ h) wm_142 wm_143 wm_144 wm_75 wm_145) rfl rfl rfl (by decide +kernel) ⟨Nat.le_of_ble_eq_true rfl, Nat.le_of_ble_eq_true rfl⟩) (g_preV (q := (RX9, TX9, 9)) (ci := 9) (q0 := 0) hE hPc hDc rfl rfl) rfl rfl hl.1 rfl (lv_room (Nat.le_of_ble_eq_true rfl)) dX9_refreshFrom_11 ⟨Nat.le_of_ble_eq_true rfl, Nat.le_of_ble_eq_true rfl⟩) (fun u7 H locs p8 hP hD hS => ?_)
      obtain ⟨g9, g10⟩ := u7
      have hP : va_P D vwCl [(aT, .inr (9, [.int 1, .ref (qT 1), .ref (qT 2), .ref (qT 3), .ref (qT 4), .ref (qT 5), .ref (qT 6), .ref (qT 7), .ref (qT 8)])), ((qT 1), .inl (cI, 6, .inl g)), ((qT 5), .inl (cI, 144, .inl (fun _ => 0))), ((qT 6), .inl (cI, 144, .inl g9)), ((qT 7), .inl (cI, 6, .inl g10))] H := hP
      have hD : va_D A [(aT, .inr (9, [.int 1, .ref (qT 1), .ref (qT 2), .ref (qT 3), .ref (qT 4), .ref (qT 5), .ref (qT 6), .ref (qT 7), .ref (qT 8)])), ((qT 1), .inl (cI, 6, .inl g)), ((qT 5), .inl (cI, 144, .inl (fun _ => 0))), ((qT 6), .inl (cI, 144, .inl g9)), ((qT 7), .inl (cI, 6, .inl g10))] := hD
      refine lv_iinc (v := (nI (k3 + 1))) (lv' := [(2, .int (nI (k3 + 1))), (0, .ref aT), (1, .int 0)]) hx hb dX9_refreshFrom_14 hl (k := 0) rfl (show nI k3 + Int32.ofInt 1 = nI (k3 + 1) from nI_1 k3) (by decide) rfl (fun ls hl => ?_)
      refine lv_goto (tgt := 2) hx hb dX9_refreshFrom_17 (by decide) ?_
      exact ih (k3 + 1) (by omega) _ _ _ _ _ (hP.sub [0, 1, 2, 3, 4] rfl) (hD.sub [0, 1, 2, 3, 4] rfl rfl) hS (lv_sub hl [0, 1, 2] rfl)
  exact LP5 24 0 rfl gb gc _ _ _ hP hD hS (lv_sub hl [0, 1, 2] rfl)
set_option maxHeartbeats 8000000 in
set_option maxRecDepth 100000 in
theorem c_X9_addTongue {l : Launch} {D : va_G} {cI cB cS cZ cW : ClassId} {aT : Nat} {y0 : Int32} {qT : Nat → Nat}  {sz : Nat} : MI l D (gT cI cB cS cZ cW) yX9_addTongue (wG yX9_addTongue cX9_addTongue 3 (some .int)) { frames := 4, cells := 0, slots := 0, locals := 91 } [.ref aT, .int y0] [(aT, .inr (9, [.int 0, .ref (qT 1), .ref (qT 2), .ref (qT 3), .ref (qT 4), .ref (qT 5), .ref (qT 6), .ref (qT 7), .ref (qT 8)])), ((qT 1), .inl (cI, 6, .inl (fun _ => 0))), ((qT 2), .inl (cI, 6, .inl (fun _ => 0))), ((qT 5), .inl (cI, 144, .inl (fun _ => 0))), ((qT 6), .inl (cI, 144, .inl (fun _ => 0))), ((qT 7), .inl (cI, 6, .inl (fun _ => 0)))] sz (fun (r : Int32) (u : Unit) => r = S_tongue y0) (fun (u : Unit) => [] : (Unit) → va_W) 0 0 := by
  refine g_enter (y := yX9_addTongue) (w := (wG yX9_addTongue cX9_addTongue 3 (some .int))) (As := [.ref aT, .int y0]) (D := D) (T := gT cI cB cS cZ cW) (ws := [(aT, .inr (9, [.int 0, .ref (qT 1), .ref (qT 2), .ref (qT 3), .ref (qT 4), .ref (qT 5), .ref (qT 6), .ref (qT 7), .ref (qT 8)])), ((qT 1), .inl (cI, 6, .inl (fun _ => 0))), ((qT 2), .inl (cI, 6, .inl (fun _ => 0))), ((qT 5), .inl (cI, 144, .inl (fun _ => 0))), ((qT 6), .inl (cI, 144, .inl (fun _ => 0))), ((qT 7), .inl (cI, 6, .inl (fun _ => 0)))]) (gQi D (fun (r : Int32) (u : Unit) => r = S_tongue y0) (fun (u : Unit) => [] : (Unit) → va_W)) (cc := cX9_addTongue) (maxL := 3) (ret := (some .int)) (by decide) rfl (Nat.le_of_ble_eq_true rfl) ?_
  intro p e s m below meth c A ls hF hr hlocks hname hsz hE hA hP hD hS hl
  have hF : CallFix p m c cX9_addTongue 3 s ([.ref aT, .int y0] : List Value).toArray (wG yX9_addTongue cX9_addTongue 3 (some .int)) RX9 := hF
  obtain ⟨hx, hb, hml, hown, hts⟩ := id hF
  have htg : ∀ w ∈ GL, w.before ([.ref aT, .int y0] : List Value).toArray s = true := fun w h => hts w (List.mem_cons_of_mem _ h)
  have hl : lv_has ls 3 [(0, .ref aT), (1, .int y0)] := hl
  have zm1 := tm_1
  have z0 := t_0
  have z1 := t_1
  have z6 := t_6
  have z100 := t_100
  refine lv_aload_n hx hb dX9_addTongue_0 rfl (lv_at hl 0 rfl) ?_
  refine va_get (D := D) (ci := 9) (v := .int 0) (C := RX9) (T := TX9) (N := 9) hx hb htg iwG_9 hown hE.1 hP 0 rfl rfl 0 (by decide) (htg _ wm_3) (fun _ h9 => h9) rfl dX9_addTongue_1 ?_
  refine lv_bipush (v := 6) hx hb dX9_addTongue_4 (by decide +kernel) ?_
  refine lv_icmp_ge (tgt := 22) hx hb dX9_addTongue_6 (by decide) (fun c9 => absurd c9 (by decide +kernel)) (fun _ => ?_)
  refine lv_iload_n hx hb dX9_addTongue_9 rfl (lv_at hl 1 rfl) ?_
  refine lv_iconst (v := (-1)) hx hb dX9_addTongue_10 (by decide +kernel) ?_
  refine lv_icmp_eq (tgt := 24) hx hb dX9_addTongue_11 (by decide) (fun c1 => ?_) (fun c1 => ?_)
  · rw [i_eq] at c1
    refine lv_aload_n hx hb dX9_addTongue_24 rfl (lv_at hl 0 rfl) ?_
    refine va_get (D := D) (ci := 9) (v := .int 0) (C := RX9) (T := TX9) (N := 9) hx hb htg iwG_9 hown hE.1 hP 0 rfl rfl 0 (by decide) (htg _ wm_3) (fun _ h9 => h9) rfl dX9_addTongue_25 ?_
    refine lv_istore_n (lv' := [(2, .int 0), (0, .ref aT), (1, .int y0)]) hx hb dX9_addTongue_28 rfl hl (by decide) rfl (fun ls hl => ?_)
    refine lv_aload_n hx hb dX9_addTongue_29 rfl (lv_at hl 1 rfl) ?_
    refine va_get (D := D) (ci := 9) (v := .ref (qT 1)) (C := RX9) (T := TX9) (N := 9) hx hb htg iwG_9 hown hE.1 hP 0 rfl rfl 1 (by decide) (htg _ wm_5) (fun _ h9 => h9) rfl dX9_addTongue_30 ?_
    refine lv_iload_n hx hb dX9_addTongue_33 rfl (lv_at hl 0 rfl) ?_
    refine lv_iload_n hx hb dX9_addTongue_34 rfl (lv_at hl 2 rfl) ?_
    refine g_top (-1) (i_eq.mpr (by omega)) ?_
    refine va_iast hx hb hE.1 hP hD hS 1 0 rfl rfl (vp_in_iff.mpr ⟨by decide +kernel, by decide +kernel⟩) dX9_addTongue_35 (fun H locs hP hD hS => ?_)
    obtain ⟨g2, eg2, fg2⟩ : ∃ gz : Nat → Int32, gz = upd (fun _ => 0) (0 : Int32).toNatClampNeg (-1) ∧ gz (0 : Int32).toNatClampNeg = (-1) := ⟨_, rfl, pk_us⟩
    have hP : va_P D vwCl [(aT, .inr (9, [.int 0, .ref (qT 1), .ref (qT 2), .ref (qT 3), .ref (qT 4), .ref (qT 5), .ref (qT 6), .ref (qT 7), .ref (qT 8)])), ((qT 1), .inl (cI, 6, .inl g2)), ((qT 2), .inl (cI, 6, .inl (fun _ => 0))), ((qT 5), .inl (cI, 144, .inl (fun _ => 0))), ((qT 6), .inl (cI, 144, .inl (fun _ => 0))), ((qT 7), .inl (cI, 6, .inl (fun _ => 0)))] H := by rw [eg2]; exact hP
    have hD : va_D A [(aT, .inr (9, [.int 0, .ref (qT 1), .ref (qT 2), .ref (qT 3), .ref (qT 4), .ref (qT 5), .ref (qT 6), .ref (qT 7), .ref (qT 8)])), ((qT 1), .inl (cI, 6, .inl g2)), ((qT 2), .inl (cI, 6, .inl (fun _ => 0))), ((qT 5), .inl (cI, 144, .inl (fun _ => 0))), ((qT 6), .inl (cI, 144, .inl (fun _ => 0))), ((qT 7), .inl (cI, 6, .inl (fun _ => 0)))] := by rw [eg2]; exact hD
    refine lv_aload_n hx hb dX9_addTongue_36 rfl (lv_at hl 1 rfl) ?_
    refine va_get (D := D) (ci := 9) (v := .ref (qT 2)) (C := RX9) (T := TX9) (N := 9) hx hb htg iwG_9 hown hE.1 hP 0 rfl rfl 2 (by decide) (htg _ wm_6) (fun _ h9 => h9) rfl dX9_addTongue_37 ?_
    refine lv_iload_n hx hb dX9_addTongue_40 rfl (lv_at hl 0 rfl) ?_
    refine lv_bipush (v := 100) hx hb dX9_addTongue_41 (by decide +kernel) ?_
    refine va_iast hx hb hE.1 hP hD hS 2 0 rfl rfl (vp_in_iff.mpr ⟨by decide +kernel, by decide +kernel⟩) dX9_addTongue_43 (fun H locs hP hD hS => ?_)
    obtain ⟨g3, eg3, fg3⟩ : ∃ gz : Nat → Int32, gz = upd (fun _ => 0) (0 : Int32).toNatClampNeg 100 ∧ gz (0 : Int32).toNatClampNeg = 100 := ⟨_, rfl, pk_us⟩
    have hP : va_P D vwCl [(aT, .inr (9, [.int 0, .ref (qT 1), .ref (qT 2), .ref (qT 3), .ref (qT 4), .ref (qT 5), .ref (qT 6), .ref (qT 7), .ref (qT 8)])), ((qT 1), .inl (cI, 6, .inl g2)), ((qT 2), .inl (cI, 6, .inl g3)), ((qT 5), .inl (cI, 144, .inl (fun _ => 0))), ((qT 6), .inl (cI, 144, .inl (fun _ => 0))), ((qT 7), .inl (cI, 6, .inl (fun _ => 0)))] H := by rw [eg3]; exact hP
    have hD : va_D A [(aT, .inr (9, [.int 0, .ref (qT 1), .ref (qT 2), .ref (qT 3), .ref (qT 4), .ref (qT 5), .ref (qT 6), .ref (qT 7), .ref (qT 8)])), ((qT 1), .inl (cI, 6, .inl g2)), ((qT 2), .inl (cI, 6, .inl g3)), ((qT 5), .inl (cI, 144, .inl (fun _ => 0))), ((qT 6), .inl (cI, 144, .inl (fun _ => 0))), ((qT 7), .inl (cI, 6, .inl (fun _ => 0)))] := by rw [eg3]; exact hD
    refine lv_aload_n hx hb dX9_addTongue_44 rfl (lv_at hl 1 rfl) ?_
    refine lv_dup hx hb dX9_addTongue_45 rfl ?_
    refine va_get (D := D) (ci := 9) (v := .int 0) (C := RX9) (T := TX9) (N := 9) hx hb htg iwG_9 hown hE.1 hP 0 rfl rfl 0 (by decide) (htg _ wm_3) (fun _ h9 => h9) rfl dX9_addTongue_46 ?_
    refine lv_iconst (v := 1) hx hb dX9_addTongue_49 (by decide +kernel) ?_
    refine lv_iadd hx hb dX9_addTongue_50 ?_
    refine g_top 1 (by decide +kernel) ?_
    refine va_put (D := D) (ci := 9) (v := .int 1) (ty := tyX9 0) (C := RX9) (T := TX9) (N := 9) hx hb htg iwG_9 tyX9 tyX9_ok nmX9 hown hE.1 hP hD hS 0 rfl rfl 0 (by decide) (htg _ wm_3) (fun _ h9 => h9) rfl (by decide +kernel) rfl rfl (Nat.le_of_ble_eq_true rfl) dX9_addTongue_51 (fun H locs hP hD hS => ?_)
    have hP : va_P D vwCl [(aT, .inr (9, [.int 1, .ref (qT 1), .ref (qT 2), .ref (qT 3), .ref (qT 4), .ref (qT 5), .ref (qT 6), .ref (qT 7), .ref (qT 8)])), ((qT 1), .inl (cI, 6, .inl g2)), ((qT 2), .inl (cI, 6, .inl g3)), ((qT 5), .inl (cI, 144, .inl (fun _ => 0))), ((qT 6), .inl (cI, 144, .inl (fun _ => 0))), ((qT 7), .inl (cI, 6, .inl (fun _ => 0)))] H := hP
    have hD : va_D A [(aT, .inr (9, [.int 1, .ref (qT 1), .ref (qT 2), .ref (qT 3), .ref (qT 4), .ref (qT 5), .ref (qT 6), .ref (qT 7), .ref (qT 8)])), ((qT 1), .inl (cI, 6, .inl g2)), ((qT 2), .inl (cI, 6, .inl g3)), ((qT 5), .inl (cI, 144, .inl (fun _ => 0))), ((qT 6), .inl (cI, 144, .inl (fun _ => 0))), ((qT 7), .inl (cI, 6, .inl (fun _ => 0)))] := hD
    refine lv_aload_n hx hb dX9_addTongue_54 rfl (lv_at hl 1 rfl) ?_
    refine lv_iload_n hx hb dX9_addTongue_55 rfl (lv_at hl 0 rfl) ?_
    refine g_av (D := D) (wc := [(aT, .inr (9, [.int 1, .ref (qT 1), .ref (qT 2), .ref (qT 3), .ref (qT 4), .ref (qT 5), .ref (qT 6), .ref (qT 7), .ref (qT 8)])), ((qT 1), .inl (cI, 6, .inl g2)), ((qT 5), .inl (cI, 144, .inl (fun _ => 0))), ((qT 6), .inl (cI, 144, .inl (fun _ => 0))), ((qT 7), .inl (cI, 6, .inl (fun _ => 0)))]) (wr := [((qT 2), .inl (cI, 6, .inl g3))]) hP hD hS hA [0, 1, 3, 4, 5] [2] rfl rfl rfl rfl (by decide) (fun hPc hDc => va_runV (As := [.int 0]) (rest := []) hF (c_X9_refreshFrom (l := l) (D := D) (cI := cI) (cB := cB) (cS := cS) (cZ := cZ) (cW := cW) (aT := aT) (qT := qT) (g := g2) (gb := (fun _ => 0)) (gc := (fun _ => 0)) (hg := fg2)) (cwV 1 hts (gGV (fun _ h => List.mem_cons_of_mem _ h) wm_146 wm_147 wm_148 wm_75 wm_149) rfl rfl rfl (by decide +kernel) ⟨Nat.le_of_ble_eq_true rfl, Nat.le_of_ble_eq_true rfl⟩) (g_preV (q := (RX9, TX9, 9)) (ci := 9) (q0 := 0) hE hPc hDc rfl rfl) rfl rfl hl.1 rfl (lv_room (Nat.le_of_ble_eq_true rfl)) dX9_addTongue_56 ⟨Nat.le_of_ble_eq_true rfl, Nat.le_of_ble_eq_true rfl⟩) (fun u5 H locs p6 hP hD hS => ?_)
    have hP : va_P D vwCl [((qT 2), .inl (cI, 6, .inl g3))] H := hP
    have hD : va_D A [((qT 2), .inl (cI, 6, .inl g3))] := hD
    refine lv_iload_n hx hb dX9_addTongue_59 rfl (lv_at hl 0 rfl) ?_
    exact g_iret () hF hr rfl hlocks (hP.sub [] rfl) (hD.sub [] rfl rfl) hS (by show (_ : Int32) = _; unfold S_tongue; (repeat' split) <;> first | rfl | (exfalso; omega) | omega) dX9_addTongue_60 (Nat.le_of_ble_eq_true rfl) (Nat.le_of_ble_eq_true rfl)
  · rw [i_eq] at c1
    refine lv_aload_n hx hb dX9_addTongue_14 rfl (lv_at hl 0 rfl) ?_
    refine lv_iload_n hx hb dX9_addTongue_15 rfl (lv_at hl 1 rfl) ?_
    refine g_ai (D := D) (wc := [(aT, .inr (9, [.int 0, .ref (qT 1), .ref (qT 2), .ref (qT 3), .ref (qT 4), .ref (qT 5), .ref (qT 6), .ref (qT 7), .ref (qT 8)]))]) (wr := [((qT 1), .inl (cI, 6, .inl (fun _ => 0))), ((qT 2), .inl (cI, 6, .inl (fun _ => 0))), ((qT 5), .inl (cI, 144, .inl (fun _ => 0))), ((qT 6), .inl (cI, 144, .inl (fun _ => 0))), ((qT 7), .inl (cI, 6, .inl (fun _ => 0)))]) hP hD hS hA [0] [1, 2, 3, 4, 5] rfl rfl rfl rfl (by decide) (fun hPc hDc => va_runV (As := [.int y0]) (rest := []) hF (c_X9_has (l := l) (D := D) (cI := cI) (cB := cB) (cS := cS) (cZ := cZ) (cW := cW) (aT := aT) (y0 := y0) (qT := qT)) (cwV 1 hts (gGV (fun _ h => List.mem_cons_of_mem _ h) wm_130 wm_131 wm_132 wm_75 wm_133) rfl rfl rfl (by decide +kernel) ⟨Nat.le_of_ble_eq_true rfl, Nat.le_of_ble_eq_true rfl⟩) (g_preV (q := (RX9, TX9, 9)) (ci := 9) (q0 := 0) hE hPc hDc rfl rfl) rfl rfl hl.1 rfl (lv_room (Nat.le_of_ble_eq_true rfl)) dX9_addTongue_16 ⟨Nat.le_of_ble_eq_true rfl, Nat.le_of_ble_eq_true rfl⟩) (fun r7 u8 H locs p9 hP hD hS => ?_)
    have hP : va_P D vwCl [((qT 1), .inl (cI, 6, .inl (fun _ => 0))), ((qT 2), .inl (cI, 6, .inl (fun _ => 0))), ((qT 5), .inl (cI, 144, .inl (fun _ => 0))), ((qT 6), .inl (cI, 144, .inl (fun _ => 0))), ((qT 7), .inl (cI, 6, .inl (fun _ => 0))), (aT, .inr (9, [.int 0, .ref (qT 1), .ref (qT 2), .ref (qT 3), .ref (qT 4), .ref (qT 5), .ref (qT 6), .ref (qT 7), .ref (qT 8)]))] H := hP
    have hD : va_D A [((qT 1), .inl (cI, 6, .inl (fun _ => 0))), ((qT 2), .inl (cI, 6, .inl (fun _ => 0))), ((qT 5), .inl (cI, 144, .inl (fun _ => 0))), ((qT 6), .inl (cI, 144, .inl (fun _ => 0))), ((qT 7), .inl (cI, 6, .inl (fun _ => 0))), (aT, .inr (9, [.int 0, .ref (qT 1), .ref (qT 2), .ref (qT 3), .ref (qT 4), .ref (qT 5), .ref (qT 6), .ref (qT 7), .ref (qT 8)]))] := hD
    obtain rfl := p9
    refine lv_if_ne (tgt := 24) hx hb dX9_addTongue_19 (by decide) (fun c9 => absurd c9 (by decide +kernel)) (fun _ => ?_)
    refine lv_iconst (v := (-1)) hx hb dX9_addTongue_22 (by decide +kernel) ?_
    exact g_iret () hF hr rfl hlocks (hP.sub [] rfl) (hD.sub [] rfl rfl) hS (by show (_ : Int32) = _; unfold S_tongue; (repeat' split) <;> first | rfl | (exfalso; omega) | omega) dX9_addTongue_23 (Nat.le_of_ble_eq_true rfl) (Nat.le_of_ble_eq_true rfl)
set_option maxHeartbeats 8000000 in
set_option maxRecDepth 100000 in
theorem c_X9_addRule {l : Launch} {D : va_G} {cI cB cS cZ cW : ClassId} {aT : Nat} {y0 : Int32} {y1 : Int32} {y2 : Int32} {y3 : Int32} {y4 : Int32} {qT : Nat → Nat}  {sz : Nat} : MI l D (gT cI cB cS cZ cW) yX9_addRule (wG yX9_addRule cX9_addRule 8 (some .int)) { frames := 1, cells := 0, slots := 0, locals := 22 } [.ref aT, .int y0, .int y1, .int y2, .int y3, .int y4] [(aT, .inr (9, [.int 0, .ref (qT 1), .ref (qT 2), .ref (qT 3), .ref (qT 4), .ref (qT 5), .ref (qT 6), .ref (qT 7), .ref (qT 8)]))] sz (fun (r : Int32) (u : Unit) => r = (-1)) (fun (u : Unit) => [] : (Unit) → va_W) 0 0 := by
  refine g_enter (y := yX9_addRule) (w := (wG yX9_addRule cX9_addRule 8 (some .int))) (As := [.ref aT, .int y0, .int y1, .int y2, .int y3, .int y4]) (D := D) (T := gT cI cB cS cZ cW) (ws := [(aT, .inr (9, [.int 0, .ref (qT 1), .ref (qT 2), .ref (qT 3), .ref (qT 4), .ref (qT 5), .ref (qT 6), .ref (qT 7), .ref (qT 8)]))]) (gQi D (fun (r : Int32) (u : Unit) => r = (-1)) (fun (u : Unit) => [] : (Unit) → va_W)) (cc := cX9_addRule) (maxL := 8) (ret := (some .int)) (by decide) rfl (Nat.le_of_ble_eq_true rfl) ?_
  intro p e s m below meth c A ls hF hr hlocks hname hsz hE hA hP hD hS hl
  have hF : CallFix p m c cX9_addRule 8 s ([.ref aT, .int y0, .int y1, .int y2, .int y3, .int y4] : List Value).toArray (wG yX9_addRule cX9_addRule 8 (some .int)) RX9 := hF
  obtain ⟨hx, hb, hml, hown, hts⟩ := id hF
  have htg : ∀ w ∈ GL, w.before ([.ref aT, .int y0, .int y1, .int y2, .int y3, .int y4] : List Value).toArray s = true := fun w h => hts w (List.mem_cons_of_mem _ h)
  have hl : lv_has ls 8 [(0, .ref aT), (1, .int y0), (2, .int y1), (3, .int y2), (4, .int y3), (5, .int y4)] := hl
  have zm1 := tm_1
  have z0 := t_0
  have z1 := t_1
  have z8 := t_8
  have z9 := t_9
  refine lv_iload_n hx hb dX9_addRule_0 rfl (lv_at hl 2 rfl) ?_
  refine lv_iconst (v := 1) hx hb dX9_addRule_1 (by decide +kernel) ?_
  refine lv_bipush (v := 8) hx hb dX9_addRule_2 (by decide +kernel) ?_
  refine g_ai (D := D) (wc := []) (wr := [(aT, .inr (9, [.int 0, .ref (qT 1), .ref (qT 2), .ref (qT 3), .ref (qT 4), .ref (qT 5), .ref (qT 6), .ref (qT 7), .ref (qT 8)]))]) hP hD hS hA [] [0] rfl rfl rfl rfl (by decide) (fun hPc hDc => va_runSN (As := [.int y1, .int 1, .int 8]) (rest := []) hF (c_X11_within (l := l) (D := D) (cI := cI) (cB := cB) (cS := cS) (cZ := cZ) (cW := cW) (y0 := y1) (y1 := 1) (y2 := 8)) ⟨(va_cnB (host := "LastTongue") 3 hts (gGI (fun _ h => List.mem_cons_of_mem _ h) wm_150) rfl rfl rfl (hE.2.1 (RX9, 54, yX11_within, "LastTongue") (List.mem_of_getElem? (i := 4) rfl)) (htg _ wm_151) (by decide +kernel) ⟨Nat.le_of_ble_eq_true rfl, Nat.le_of_ble_eq_true rfl⟩), (htg _ wm_152), trivial⟩ (g_preS hE hPc hDc) rfl rfl hl.1 rfl (lv_room (Nat.le_of_ble_eq_true rfl)) dX9_addRule_4 ⟨Nat.le_of_ble_eq_true rfl, Nat.le_of_ble_eq_true rfl⟩) (fun r1 u2 H locs p3 hP hD hS => ?_)
  have hP : va_P D vwCl [(aT, .inr (9, [.int 0, .ref (qT 1), .ref (qT 2), .ref (qT 3), .ref (qT 4), .ref (qT 5), .ref (qT 6), .ref (qT 7), .ref (qT 8)]))] H := hP
  have hD : va_D A [(aT, .inr (9, [.int 0, .ref (qT 1), .ref (qT 2), .ref (qT 3), .ref (qT 4), .ref (qT 5), .ref (qT 6), .ref (qT 7), .ref (qT 8)]))] := hD
  rcases p3 with ⟨rfl, p3a⟩ | ⟨rfl, p3a⟩
  · skip
    refine lv_if_eq (tgt := 51) hx hb dX9_addRule_7 (by decide) (fun c9 => absurd c9 (by decide +kernel)) (fun _ => ?_)
    refine lv_iload_n hx hb dX9_addRule_10 rfl (lv_at hl 3 rfl) ?_
    refine lv_iconst (v := 0) hx hb dX9_addRule_11 (by decide +kernel) ?_
    refine lv_bipush (v := 8) hx hb dX9_addRule_12 (by decide +kernel) ?_
    refine g_ai (D := D) (wc := []) (wr := [(aT, .inr (9, [.int 0, .ref (qT 1), .ref (qT 2), .ref (qT 3), .ref (qT 4), .ref (qT 5), .ref (qT 6), .ref (qT 7), .ref (qT 8)]))]) hP hD hS hA [] [0] rfl rfl rfl rfl (by decide) (fun hPc hDc => va_runSN (As := [.int y2, .int 0, .int 8]) (rest := []) hF (c_X11_within (l := l) (D := D) (cI := cI) (cB := cB) (cS := cS) (cZ := cZ) (cW := cW) (y0 := y2) (y1 := 0) (y2 := 8)) ⟨(va_cnB (host := "LastTongue") 3 hts (gGI (fun _ h => List.mem_cons_of_mem _ h) wm_150) rfl rfl rfl (hE.2.1 (RX9, 54, yX11_within, "LastTongue") (List.mem_of_getElem? (i := 4) rfl)) (htg _ wm_151) (by decide +kernel) ⟨Nat.le_of_ble_eq_true rfl, Nat.le_of_ble_eq_true rfl⟩), (htg _ wm_152), trivial⟩ (g_preS hE hPc hDc) rfl rfl hl.1 rfl (lv_room (Nat.le_of_ble_eq_true rfl)) dX9_addRule_14 ⟨Nat.le_of_ble_eq_true rfl, Nat.le_of_ble_eq_true rfl⟩) (fun r4 u5 H locs p6 hP hD hS => ?_)
    have hP : va_P D vwCl [(aT, .inr (9, [.int 0, .ref (qT 1), .ref (qT 2), .ref (qT 3), .ref (qT 4), .ref (qT 5), .ref (qT 6), .ref (qT 7), .ref (qT 8)]))] H := hP
    have hD : va_D A [(aT, .inr (9, [.int 0, .ref (qT 1), .ref (qT 2), .ref (qT 3), .ref (qT 4), .ref (qT 5), .ref (qT 6), .ref (qT 7), .ref (qT 8)]))] := hD
    rcases p6 with ⟨rfl, p6a⟩ | ⟨rfl, p6a⟩
    · skip
      refine lv_if_eq (tgt := 51) hx hb dX9_addRule_17 (by decide) (fun c9 => absurd c9 (by decide +kernel)) (fun _ => ?_)
      refine lv_iload_n hx hb dX9_addRule_20 rfl (lv_at hl 3 rfl) ?_
      refine lv_iload_n hx hb dX9_addRule_21 rfl (lv_at hl 2 rfl) ?_
      refine lv_icmp_eq (tgt := 51) hx hb dX9_addRule_22 (by decide) (fun c7 => ?_) (fun c7 => ?_)
      · rw [i_eq] at c7
        refine lv_iconst (v := 0) hx hb dX9_addRule_51 (by decide +kernel) ?_
        refine lv_istore (lv' := [(6, .int 0), (0, .ref aT), (1, .int y0), (2, .int y1), (3, .int y2), (4, .int y3), (5, .int y4)]) hx hb dX9_addRule_52 hl (by decide) rfl (fun ls hl => ?_)
        refine lv_iload hx hb dX9_addRule_54 (lv_at hl 0 rfl) ?_
        refine lv_if_eq (tgt := 78) hx hb dX9_addRule_56 (by decide) (fun _ => ?_) (fun c9 => absurd c9 (by decide +kernel))
        refine lv_iconst (v := (-1)) hx hb dX9_addRule_78 (by decide +kernel) ?_
        exact g_iret () hF hr rfl hlocks (hP.sub [] rfl) (hD.sub [] rfl rfl) hS rfl dX9_addRule_79 (Nat.le_of_ble_eq_true rfl) (Nat.le_of_ble_eq_true rfl)
      · rw [i_eq] at c7
        refine lv_iload hx hb dX9_addRule_25 (lv_at hl 4 rfl) ?_
        refine lv_iconst (v := 0) hx hb dX9_addRule_27 (by decide +kernel) ?_
        refine lv_bipush (v := 9) hx hb dX9_addRule_28 (by decide +kernel) ?_
        refine g_ai (D := D) (wc := []) (wr := [(aT, .inr (9, [.int 0, .ref (qT 1), .ref (qT 2), .ref (qT 3), .ref (qT 4), .ref (qT 5), .ref (qT 6), .ref (qT 7), .ref (qT 8)]))]) hP hD hS hA [] [0] rfl rfl rfl rfl (by decide) (fun hPc hDc => va_runSN (As := [.int y3, .int 0, .int 9]) (rest := []) hF (c_X11_within (l := l) (D := D) (cI := cI) (cB := cB) (cS := cS) (cZ := cZ) (cW := cW) (y0 := y3) (y1 := 0) (y2 := 9)) ⟨(va_cnB (host := "LastTongue") 3 hts (gGI (fun _ h => List.mem_cons_of_mem _ h) wm_150) rfl rfl rfl (hE.2.1 (RX9, 54, yX11_within, "LastTongue") (List.mem_of_getElem? (i := 4) rfl)) (htg _ wm_151) (by decide +kernel) ⟨Nat.le_of_ble_eq_true rfl, Nat.le_of_ble_eq_true rfl⟩), (htg _ wm_152), trivial⟩ (g_preS hE hPc hDc) rfl rfl hl.1 rfl (lv_room (Nat.le_of_ble_eq_true rfl)) dX9_addRule_30 ⟨Nat.le_of_ble_eq_true rfl, Nat.le_of_ble_eq_true rfl⟩) (fun r8 u9 H locs p10 hP hD hS => ?_)
        have hP : va_P D vwCl [(aT, .inr (9, [.int 0, .ref (qT 1), .ref (qT 2), .ref (qT 3), .ref (qT 4), .ref (qT 5), .ref (qT 6), .ref (qT 7), .ref (qT 8)]))] H := hP
        have hD : va_D A [(aT, .inr (9, [.int 0, .ref (qT 1), .ref (qT 2), .ref (qT 3), .ref (qT 4), .ref (qT 5), .ref (qT 6), .ref (qT 7), .ref (qT 8)]))] := hD
        rcases p10 with ⟨rfl, p10a⟩ | ⟨rfl, p10a⟩
        · skip
          refine lv_if_eq (tgt := 51) hx hb dX9_addRule_33 (by decide) (fun c9 => absurd c9 (by decide +kernel)) (fun _ => ?_)
          refine lv_iload hx hb dX9_addRule_36 (lv_at hl 5 rfl) ?_
          refine lv_iconst (v := 0) hx hb dX9_addRule_38 (by decide +kernel) ?_
          refine lv_bipush (v := 9) hx hb dX9_addRule_39 (by decide +kernel) ?_
          refine g_ai (D := D) (wc := []) (wr := [(aT, .inr (9, [.int 0, .ref (qT 1), .ref (qT 2), .ref (qT 3), .ref (qT 4), .ref (qT 5), .ref (qT 6), .ref (qT 7), .ref (qT 8)]))]) hP hD hS hA [] [0] rfl rfl rfl rfl (by decide) (fun hPc hDc => va_runSN (As := [.int y4, .int 0, .int 9]) (rest := []) hF (c_X11_within (l := l) (D := D) (cI := cI) (cB := cB) (cS := cS) (cZ := cZ) (cW := cW) (y0 := y4) (y1 := 0) (y2 := 9)) ⟨(va_cnB (host := "LastTongue") 3 hts (gGI (fun _ h => List.mem_cons_of_mem _ h) wm_150) rfl rfl rfl (hE.2.1 (RX9, 54, yX11_within, "LastTongue") (List.mem_of_getElem? (i := 4) rfl)) (htg _ wm_151) (by decide +kernel) ⟨Nat.le_of_ble_eq_true rfl, Nat.le_of_ble_eq_true rfl⟩), (htg _ wm_152), trivial⟩ (g_preS hE hPc hDc) rfl rfl hl.1 rfl (lv_room (Nat.le_of_ble_eq_true rfl)) dX9_addRule_41 ⟨Nat.le_of_ble_eq_true rfl, Nat.le_of_ble_eq_true rfl⟩) (fun r11 u12 H locs p13 hP hD hS => ?_)
          have hP : va_P D vwCl [(aT, .inr (9, [.int 0, .ref (qT 1), .ref (qT 2), .ref (qT 3), .ref (qT 4), .ref (qT 5), .ref (qT 6), .ref (qT 7), .ref (qT 8)]))] H := hP
          have hD : va_D A [(aT, .inr (9, [.int 0, .ref (qT 1), .ref (qT 2), .ref (qT 3), .ref (qT 4), .ref (qT 5), .ref (qT 6), .ref (qT 7), .ref (qT 8)]))] := hD
          rcases p13 with ⟨rfl, p13a⟩ | ⟨rfl, p13a⟩
          · skip
            refine lv_if_eq (tgt := 51) hx hb dX9_addRule_44 (by decide) (fun c9 => absurd c9 (by decide +kernel)) (fun _ => ?_)
            refine lv_iconst (v := 1) hx hb dX9_addRule_47 (by decide +kernel) ?_
            refine lv_goto (tgt := 52) hx hb dX9_addRule_48 (by decide) ?_
            refine lv_istore (lv' := [(6, .int 1), (0, .ref aT), (1, .int y0), (2, .int y1), (3, .int y2), (4, .int y3), (5, .int y4)]) hx hb dX9_addRule_52 hl (by decide) rfl (fun ls hl => ?_)
            refine lv_iload hx hb dX9_addRule_54 (lv_at hl 0 rfl) ?_
            refine lv_if_eq (tgt := 78) hx hb dX9_addRule_56 (by decide) (fun c9 => absurd c9 (by decide +kernel)) (fun _ => ?_)
            refine lv_aload_n hx hb dX9_addRule_59 rfl (lv_at hl 1 rfl) ?_
            refine lv_iload_n hx hb dX9_addRule_60 rfl (lv_at hl 2 rfl) ?_
            refine g_ai (D := D) (wc := [(aT, .inr (9, [.int 0, .ref (qT 1), .ref (qT 2), .ref (qT 3), .ref (qT 4), .ref (qT 5), .ref (qT 6), .ref (qT 7), .ref (qT 8)]))]) (wr := []) hP hD hS hA [0] [] rfl rfl rfl rfl (by decide) (fun hPc hDc => va_runV (As := [.int y0]) (rest := []) hF (c_X9_has (l := l) (D := D) (cI := cI) (cB := cB) (cS := cS) (cZ := cZ) (cW := cW) (aT := aT) (y0 := y0) (qT := qT)) (cwV 1 hts (gGV (fun _ h => List.mem_cons_of_mem _ h) wm_130 wm_131 wm_132 wm_75 wm_133) rfl rfl rfl (by decide +kernel) ⟨Nat.le_of_ble_eq_true rfl, Nat.le_of_ble_eq_true rfl⟩) (g_preV (q := (RX9, TX9, 9)) (ci := 9) (q0 := 0) hE hPc hDc rfl rfl) rfl rfl hl.1 rfl (lv_room (Nat.le_of_ble_eq_true rfl)) dX9_addRule_61 ⟨Nat.le_of_ble_eq_true rfl, Nat.le_of_ble_eq_true rfl⟩) (fun r14 u15 H locs p16 hP hD hS => ?_)
            have hP : va_P D vwCl [(aT, .inr (9, [.int 0, .ref (qT 1), .ref (qT 2), .ref (qT 3), .ref (qT 4), .ref (qT 5), .ref (qT 6), .ref (qT 7), .ref (qT 8)]))] H := hP
            have hD : va_D A [(aT, .inr (9, [.int 0, .ref (qT 1), .ref (qT 2), .ref (qT 3), .ref (qT 4), .ref (qT 5), .ref (qT 6), .ref (qT 7), .ref (qT 8)]))] := hD
            obtain rfl := p16
            refine lv_if_eq (tgt := 78) hx hb dX9_addRule_64 (by decide) (fun _ => ?_) (fun c9 => absurd c9 (by decide +kernel))
            refine lv_iconst (v := (-1)) hx hb dX9_addRule_78 (by decide +kernel) ?_
            exact g_iret () hF hr rfl hlocks (hP.sub [] rfl) (hD.sub [] rfl rfl) hS rfl dX9_addRule_79 (Nat.le_of_ble_eq_true rfl) (Nat.le_of_ble_eq_true rfl)
          · skip
            refine lv_if_eq (tgt := 51) hx hb dX9_addRule_44 (by decide) (fun _ => ?_) (fun c9 => absurd c9 (by decide +kernel))
            refine lv_iconst (v := 0) hx hb dX9_addRule_51 (by decide +kernel) ?_
            refine lv_istore (lv' := [(6, .int 0), (0, .ref aT), (1, .int y0), (2, .int y1), (3, .int y2), (4, .int y3), (5, .int y4)]) hx hb dX9_addRule_52 hl (by decide) rfl (fun ls hl => ?_)
            refine lv_iload hx hb dX9_addRule_54 (lv_at hl 0 rfl) ?_
            refine lv_if_eq (tgt := 78) hx hb dX9_addRule_56 (by decide) (fun _ => ?_) (fun c9 => absurd c9 (by decide +kernel))
            refine lv_iconst (v := (-1)) hx hb dX9_addRule_78 (by decide +kernel) ?_
            exact g_iret () hF hr rfl hlocks (hP.sub [] rfl) (hD.sub [] rfl rfl) hS rfl dX9_addRule_79 (Nat.le_of_ble_eq_true rfl) (Nat.le_of_ble_eq_true rfl)
        · skip
          refine lv_if_eq (tgt := 51) hx hb dX9_addRule_33 (by decide) (fun _ => ?_) (fun c9 => absurd c9 (by decide +kernel))
          refine lv_iconst (v := 0) hx hb dX9_addRule_51 (by decide +kernel) ?_
          refine lv_istore (lv' := [(6, .int 0), (0, .ref aT), (1, .int y0), (2, .int y1), (3, .int y2), (4, .int y3), (5, .int y4)]) hx hb dX9_addRule_52 hl (by decide) rfl (fun ls hl => ?_)
          refine lv_iload hx hb dX9_addRule_54 (lv_at hl 0 rfl) ?_
          refine lv_if_eq (tgt := 78) hx hb dX9_addRule_56 (by decide) (fun _ => ?_) (fun c9 => absurd c9 (by decide +kernel))
          refine lv_iconst (v := (-1)) hx hb dX9_addRule_78 (by decide +kernel) ?_
          exact g_iret () hF hr rfl hlocks (hP.sub [] rfl) (hD.sub [] rfl rfl) hS rfl dX9_addRule_79 (Nat.le_of_ble_eq_true rfl) (Nat.le_of_ble_eq_true rfl)
    · skip
      refine lv_if_eq (tgt := 51) hx hb dX9_addRule_17 (by decide) (fun _ => ?_) (fun c9 => absurd c9 (by decide +kernel))
      refine lv_iconst (v := 0) hx hb dX9_addRule_51 (by decide +kernel) ?_
      refine lv_istore (lv' := [(6, .int 0), (0, .ref aT), (1, .int y0), (2, .int y1), (3, .int y2), (4, .int y3), (5, .int y4)]) hx hb dX9_addRule_52 hl (by decide) rfl (fun ls hl => ?_)
      refine lv_iload hx hb dX9_addRule_54 (lv_at hl 0 rfl) ?_
      refine lv_if_eq (tgt := 78) hx hb dX9_addRule_56 (by decide) (fun _ => ?_) (fun c9 => absurd c9 (by decide +kernel))
      refine lv_iconst (v := (-1)) hx hb dX9_addRule_78 (by decide +kernel) ?_
      exact g_iret () hF hr rfl hlocks (hP.sub [] rfl) (hD.sub [] rfl rfl) hS rfl dX9_addRule_79 (Nat.le_of_ble_eq_true rfl) (Nat.le_of_ble_eq_true rfl)
  · skip
    refine lv_if_eq (tgt := 51) hx hb dX9_addRule_7 (by decide) (fun _ => ?_) (fun c9 => absurd c9 (by decide +kernel))
    refine lv_iconst (v := 0) hx hb dX9_addRule_51 (by decide +kernel) ?_
    refine lv_istore (lv' := [(6, .int 0), (0, .ref aT), (1, .int y0), (2, .int y1), (3, .int y2), (4, .int y3), (5, .int y4)]) hx hb dX9_addRule_52 hl (by decide) rfl (fun ls hl => ?_)
    refine lv_iload hx hb dX9_addRule_54 (lv_at hl 0 rfl) ?_
    refine lv_if_eq (tgt := 78) hx hb dX9_addRule_56 (by decide) (fun _ => ?_) (fun c9 => absurd c9 (by decide +kernel))
    refine lv_iconst (v := (-1)) hx hb dX9_addRule_78 (by decide +kernel) ?_
    exact g_iret () hF hr rfl hlocks (hP.sub [] rfl) (hD.sub [] rfl rfl) hS rfl dX9_addRule_79 (Nat.le_of_ble_eq_true rfl) (Nat.le_of_ble_eq_true rfl)
set_option maxHeartbeats 8000000 in
set_option maxRecDepth 100000 in
theorem c_X9_dropRule {l : Launch} {D : va_G} {cI cB cS cZ cW : ClassId} {aT : Nat} {y0 : Int32} {qT : Nat → Nat}  {sz : Nat} : MI l D (gT cI cB cS cZ cW) yX9_dropRule (wG yX9_dropRule cX9_dropRule 2 (some .boolean)) { frames := 1, cells := 0, slots := 0, locals := 21 } [.ref aT, .int y0] [(aT, .inr (9, [.int 0, .ref (qT 1), .ref (qT 2), .ref (qT 3), .ref (qT 4), .ref (qT 5), .ref (qT 6), .ref (qT 7), .ref (qT 8)]))] sz (fun (r : Int32) (u : Unit) => r = 0) (fun (u : Unit) => [] : (Unit) → va_W) 0 0 := by
  refine g_enter (y := yX9_dropRule) (w := (wG yX9_dropRule cX9_dropRule 2 (some .boolean))) (As := [.ref aT, .int y0]) (D := D) (T := gT cI cB cS cZ cW) (ws := [(aT, .inr (9, [.int 0, .ref (qT 1), .ref (qT 2), .ref (qT 3), .ref (qT 4), .ref (qT 5), .ref (qT 6), .ref (qT 7), .ref (qT 8)]))]) (gQi D (fun (r : Int32) (u : Unit) => r = 0) (fun (u : Unit) => [] : (Unit) → va_W)) (cc := cX9_dropRule) (maxL := 2) (ret := (some .boolean)) (by decide) rfl (Nat.le_of_ble_eq_true rfl) ?_
  intro p e s m below meth c A ls hF hr hlocks hname hsz hE hA hP hD hS hl
  have hF : CallFix p m c cX9_dropRule 2 s ([.ref aT, .int y0] : List Value).toArray (wG yX9_dropRule cX9_dropRule 2 (some .boolean)) RX9 := hF
  obtain ⟨hx, hb, hml, hown, hts⟩ := id hF
  have htg : ∀ w ∈ GL, w.before ([.ref aT, .int y0] : List Value).toArray s = true := fun w h => hts w (List.mem_cons_of_mem _ h)
  have hl : lv_has ls 2 [(0, .ref aT), (1, .int y0)] := hl
  have z0 := t_0
  refine lv_aload_n hx hb dX9_dropRule_0 rfl (lv_at hl 0 rfl) ?_
  refine lv_iload_n hx hb dX9_dropRule_1 rfl (lv_at hl 1 rfl) ?_
  refine g_ai (D := D) (wc := [(aT, .inr (9, [.int 0, .ref (qT 1), .ref (qT 2), .ref (qT 3), .ref (qT 4), .ref (qT 5), .ref (qT 6), .ref (qT 7), .ref (qT 8)]))]) (wr := []) hP hD hS hA [0] [] rfl rfl rfl rfl (by decide) (fun hPc hDc => va_runV (As := [.int y0]) (rest := []) hF (c_X9_has (l := l) (D := D) (cI := cI) (cB := cB) (cS := cS) (cZ := cZ) (cW := cW) (aT := aT) (y0 := y0) (qT := qT)) (cwV 1 hts (gGV (fun _ h => List.mem_cons_of_mem _ h) wm_130 wm_131 wm_132 wm_75 wm_133) rfl rfl rfl (by decide +kernel) ⟨Nat.le_of_ble_eq_true rfl, Nat.le_of_ble_eq_true rfl⟩) (g_preV (q := (RX9, TX9, 9)) (ci := 9) (q0 := 0) hE hPc hDc rfl rfl) rfl rfl hl.1 rfl (lv_room (Nat.le_of_ble_eq_true rfl)) dX9_dropRule_2 ⟨Nat.le_of_ble_eq_true rfl, Nat.le_of_ble_eq_true rfl⟩) (fun r1 u2 H locs p3 hP hD hS => ?_)
  have hP : va_P D vwCl [(aT, .inr (9, [.int 0, .ref (qT 1), .ref (qT 2), .ref (qT 3), .ref (qT 4), .ref (qT 5), .ref (qT 6), .ref (qT 7), .ref (qT 8)]))] H := hP
  have hD : va_D A [(aT, .inr (9, [.int 0, .ref (qT 1), .ref (qT 2), .ref (qT 3), .ref (qT 4), .ref (qT 5), .ref (qT 6), .ref (qT 7), .ref (qT 8)]))] := hD
  obtain rfl := p3
  refine lv_if_eq (tgt := 17) hx hb dX9_dropRule_5 (by decide) (fun _ => ?_) (fun c9 => absurd c9 (by decide +kernel))
  refine lv_iconst (v := 0) hx hb dX9_dropRule_17 (by decide +kernel) ?_
  exact g_iret () hF hr rfl hlocks (hP.sub [] rfl) (hD.sub [] rfl rfl) hS rfl dX9_dropRule_18 (Nat.le_of_ble_eq_true rfl) (Nat.le_of_ble_eq_true rfl)
set_option maxHeartbeats 8000000 in
set_option maxRecDepth 100000 in
theorem c_X9_setBreak {l : Launch} {D : va_G} {cI cB cS cZ cW : ClassId} {aT : Nat} {y0 : Int32} {y1 : Int32} {y2 : Int32} {qT : Nat → Nat}  {sz : Nat} : MI l D (gT cI cB cS cZ cW) yX9_setBreak (wG yX9_setBreak cX9_setBreak 5 (some .boolean)) { frames := 1, cells := 0, slots := 0, locals := 21 } [.ref aT, .int y0, .int y1, .int y2] [(aT, .inr (9, [.int 0, .ref (qT 1), .ref (qT 2), .ref (qT 3), .ref (qT 4), .ref (qT 5), .ref (qT 6), .ref (qT 7), .ref (qT 8)]))] sz (fun (r : Int32) (u : Unit) => r = 0) (fun (u : Unit) => [] : (Unit) → va_W) 0 0 := by
  refine g_enter (y := yX9_setBreak) (w := (wG yX9_setBreak cX9_setBreak 5 (some .boolean))) (As := [.ref aT, .int y0, .int y1, .int y2]) (D := D) (T := gT cI cB cS cZ cW) (ws := [(aT, .inr (9, [.int 0, .ref (qT 1), .ref (qT 2), .ref (qT 3), .ref (qT 4), .ref (qT 5), .ref (qT 6), .ref (qT 7), .ref (qT 8)]))]) (gQi D (fun (r : Int32) (u : Unit) => r = 0) (fun (u : Unit) => [] : (Unit) → va_W)) (cc := cX9_setBreak) (maxL := 5) (ret := (some .boolean)) (by decide) rfl (Nat.le_of_ble_eq_true rfl) ?_
  intro p e s m below meth c A ls hF hr hlocks hname hsz hE hA hP hD hS hl
  have hF : CallFix p m c cX9_setBreak 5 s ([.ref aT, .int y0, .int y1, .int y2] : List Value).toArray (wG yX9_setBreak cX9_setBreak 5 (some .boolean)) RX9 := hF
  obtain ⟨hx, hb, hml, hown, hts⟩ := id hF
  have htg : ∀ w ∈ GL, w.before ([.ref aT, .int y0, .int y1, .int y2] : List Value).toArray s = true := fun w h => hts w (List.mem_cons_of_mem _ h)
  have hl : lv_has ls 5 [(0, .ref aT), (1, .int y0), (2, .int y1), (3, .int y2)] := hl
  have z0 := t_0
  refine lv_aload_n hx hb dX9_setBreak_0 rfl (lv_at hl 0 rfl) ?_
  refine lv_iload_n hx hb dX9_setBreak_1 rfl (lv_at hl 1 rfl) ?_
  refine g_ai (D := D) (wc := [(aT, .inr (9, [.int 0, .ref (qT 1), .ref (qT 2), .ref (qT 3), .ref (qT 4), .ref (qT 5), .ref (qT 6), .ref (qT 7), .ref (qT 8)]))]) (wr := []) hP hD hS hA [0] [] rfl rfl rfl rfl (by decide) (fun hPc hDc => va_runV (As := [.int y0]) (rest := []) hF (c_X9_has (l := l) (D := D) (cI := cI) (cB := cB) (cS := cS) (cZ := cZ) (cW := cW) (aT := aT) (y0 := y0) (qT := qT)) (cwV 1 hts (gGV (fun _ h => List.mem_cons_of_mem _ h) wm_130 wm_131 wm_132 wm_75 wm_133) rfl rfl rfl (by decide +kernel) ⟨Nat.le_of_ble_eq_true rfl, Nat.le_of_ble_eq_true rfl⟩) (g_preV (q := (RX9, TX9, 9)) (ci := 9) (q0 := 0) hE hPc hDc rfl rfl) rfl rfl hl.1 rfl (lv_room (Nat.le_of_ble_eq_true rfl)) dX9_setBreak_2 ⟨Nat.le_of_ble_eq_true rfl, Nat.le_of_ble_eq_true rfl⟩) (fun r1 u2 H locs p3 hP hD hS => ?_)
  have hP : va_P D vwCl [(aT, .inr (9, [.int 0, .ref (qT 1), .ref (qT 2), .ref (qT 3), .ref (qT 4), .ref (qT 5), .ref (qT 6), .ref (qT 7), .ref (qT 8)]))] H := hP
  have hD : va_D A [(aT, .inr (9, [.int 0, .ref (qT 1), .ref (qT 2), .ref (qT 3), .ref (qT 4), .ref (qT 5), .ref (qT 6), .ref (qT 7), .ref (qT 8)]))] := hD
  obtain rfl := p3
  refine lv_if_eq (tgt := 33) hx hb dX9_setBreak_5 (by decide) (fun _ => ?_) (fun c9 => absurd c9 (by decide +kernel))
  refine lv_iconst (v := 0) hx hb dX9_setBreak_33 (by decide +kernel) ?_
  refine lv_istore (lv' := [(4, .int 0), (0, .ref aT), (1, .int y0), (2, .int y1), (3, .int y2)]) hx hb dX9_setBreak_34 hl (by decide) rfl (fun ls hl => ?_)
  refine lv_iload hx hb dX9_setBreak_36 (lv_at hl 0 rfl) ?_
  refine lv_if_ne (tgt := 43) hx hb dX9_setBreak_38 (by decide) (fun c9 => absurd c9 (by decide +kernel)) (fun _ => ?_)
  refine lv_iconst (v := 0) hx hb dX9_setBreak_41 (by decide +kernel) ?_
  exact g_iret () hF hr rfl hlocks (hP.sub [] rfl) (hD.sub [] rfl rfl) hS rfl dX9_setBreak_42 (Nat.le_of_ble_eq_true rfl) (Nat.le_of_ble_eq_true rfl)
