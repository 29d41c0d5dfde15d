set_option maxHeartbeats 8000000 in
set_option maxRecDepth 100000 in
theorem c_X12_custom {l : Launch} {D : va_G} {cI cB cS cZ cW : ClassId} {aM : Nat} {y0 : Int32} {qM : Nat → Nat}  {sz : Nat} : MI l D (gT cI cB cS cZ cW) yX12_custom (wG yX12_custom cX12_custom 7 (some .int)) { frames := 2, cells := 0, slots := 0, locals := 42 } [.ref aM, .int y0] [(aM, oM qM 0 0 0 0 0 0 0 0 0 0 0 0 0 0 0 0 0 0), ((qM 2), .inl (cI, 4, .inl (fun _ => 0))), ((qM 3), .inl (cI, 4, .inl (fun _ => 0))), ((qM 4), .inl (cI, 4, .inl kFP)), ((qM 29), .inl (cI, 4, .inl (fun _ => 0))), ((qM 30), .inl (cI, 16, .inl (fun _ => 0))), ((qM 31), .inl (cI, 16, .inl (fun _ => 0)))] sz (fun (r : Int32) (u : Unit) => r = S_custom y0) (fun (u : Unit) => [] : (Unit) → va_W) 0 0 := by
  refine g_enter (y := yX12_custom) (w := (wG yX12_custom cX12_custom 7 (some .int))) (As := [.ref aM, .int y0]) (D := D) (T := gT cI cB cS cZ cW) (ws := [(aM, oM qM 0 0 0 0 0 0 0 0 0 0 0 0 0 0 0 0 0 0), ((qM 2), .inl (cI, 4, .inl (fun _ => 0))), ((qM 3), .inl (cI, 4, .inl (fun _ => 0))), ((qM 4), .inl (cI, 4, .inl kFP)), ((qM 29), .inl (cI, 4, .inl (fun _ => 0))), ((qM 30), .inl (cI, 16, .inl (fun _ => 0))), ((qM 31), .inl (cI, 16, .inl (fun _ => 0)))]) (gQi D (fun (r : Int32) (u : Unit) => r = S_custom y0) (fun (u : Unit) => [] : (Unit) → va_W)) (cc := cX12_custom) (maxL := 7) (ret := (some .int)) (by decide) rfl (Nat.le_of_ble_eq_true rfl) ?_
  intro p e s m below meth c A ls hF hr hlocks hname hsz hE hA hP hD hS hl
  have hF : CallFix p m c cX12_custom 7 s ([.ref aM, .int y0] : List Value).toArray (wG yX12_custom cX12_custom 7 (some .int)) RX12 := hF
  obtain ⟨hx, hb, hml, hown, hts⟩ := id hF
  have htg : ∀ w ∈ GL, w.before ([.ref aM, .int y0] : List Value).toArray s = true := fun w h => hts w (List.mem_cons_of_mem _ h)
  have hl : lv_has ls 7 [(0, .ref aM), (1, .int y0)] := hl
  have zm2 := tm_2
  have zm1 := tm_1
  have z0 := t_0
  have z1 := t_1
  have z4 := t_4
  have z999 := t_999
  refine lv_aload_n hx hb dX12_custom_0 rfl (lv_at hl 0 rfl) ?_
  refine lv_iconst (v := 0) hx hb dX12_custom_1 (by decide +kernel) ?_
  refine va_put (D := D) (ci := 12) (v := .int 0) (ty := tyX12 0) (C := RX12) (T := TX12) (N := 97) hx hb htg iwG_12 tyX12 tyX12_ok nmX12 hown hE.1 hP hD hS 0 rfl rfl 0 (by decide) (htg _ wm_588) (fun _ h9 => h9) rfl (by decide +kernel) rfl rfl (Nat.le_of_ble_eq_true rfl) dX12_custom_2 (fun H locs hP hD hS => ?_)
  have hP : va_P D vwCl [(aM, oM qM 0 0 0 0 0 0 0 0 0 0 0 0 0 0 0 0 0 0), ((qM 2), .inl (cI, 4, .inl (fun _ => 0))), ((qM 3), .inl (cI, 4, .inl (fun _ => 0))), ((qM 4), .inl (cI, 4, .inl kFP)), ((qM 29), .inl (cI, 4, .inl (fun _ => 0))), ((qM 30), .inl (cI, 16, .inl (fun _ => 0))), ((qM 31), .inl (cI, 16, .inl (fun _ => 0)))] H := hP
  have hD : va_D A [(aM, oM qM 0 0 0 0 0 0 0 0 0 0 0 0 0 0 0 0 0 0), ((qM 2), .inl (cI, 4, .inl (fun _ => 0))), ((qM 3), .inl (cI, 4, .inl (fun _ => 0))), ((qM 4), .inl (cI, 4, .inl kFP)), ((qM 29), .inl (cI, 4, .inl (fun _ => 0))), ((qM 30), .inl (cI, 16, .inl (fun _ => 0))), ((qM 31), .inl (cI, 16, .inl (fun _ => 0)))] := hD
  refine lv_aload_n hx hb dX12_custom_5 rfl (lv_at hl 0 rfl) ?_
  refine lv_aload_n hx hb dX12_custom_6 rfl (lv_at hl 0 rfl) ?_
  refine va_get (D := D) (ci := 12) (v := .ref (qM 2)) (C := RX12) (T := TX12) (N := 97) hx hb htg iwG_12 hown hE.1 hP 0 rfl rfl 2 (by decide) (htg _ wm_468) (fun _ h9 => h9) rfl dX12_custom_7 ?_
  refine lv_iconst (v := 0) hx hb dX12_custom_10 (by decide +kernel) ?_
  refine va_iald hx hb hE.1 hP 1 0 rfl rfl (vp_in_iff.mpr ⟨by decide +kernel, by decide +kernel⟩) dX12_custom_11 ?_
  refine g_top 0 rfl ?_
  refine va_put (D := D) (ci := 12) (v := .int 0) (ty := tyX12 63) (C := RX12) (T := TX12) (N := 97) hx hb htg iwG_12 tyX12 tyX12_ok nmX12 hown hE.1 hP hD hS 0 rfl rfl 63 (by decide) (htg _ wm_561) (fun _ h9 => h9) rfl (by decide +kernel) rfl rfl (Nat.le_of_ble_eq_true rfl) dX12_custom_12 (fun H locs hP hD hS => ?_)
  have hP : va_P D vwCl [(aM, oM qM 0 0 0 0 0 0 0 0 0 0 0 0 0 0 0 0 0 0), ((qM 2), .inl (cI, 4, .inl (fun _ => 0))), ((qM 3), .inl (cI, 4, .inl (fun _ => 0))), ((qM 4), .inl (cI, 4, .inl kFP)), ((qM 29), .inl (cI, 4, .inl (fun _ => 0))), ((qM 30), .inl (cI, 16, .inl (fun _ => 0))), ((qM 31), .inl (cI, 16, .inl (fun _ => 0)))] H := hP
  have hD : va_D A [(aM, oM qM 0 0 0 0 0 0 0 0 0 0 0 0 0 0 0 0 0 0), ((qM 2), .inl (cI, 4, .inl (fun _ => 0))), ((qM 3), .inl (cI, 4, .inl (fun _ => 0))), ((qM 4), .inl (cI, 4, .inl kFP)), ((qM 29), .inl (cI, 4, .inl (fun _ => 0))), ((qM 30), .inl (cI, 16, .inl (fun _ => 0))), ((qM 31), .inl (cI, 16, .inl (fun _ => 0)))] := hD
  refine lv_aload_n hx hb dX12_custom_15 rfl (lv_at hl 0 rfl) ?_
  refine va_get (D := D) (ci := 12) (v := .ref (qM 2)) (C := RX12) (T := TX12) (N := 97) hx hb htg iwG_12 hown hE.1 hP 0 rfl rfl 2 (by decide) (htg _ wm_468) (fun _ h9 => h9) rfl dX12_custom_16 ?_
  refine lv_iconst (v := 0) hx hb dX12_custom_19 (by decide +kernel) ?_
  refine lv_iconst (v := 0) hx hb dX12_custom_20 (by decide +kernel) ?_
  refine va_iast hx hb hE.1 hP hD hS 1 0 rfl rfl (vp_in_iff.mpr ⟨by decide +kernel, by decide +kernel⟩) dX12_custom_21 (fun H locs hP hD hS => ?_)
  obtain ⟨g1, eg1, fg1⟩ : ∃ gz : Nat → Int32, gz = upd (fun _ => 0) (0 : Int32).toNatClampNeg 0 ∧ gz (0 : Int32).toNatClampNeg = 0 := ⟨_, rfl, pk_us⟩
  have hP : va_P D vwCl [(aM, oM qM 0 0 0 0 0 0 0 0 0 0 0 0 0 0 0 0 0 0), ((qM 2), .inl (cI, 4, .inl g1)), ((qM 3), .inl (cI, 4, .inl (fun _ => 0))), ((qM 4), .inl (cI, 4, .inl kFP)), ((qM 29), .inl (cI, 4, .inl (fun _ => 0))), ((qM 30), .inl (cI, 16, .inl (fun _ => 0))), ((qM 31), .inl (cI, 16, .inl (fun _ => 0)))] H := by rw [eg1]; exact hP
  have hD : va_D A [(aM, oM qM 0 0 0 0 0 0 0 0 0 0 0 0 0 0 0 0 0 0), ((qM 2), .inl (cI, 4, .inl g1)), ((qM 3), .inl (cI, 4, .inl (fun _ => 0))), ((qM 4), .inl (cI, 4, .inl kFP)), ((qM 29), .inl (cI, 4, .inl (fun _ => 0))), ((qM 30), .inl (cI, 16, .inl (fun _ => 0))), ((qM 31), .inl (cI, 16, .inl (fun _ => 0)))] := by rw [eg1]; exact hD
  refine lv_aload_n hx hb dX12_custom_22 rfl (lv_at hl 0 rfl) ?_
  refine va_get (D := D) (ci := 12) (v := .ref (qM 3)) (C := RX12) (T := TX12) (N := 97) hx hb htg iwG_12 hown hE.1 hP 0 rfl rfl 3 (by decide) (htg _ wm_469) (fun _ h9 => h9) rfl dX12_custom_23 ?_
  refine lv_iconst (v := 0) hx hb dX12_custom_26 (by decide +kernel) ?_
  refine lv_iconst (v := 0) hx hb dX12_custom_27 (by decide +kernel) ?_
  refine va_iast hx hb hE.1 hP hD hS 2 0 rfl rfl (vp_in_iff.mpr ⟨by decide +kernel, by decide +kernel⟩) dX12_custom_28 (fun H locs hP hD hS => ?_)
  obtain ⟨g2, eg2, fg2⟩ : ∃ gz : Nat → Int32, gz = upd (fun _ => 0) (0 : Int32).toNatClampNeg 0 ∧ gz (0 : Int32).toNatClampNeg = 0 := ⟨_, rfl, pk_us⟩
  have hP : va_P D vwCl [(aM, oM qM 0 0 0 0 0 0 0 0 0 0 0 0 0 0 0 0 0 0), ((qM 2), .inl (cI, 4, .inl g1)), ((qM 3), .inl (cI, 4, .inl g2)), ((qM 4), .inl (cI, 4, .inl kFP)), ((qM 29), .inl (cI, 4, .inl (fun _ => 0))), ((qM 30), .inl (cI, 16, .inl (fun _ => 0))), ((qM 31), .inl (cI, 16, .inl (fun _ => 0)))] H := by rw [eg2]; exact hP
  have hD : va_D A [(aM, oM qM 0 0 0 0 0 0 0 0 0 0 0 0 0 0 0 0 0 0), ((qM 2), .inl (cI, 4, .inl g1)), ((qM 3), .inl (cI, 4, .inl g2)), ((qM 4), .inl (cI, 4, .inl kFP)), ((qM 29), .inl (cI, 4, .inl (fun _ => 0))), ((qM 30), .inl (cI, 16, .inl (fun _ => 0))), ((qM 31), .inl (cI, 16, .inl (fun _ => 0)))] := by rw [eg2]; exact hD
  refine lv_aload_n hx hb dX12_custom_29 rfl (lv_at hl 0 rfl) ?_
  refine va_get (D := D) (ci := 12) (v := .ref (qM 4)) (C := RX12) (T := TX12) (N := 97) hx hb htg iwG_12 hown hE.1 hP 0 rfl rfl 4 (by decide) (htg _ wm_470) (fun _ h9 => h9) rfl dX12_custom_30 ?_
  refine lv_iconst (v := 0) hx hb dX12_custom_33 (by decide +kernel) ?_
  refine lv_iconst (v := (-1)) hx hb dX12_custom_34 (by decide +kernel) ?_
  refine va_iast hx hb hE.1 hP hD hS 3 0 rfl rfl (vp_in_iff.mpr ⟨by decide +kernel, by decide +kernel⟩) dX12_custom_35 (fun H locs hP hD hS => ?_)
  obtain ⟨g3, eg3, fg3⟩ : ∃ gz : Nat → Int32, gz = upd kFP (0 : Int32).toNatClampNeg (-1) ∧ gz (0 : Int32).toNatClampNeg = (-1) := ⟨_, rfl, pk_us⟩
  have hP : va_P D vwCl [(aM, oM qM 0 0 0 0 0 0 0 0 0 0 0 0 0 0 0 0 0 0), ((qM 2), .inl (cI, 4, .inl g1)), ((qM 3), .inl (cI, 4, .inl g2)), ((qM 4), .inl (cI, 4, .inl g3)), ((qM 29), .inl (cI, 4, .inl (fun _ => 0))), ((qM 30), .inl (cI, 16, .inl (fun _ => 0))), ((qM 31), .inl (cI, 16, .inl (fun _ => 0)))] H := by rw [eg3]; exact hP
  have hD : va_D A [(aM, oM qM 0 0 0 0 0 0 0 0 0 0 0 0 0 0 0 0 0 0), ((qM 2), .inl (cI, 4, .inl g1)), ((qM 3), .inl (cI, 4, .inl g2)), ((qM 4), .inl (cI, 4, .inl g3)), ((qM 29), .inl (cI, 4, .inl (fun _ => 0))), ((qM 30), .inl (cI, 16, .inl (fun _ => 0))), ((qM 31), .inl (cI, 16, .inl (fun _ => 0)))] := by rw [eg3]; exact hD
  refine lv_aload_n hx hb dX12_custom_36 rfl (lv_at hl 0 rfl) ?_
  refine va_get (D := D) (ci := 12) (v := .ref (qM 29)) (C := RX12) (T := TX12) (N := 97) hx hb htg iwG_12 hown hE.1 hP 0 rfl rfl 29 (by decide) (htg _ wm_496) (fun _ h9 => h9) rfl dX12_custom_37 ?_
  refine lv_iconst (v := 0) hx hb dX12_custom_40 (by decide +kernel) ?_
  refine va_iald hx hb hE.1 hP 4 0 rfl rfl (vp_in_iff.mpr ⟨by decide +kernel, by decide +kernel⟩) dX12_custom_41 ?_
  refine g_top 0 rfl ?_
  refine lv_iconst (v := 4) hx hb dX12_custom_42 (by decide +kernel) ?_
  refine lv_icmp_eq (tgt := 53) hx hb dX12_custom_43 (by decide) (fun c9 => absurd c9 (by decide +kernel)) (fun _ => ?_)
  refine lv_iload_n hx hb dX12_custom_46 rfl (lv_at hl 1 rfl) ?_
  refine g_ai (D := D) (wc := []) (wr := [(aM, oM qM 0 0 0 0 0 0 0 0 0 0 0 0 0 0 0 0 0 0), ((qM 2), .inl (cI, 4, .inl g1)), ((qM 3), .inl (cI, 4, .inl g2)), ((qM 4), .inl (cI, 4, .inl g3)), ((qM 29), .inl (cI, 4, .inl (fun _ => 0))), ((qM 30), .inl (cI, 16, .inl (fun _ => 0))), ((qM 31), .inl (cI, 16, .inl (fun _ => 0)))]) hP hD hS hA [] [0, 1, 2, 3, 4, 5, 6] rfl rfl rfl rfl (by decide) (fun hPc hDc => va_runS (As := [.int y0]) (rest := []) hF (c_X12_isDay (l := l) (D := D) (cI := cI) (cB := cB) (cS := cS) (cZ := cZ) (cW := cW) (y0 := y0)) (va_cwS 1 hts (gGS (fun _ h => List.mem_cons_of_mem _ h) wm_603 wm_604 wm_550 wm_605) rfl rfl rfl (by decide +kernel) ⟨Nat.le_of_ble_eq_true rfl, Nat.le_of_ble_eq_true rfl⟩) (g_preS hE hPc hDc) rfl rfl hl.1 rfl (lv_room (Nat.le_of_ble_eq_true rfl)) dX12_custom_47 ⟨Nat.le_of_ble_eq_true rfl, Nat.le_of_ble_eq_true rfl⟩) (fun r4 u5 H locs p6 hP hD hS => ?_)
  have hP : va_P D vwCl [(aM, oM qM 0 0 0 0 0 0 0 0 0 0 0 0 0 0 0 0 0 0), ((qM 2), .inl (cI, 4, .inl g1)), ((qM 3), .inl (cI, 4, .inl g2)), ((qM 4), .inl (cI, 4, .inl g3)), ((qM 29), .inl (cI, 4, .inl (fun _ => 0))), ((qM 30), .inl (cI, 16, .inl (fun _ => 0))), ((qM 31), .inl (cI, 16, .inl (fun _ => 0)))] H := hP
  have hD : va_D A [(aM, oM qM 0 0 0 0 0 0 0 0 0 0 0 0 0 0 0 0 0 0), ((qM 2), .inl (cI, 4, .inl g1)), ((qM 3), .inl (cI, 4, .inl g2)), ((qM 4), .inl (cI, 4, .inl g3)), ((qM 29), .inl (cI, 4, .inl (fun _ => 0))), ((qM 30), .inl (cI, 16, .inl (fun _ => 0))), ((qM 31), .inl (cI, 16, .inl (fun _ => 0)))] := hD
  rcases p6 with ⟨rfl, p6a⟩ | ⟨rfl, p6a⟩
  · skip
    refine lv_if_ne (tgt := 56) hx hb dX12_custom_50 (by decide) (fun _ => ?_) (fun c9 => absurd c9 (by decide +kernel))
    refine lv_aload_n hx hb dX12_custom_56 rfl (lv_at hl 0 rfl) ?_
    refine lv_iconst (v := 0) hx hb dX12_custom_57 (by decide +kernel) ?_
    refine va_put (D := D) (ci := 12) (v := .int 0) (ty := tyX12 62) (C := RX12) (T := TX12) (N := 97) hx hb htg iwG_12 tyX12 tyX12_ok nmX12 hown hE.1 hP hD hS 0 rfl rfl 62 (by decide) (htg _ wm_560) (fun _ h9 => h9) rfl (by decide +kernel) rfl rfl (Nat.le_of_ble_eq_true rfl) dX12_custom_58 (fun H locs hP hD hS => ?_)
    have hP : va_P D vwCl [(aM, oM qM 0 0 0 0 0 0 0 0 0 0 0 0 0 0 0 0 0 0), ((qM 2), .inl (cI, 4, .inl g1)), ((qM 3), .inl (cI, 4, .inl g2)), ((qM 4), .inl (cI, 4, .inl g3)), ((qM 29), .inl (cI, 4, .inl (fun _ => 0))), ((qM 30), .inl (cI, 16, .inl (fun _ => 0))), ((qM 31), .inl (cI, 16, .inl (fun _ => 0)))] H := hP
    have hD : va_D A [(aM, oM qM 0 0 0 0 0 0 0 0 0 0 0 0 0 0 0 0 0 0), ((qM 2), .inl (cI, 4, .inl g1)), ((qM 3), .inl (cI, 4, .inl g2)), ((qM 4), .inl (cI, 4, .inl g3)), ((qM 29), .inl (cI, 4, .inl (fun _ => 0))), ((qM 30), .inl (cI, 16, .inl (fun _ => 0))), ((qM 31), .inl (cI, 16, .inl (fun _ => 0)))] := hD
    refine lv_aload_n hx hb dX12_custom_61 rfl (lv_at hl 0 rfl) ?_
    refine lv_iconst (v := (-1)) hx hb dX12_custom_62 (by decide +kernel) ?_
    refine va_put (D := D) (ci := 12) (v := .int (-1)) (ty := tyX12 68) (C := RX12) (T := TX12) (N := 97) hx hb htg iwG_12 tyX12 tyX12_ok nmX12 hown hE.1 hP hD hS 0 rfl rfl 68 (by decide) (htg _ wm_606) (fun _ h9 => h9) rfl (by decide +kernel) rfl rfl (Nat.le_of_ble_eq_true rfl) dX12_custom_63 (fun H locs hP hD hS => ?_)
    have hP : va_P D vwCl [(aM, oM qM 0 0 0 0 0 0 0 (-1) 0 0 0 0 0 0 0 0 0 0), ((qM 2), .inl (cI, 4, .inl g1)), ((qM 3), .inl (cI, 4, .inl g2)), ((qM 4), .inl (cI, 4, .inl g3)), ((qM 29), .inl (cI, 4, .inl (fun _ => 0))), ((qM 30), .inl (cI, 16, .inl (fun _ => 0))), ((qM 31), .inl (cI, 16, .inl (fun _ => 0)))] H := hP
    have hD : va_D A [(aM, oM qM 0 0 0 0 0 0 0 (-1) 0 0 0 0 0 0 0 0 0 0), ((qM 2), .inl (cI, 4, .inl g1)), ((qM 3), .inl (cI, 4, .inl g2)), ((qM 4), .inl (cI, 4, .inl g3)), ((qM 29), .inl (cI, 4, .inl (fun _ => 0))), ((qM 30), .inl (cI, 16, .inl (fun _ => 0))), ((qM 31), .inl (cI, 16, .inl (fun _ => 0)))] := hD
    refine lv_aload_n hx hb dX12_custom_66 rfl (lv_at hl 0 rfl) ?_
    refine lv_iconst (v := (-1)) hx hb dX12_custom_67 (by decide +kernel) ?_
    refine va_put (D := D) (ci := 12) (v := .int (-1)) (ty := tyX12 69) (C := RX12) (T := TX12) (N := 97) hx hb htg iwG_12 tyX12 tyX12_ok nmX12 hown hE.1 hP hD hS 0 rfl rfl 69 (by decide) (htg _ wm_607) (fun _ h9 => h9) rfl (by decide +kernel) rfl rfl (Nat.le_of_ble_eq_true rfl) dX12_custom_68 (fun H locs hP hD hS => ?_)
    have hP : va_P D vwCl [(aM, oM qM 0 0 0 0 0 0 0 (-1) (-1) 0 0 0 0 0 0 0 0 0), ((qM 2), .inl (cI, 4, .inl g1)), ((qM 3), .inl (cI, 4, .inl g2)), ((qM 4), .inl (cI, 4, .inl g3)), ((qM 29), .inl (cI, 4, .inl (fun _ => 0))), ((qM 30), .inl (cI, 16, .inl (fun _ => 0))), ((qM 31), .inl (cI, 16, .inl (fun _ => 0)))] H := hP
    have hD : va_D A [(aM, oM qM 0 0 0 0 0 0 0 (-1) (-1) 0 0 0 0 0 0 0 0 0), ((qM 2), .inl (cI, 4, .inl g1)), ((qM 3), .inl (cI, 4, .inl g2)), ((qM 4), .inl (cI, 4, .inl g3)), ((qM 29), .inl (cI, 4, .inl (fun _ => 0))), ((qM 30), .inl (cI, 16, .inl (fun _ => 0))), ((qM 31), .inl (cI, 16, .inl (fun _ => 0)))] := hD
    refine lv_aload_n hx hb dX12_custom_71 rfl (lv_at hl 0 rfl) ?_
    refine lv_iconst (v := 0) hx hb dX12_custom_72 (by decide +kernel) ?_
    refine va_put (D := D) (ci := 12) (v := .int 0) (ty := tyX12 70) (C := RX12) (T := TX12) (N := 97) hx hb htg iwG_12 tyX12 tyX12_ok nmX12 hown hE.1 hP hD hS 0 rfl rfl 70 (by decide) (htg _ wm_608) (fun _ h9 => h9) rfl (by decide +kernel) rfl rfl (Nat.le_of_ble_eq_true rfl) dX12_custom_73 (fun H locs hP hD hS => ?_)
    have hP : va_P D vwCl [(aM, oM qM 0 0 0 0 0 0 0 (-1) (-1) 0 0 0 0 0 0 0 0 0), ((qM 2), .inl (cI, 4, .inl g1)), ((qM 3), .inl (cI, 4, .inl g2)), ((qM 4), .inl (cI, 4, .inl g3)), ((qM 29), .inl (cI, 4, .inl (fun _ => 0))), ((qM 30), .inl (cI, 16, .inl (fun _ => 0))), ((qM 31), .inl (cI, 16, .inl (fun _ => 0)))] H := hP
    have hD : va_D A [(aM, oM qM 0 0 0 0 0 0 0 (-1) (-1) 0 0 0 0 0 0 0 0 0), ((qM 2), .inl (cI, 4, .inl g1)), ((qM 3), .inl (cI, 4, .inl g2)), ((qM 4), .inl (cI, 4, .inl g3)), ((qM 29), .inl (cI, 4, .inl (fun _ => 0))), ((qM 30), .inl (cI, 16, .inl (fun _ => 0))), ((qM 31), .inl (cI, 16, .inl (fun _ => 0)))] := hD
    refine lv_iconst (v := 1) hx hb dX12_custom_76 (by decide +kernel) ?_
    refine lv_istore_n (lv' := [(2, .int 1), (0, .ref aM), (1, .int y0)]) hx hb dX12_custom_77 rfl hl (by decide) rfl (fun ls hl => ?_)
    refine lv_aload_n hx hb dX12_custom_78 rfl (lv_at hl 1 rfl) ?_
    refine g_av (D := D) (wc := [(aM, oM qM 0 0 0 0 0 0 0 (-1) (-1) 0 0 0 0 0 0 0 0 0)]) (wr := [((qM 2), .inl (cI, 4, .inl g1)), ((qM 3), .inl (cI, 4, .inl g2)), ((qM 4), .inl (cI, 4, .inl g3)), ((qM 29), .inl (cI, 4, .inl (fun _ => 0))), ((qM 30), .inl (cI, 16, .inl (fun _ => 0))), ((qM 31), .inl (cI, 16, .inl (fun _ => 0)))]) hP hD hS hA [0] [1, 2, 3, 4, 5, 6] rfl rfl rfl rfl (by decide) (fun hPc hDc => va_runV (As := []) (rest := []) hF (c_X12_token (l := l) (D := D) (cI := cI) (cB := cB) (cS := cS) (cZ := cZ) (cW := cW) (aM := aM) (qM := qM)) (cwV 0 hts (gGV (fun _ h => List.mem_cons_of_mem _ h) wm_609 wm_610 wm_611 wm_550 wm_612) rfl rfl rfl (by decide +kernel) ⟨Nat.le_of_ble_eq_true rfl, Nat.le_of_ble_eq_true rfl⟩) (g_preV (q := (RX12, TX12, 97)) (ci := 12) (q0 := 0) hE hPc hDc rfl rfl) rfl rfl hl.1 rfl (lv_room (Nat.le_of_ble_eq_true rfl)) dX12_custom_79 ⟨Nat.le_of_ble_eq_true rfl, Nat.le_of_ble_eq_true rfl⟩) (fun u8 H locs p9 hP hD hS => ?_)
    have hP : va_P D vwCl [((qM 2), .inl (cI, 4, .inl g1)), ((qM 3), .inl (cI, 4, .inl g2)), ((qM 4), .inl (cI, 4, .inl g3)), ((qM 29), .inl (cI, 4, .inl (fun _ => 0))), ((qM 30), .inl (cI, 16, .inl (fun _ => 0))), ((qM 31), .inl (cI, 16, .inl (fun _ => 0))), (aM, oM qM 0 0 0 0 0 (-1) 0 (-1) (-1) 0 0 0 0 0 0 0 0 0)] H := hP
    have hD : va_D A [((qM 2), .inl (cI, 4, .inl g1)), ((qM 3), .inl (cI, 4, .inl g2)), ((qM 4), .inl (cI, 4, .inl g3)), ((qM 29), .inl (cI, 4, .inl (fun _ => 0))), ((qM 30), .inl (cI, 16, .inl (fun _ => 0))), ((qM 31), .inl (cI, 16, .inl (fun _ => 0))), (aM, oM qM 0 0 0 0 0 (-1) 0 (-1) (-1) 0 0 0 0 0 0 0 0 0)] := hD
    refine lv_iload_n hx hb dX12_custom_82 rfl (lv_at hl 0 rfl) ?_
    refine lv_if_eq (tgt := 101) hx hb dX12_custom_83 (by decide) (fun c9 => absurd c9 (by decide +kernel)) (fun _ => ?_)
    refine lv_aload_n hx hb dX12_custom_86 rfl (lv_at hl 1 rfl) ?_
    refine va_get (D := D) (ci := 12) (v := .int 0) (C := RX12) (T := TX12) (N := 97) hx hb htg iwG_12 hown hE.1 hP 6 rfl rfl 65 (by decide) (htg _ wm_569) (fun _ h9 => h9) rfl dX12_custom_87 ?_
    refine lv_if_eq (tgt := 101) hx hb dX12_custom_90 (by decide) (fun _ => ?_) (fun c9 => absurd c9 (by decide +kernel))
    refine lv_iload_n hx hb dX12_custom_101 rfl (lv_at hl 0 rfl) ?_
    refine lv_if_eq (tgt := 113) hx hb dX12_custom_102 (by decide) (fun c9 => absurd c9 (by decide +kernel)) (fun _ => ?_)
    refine lv_aload_n hx hb dX12_custom_105 rfl (lv_at hl 1 rfl) ?_
    refine va_get (D := D) (ci := 12) (v := .int (-1)) (C := RX12) (T := TX12) (N := 97) hx hb htg iwG_12 hown hE.1 hP 6 rfl rfl 69 (by decide) (htg _ wm_607) (fun _ h9 => h9) rfl dX12_custom_106 ?_
    refine lv_iconst (v := (-1)) hx hb dX12_custom_109 (by decide +kernel) ?_
    refine lv_icmp_eq (tgt := 151) hx hb dX12_custom_110 (by decide) (fun _ => ?_) (fun c9 => absurd c9 (by decide +kernel))
    refine lv_aload_n hx hb dX12_custom_151 rfl (lv_at hl 1 rfl) ?_
    refine va_get (D := D) (ci := 12) (v := .ref (qM 29)) (C := RX12) (T := TX12) (N := 97) hx hb htg iwG_12 hown hE.1 hP 6 rfl rfl 29 (by decide) (htg _ wm_496) (fun _ h9 => h9) rfl dX12_custom_152 ?_
    refine lv_iconst (v := 0) hx hb dX12_custom_155 (by decide +kernel) ?_
    refine va_iald hx hb hE.1 hP 3 0 rfl rfl (vp_in_iff.mpr ⟨by decide +kernel, by decide +kernel⟩) dX12_custom_156 ?_
    refine g_top 0 rfl ?_
    refine lv_istore_n (lv' := [(3, .int 0), (2, .int 1), (0, .ref aM), (1, .int y0)]) hx hb dX12_custom_157 rfl hl (by decide) rfl (fun ls hl => ?_)
    refine lv_aload_n hx hb dX12_custom_158 rfl (lv_at hl 2 rfl) ?_
    refine va_get (D := D) (ci := 12) (v := .ref (qM 29)) (C := RX12) (T := TX12) (N := 97) hx hb htg iwG_12 hown hE.1 hP 6 rfl rfl 29 (by decide) (htg _ wm_496) (fun _ h9 => h9) rfl dX12_custom_159 ?_
    refine lv_iconst (v := 0) hx hb dX12_custom_162 (by decide +kernel) ?_
    refine lv_dup2_11 hx hb dX12_custom_163 rfl rfl ?_
    refine va_iald hx hb hE.1 hP 3 0 rfl rfl (vp_in_iff.mpr ⟨by decide +kernel, by decide +kernel⟩) dX12_custom_164 ?_
    refine g_top 0 rfl ?_
    refine lv_iconst (v := 1) hx hb dX12_custom_165 (by decide +kernel) ?_
    refine lv_iadd hx hb dX12_custom_166 ?_
    refine g_top 1 (by decide +kernel) ?_
    refine va_iast hx hb hE.1 hP hD hS 3 0 rfl rfl (vp_in_iff.mpr ⟨by decide +kernel, by decide +kernel⟩) dX12_custom_167 (fun H locs hP hD hS => ?_)
    obtain ⟨g10, eg10, fg10⟩ : ∃ gz : Nat → Int32, gz = upd (fun _ => 0) (0 : Int32).toNatClampNeg 1 ∧ gz (0 : Int32).toNatClampNeg = 1 := ⟨_, rfl, pk_us⟩
    have hP : va_P D vwCl [((qM 2), .inl (cI, 4, .inl g1)), ((qM 3), .inl (cI, 4, .inl g2)), ((qM 4), .inl (cI, 4, .inl g3)), ((qM 29), .inl (cI, 4, .inl g10)), ((qM 30), .inl (cI, 16, .inl (fun _ => 0))), ((qM 31), .inl (cI, 16, .inl (fun _ => 0))), (aM, oM qM 0 0 0 0 0 (-1) 0 (-1) (-1) 0 0 0 0 0 0 0 0 0)] H := by rw [eg10]; exact hP
    have hD : va_D A [((qM 2), .inl (cI, 4, .inl g1)), ((qM 3), .inl (cI, 4, .inl g2)), ((qM 4), .inl (cI, 4, .inl g3)), ((qM 29), .inl (cI, 4, .inl g10)), ((qM 30), .inl (cI, 16, .inl (fun _ => 0))), ((qM 31), .inl (cI, 16, .inl (fun _ => 0))), (aM, oM qM 0 0 0 0 0 (-1) 0 (-1) (-1) 0 0 0 0 0 0 0 0 0)] := by rw [eg10]; exact hD
    refine lv_aload_n hx hb dX12_custom_168 rfl (lv_at hl 2 rfl) ?_
    refine va_get (D := D) (ci := 12) (v := .ref (qM 30)) (C := RX12) (T := TX12) (N := 97) hx hb htg iwG_12 hown hE.1 hP 6 rfl rfl 30 (by decide) (htg _ wm_497) (fun _ h9 => h9) rfl dX12_custom_169 ?_
    refine lv_iload_n hx hb dX12_custom_172 rfl (lv_at hl 0 rfl) ?_
    refine lv_iload_n hx hb dX12_custom_173 rfl (lv_at hl 3 rfl) ?_
    refine va_iast hx hb hE.1 hP hD hS 4 0 rfl rfl (vp_in_iff.mpr ⟨by decide +kernel, by decide +kernel⟩) dX12_custom_174 (fun H locs hP hD hS => ?_)
    obtain ⟨g11, eg11⟩ : ∃ gz : Nat → Int32, gz = upd (fun _ => 0) (0 : Int32).toNatClampNeg y0 := ⟨_, rfl⟩
    have hP : va_P D vwCl [((qM 2), .inl (cI, 4, .inl g1)), ((qM 3), .inl (cI, 4, .inl g2)), ((qM 4), .inl (cI, 4, .inl g3)), ((qM 29), .inl (cI, 4, .inl g10)), ((qM 30), .inl (cI, 16, .inl g11)), ((qM 31), .inl (cI, 16, .inl (fun _ => 0))), (aM, oM qM 0 0 0 0 0 (-1) 0 (-1) (-1) 0 0 0 0 0 0 0 0 0)] H := by rw [eg11]; exact hP
    have hD : va_D A [((qM 2), .inl (cI, 4, .inl g1)), ((qM 3), .inl (cI, 4, .inl g2)), ((qM 4), .inl (cI, 4, .inl g3)), ((qM 29), .inl (cI, 4, .inl g10)), ((qM 30), .inl (cI, 16, .inl g11)), ((qM 31), .inl (cI, 16, .inl (fun _ => 0))), (aM, oM qM 0 0 0 0 0 (-1) 0 (-1) (-1) 0 0 0 0 0 0 0 0 0)] := by rw [eg11]; exact hD
    refine lv_aload_n hx hb dX12_custom_175 rfl (lv_at hl 2 rfl) ?_
    refine va_get (D := D) (ci := 12) (v := .ref (qM 31)) (C := RX12) (T := TX12) (N := 97) hx hb htg iwG_12 hown hE.1 hP 6 rfl rfl 31 (by decide) (htg _ wm_498) (fun _ h9 => h9) rfl dX12_custom_176 ?_
    refine lv_iload_n hx hb dX12_custom_179 rfl (lv_at hl 0 rfl) ?_
    refine lv_aload_n hx hb dX12_custom_180 rfl (lv_at hl 2 rfl) ?_
    refine va_get (D := D) (ci := 12) (v := .int 0) (C := RX12) (T := TX12) (N := 97) hx hb htg iwG_12 hown hE.1 hP 6 rfl rfl 70 (by decide) (htg _ wm_608) (fun _ h9 => h9) rfl dX12_custom_181 ?_
    refine va_iast hx hb hE.1 hP hD hS 5 0 rfl rfl (vp_in_iff.mpr ⟨by decide +kernel, by decide +kernel⟩) dX12_custom_184 (fun H locs hP hD hS => ?_)
    obtain ⟨g12, eg12, fg12⟩ : ∃ gz : Nat → Int32, gz = upd (fun _ => 0) (0 : Int32).toNatClampNeg 0 ∧ gz (0 : Int32).toNatClampNeg = 0 := ⟨_, rfl, pk_us⟩
    have hP : va_P D vwCl [((qM 2), .inl (cI, 4, .inl g1)), ((qM 3), .inl (cI, 4, .inl g2)), ((qM 4), .inl (cI, 4, .inl g3)), ((qM 29), .inl (cI, 4, .inl g10)), ((qM 30), .inl (cI, 16, .inl g11)), ((qM 31), .inl (cI, 16, .inl g12)), (aM, oM qM 0 0 0 0 0 (-1) 0 (-1) (-1) 0 0 0 0 0 0 0 0 0)] H := by rw [eg12]; exact hP
    have hD : va_D A [((qM 2), .inl (cI, 4, .inl g1)), ((qM 3), .inl (cI, 4, .inl g2)), ((qM 4), .inl (cI, 4, .inl g3)), ((qM 29), .inl (cI, 4, .inl g10)), ((qM 30), .inl (cI, 16, .inl g11)), ((qM 31), .inl (cI, 16, .inl g12)), (aM, oM qM 0 0 0 0 0 (-1) 0 (-1) (-1) 0 0 0 0 0 0 0 0 0)] := by rw [eg12]; exact hD
    refine lv_iconst (v := 0) hx hb dX12_custom_185 (by decide +kernel) ?_
    refine lv_istore (lv' := [(4, .int 0), (3, .int 0), (2, .int 1), (0, .ref aM), (1, .int y0)]) hx hb dX12_custom_186 hl (by decide) rfl (fun ls hl => ?_)
    refine lv_iload hx hb dX12_custom_188 (lv_at hl 0 rfl) ?_
    refine lv_aload_n hx hb dX12_custom_190 rfl (lv_at hl 3 rfl) ?_
    refine va_get (D := D) (ci := 12) (v := .int 0) (C := RX12) (T := TX12) (N := 97) hx hb htg iwG_12 hown hE.1 hP 6 rfl rfl 70 (by decide) (htg _ wm_608) (fun _ h9 => h9) rfl dX12_custom_191 ?_
    refine lv_icmp_ge (tgt := 347) hx hb dX12_custom_194 (by decide) (fun _ => ?_) (fun c9 => absurd c9 (by decide +kernel))
    refine lv_iload_n hx hb dX12_custom_347 rfl (lv_at hl 1 rfl) ?_
    exact g_iret () hF hr rfl hlocks (hP.sub [] rfl) (hD.sub [] rfl rfl) hS (by show (_ : Int32) = _; unfold S_custom; (repeat' split) <;> first | rfl | (exfalso; omega) | omega) dX12_custom_348 (Nat.le_of_ble_eq_true rfl) (Nat.le_of_ble_eq_true rfl)
  · skip
    refine lv_if_ne (tgt := 56) hx hb dX12_custom_50 (by decide) (fun c9 => absurd c9 (by decide +kernel)) (fun _ => ?_)
    refine lv_bipush (v := (-2)) hx hb dX12_custom_53 (by decide +kernel) ?_
    exact g_iret () hF hr rfl hlocks (hP.sub [] rfl) (hD.sub [] rfl rfl) hS (by show (_ : Int32) = _; unfold S_custom; (repeat' split) <;> first | rfl | (exfalso; omega) | omega) dX12_custom_55 (Nat.le_of_ble_eq_true rfl) (Nat.le_of_ble_eq_true rfl)
set_option maxHeartbeats 8000000 in
set_option maxRecDepth 100000 in
theorem c_X12_fault {l : Launch} {D : va_G} {cI cB cS cZ cW : ClassId} {aM : Nat} {y0 : Int32} {qM : Nat → Nat}  {sz : Nat} : MI l D (gT cI cB cS cZ cW) yX12_fault (wG yX12_fault cX12_fault 2 (some .int)) { frames := 0, cells := 0, slots := 0, locals := 0 } [.ref aM, .int y0] [(aM, oM qM 0 0 0 0 0 0 0 0 0 0 0 0 0 0 0 0 0 0), ((qM 3), .inl (cI, 4, .inl (fun _ => 0))), ((qM 4), .inl (cI, 4, .inl kFP))] sz (fun (r : Int32) (u : Unit) => r = S_fault y0) (fun (u : Unit) => [] : (Unit) → va_W) 0 0 := by
  refine g_enter (y := yX12_fault) (w := (wG yX12_fault cX12_fault 2 (some .int))) (As := [.ref aM, .int y0]) (D := D) (T := gT cI cB cS cZ cW) (ws := [(aM, oM qM 0 0 0 0 0 0 0 0 0 0 0 0 0 0 0 0 0 0), ((qM 3), .inl (cI, 4, .inl (fun _ => 0))), ((qM 4), .inl (cI, 4, .inl kFP))]) (gQi D (fun (r : Int32) (u : Unit) => r = S_fault y0) (fun (u : Unit) => [] : (Unit) → va_W)) (cc := cX12_fault) (maxL := 2) (ret := (some .int)) (by decide) rfl (Nat.le_of_ble_eq_true rfl) ?_
  intro p e s m below meth c A ls hF hr hlocks hname hsz hE hA hP hD hS hl
  have hF : CallFix p m c cX12_fault 2 s ([.ref aM, .int y0] : List Value).toArray (wG yX12_fault cX12_fault 2 (some .int)) RX12 := hF
  obtain ⟨hx, hb, hml, hown, hts⟩ := id hF
  have htg : ∀ w ∈ GL, w.before ([.ref aM, .int y0] : List Value).toArray s = true := fun w h => hts w (List.mem_cons_of_mem _ h)
  have hl : lv_has ls 2 [(0, .ref aM), (1, .int y0)] := hl
  have zm1 := tm_1
  have z0 := t_0
  have z1 := t_1
  refine lv_aload_n hx hb dX12_fault_0 rfl (lv_at hl 0 rfl) ?_
  refine lv_iconst (v := 0) hx hb dX12_fault_1 (by decide +kernel) ?_
  refine va_put (D := D) (ci := 12) (v := .int 0) (ty := tyX12 0) (C := RX12) (T := TX12) (N := 97) hx hb htg iwG_12 tyX12 tyX12_ok nmX12 hown hE.1 hP hD hS 0 rfl rfl 0 (by decide) (htg _ wm_588) (fun _ h9 => h9) rfl (by decide +kernel) rfl rfl (Nat.le_of_ble_eq_true rfl) dX12_fault_2 (fun H locs hP hD hS => ?_)
  have hP : va_P D vwCl [(aM, oM qM 0 0 0 0 0 0 0 0 0 0 0 0 0 0 0 0 0 0), ((qM 3), .inl (cI, 4, .inl (fun _ => 0))), ((qM 4), .inl (cI, 4, .inl kFP))] H := hP
  have hD : va_D A [(aM, oM qM 0 0 0 0 0 0 0 0 0 0 0 0 0 0 0 0 0 0), ((qM 3), .inl (cI, 4, .inl (fun _ => 0))), ((qM 4), .inl (cI, 4, .inl kFP))] := hD
  refine lv_iload_n hx hb dX12_fault_5 rfl (lv_at hl 1 rfl) ?_
  refine lv_if_ne (tgt := 18) hx hb dX12_fault_6 (by decide) (fun c1 => ?_) (fun c1 => ?_)
  · rw [i_eq] at c1
    refine lv_iload_n hx hb dX12_fault_18 rfl (lv_at hl 1 rfl) ?_
    refine lv_iconst (v := 1) hx hb dX12_fault_19 (by decide +kernel) ?_
    refine lv_icmp_ne (tgt := 32) hx hb dX12_fault_20 (by decide) (fun c2 => ?_) (fun c2 => ?_)
    · rw [i_eq] at c2
      refine lv_iconst (v := (-1)) hx hb dX12_fault_32 (by decide +kernel) ?_
      exact g_iret () hF hr rfl hlocks (hP.sub [] rfl) (hD.sub [] rfl rfl) hS (by show (_ : Int32) = _; unfold S_fault; (repeat' split) <;> first | rfl | (exfalso; omega) | omega) dX12_fault_33 (Nat.le_of_ble_eq_true rfl) (Nat.le_of_ble_eq_true rfl)
    · rw [i_eq] at c2
      refine lv_aload_n hx hb dX12_fault_23 rfl (lv_at hl 0 rfl) ?_
      refine va_get (D := D) (ci := 12) (v := .ref (qM 4)) (C := RX12) (T := TX12) (N := 97) hx hb htg iwG_12 hown hE.1 hP 0 rfl rfl 4 (by decide) (htg _ wm_470) (fun _ h9 => h9) rfl dX12_fault_24 ?_
      refine lv_iconst (v := 0) hx hb dX12_fault_27 (by decide +kernel) ?_
      refine va_iald hx hb hE.1 hP 2 0 rfl rfl (vp_in_iff.mpr ⟨by decide +kernel, by decide +kernel⟩) dX12_fault_28 ?_
      refine g_top (-1) rfl ?_
      refine lv_goto (tgt := 33) hx hb dX12_fault_29 (by decide) ?_
      exact g_iret () hF hr rfl hlocks (hP.sub [] rfl) (hD.sub [] rfl rfl) hS (by show (_ : Int32) = _; unfold S_fault; (repeat' split) <;> first | rfl | (exfalso; omega) | omega) dX12_fault_33 (Nat.le_of_ble_eq_true rfl) (Nat.le_of_ble_eq_true rfl)
  · rw [i_eq] at c1
    refine lv_aload_n hx hb dX12_fault_9 rfl (lv_at hl 0 rfl) ?_
    refine va_get (D := D) (ci := 12) (v := .ref (qM 3)) (C := RX12) (T := TX12) (N := 97) hx hb htg iwG_12 hown hE.1 hP 0 rfl rfl 3 (by decide) (htg _ wm_469) (fun _ h9 => h9) rfl dX12_fault_10 ?_
    refine lv_iconst (v := 0) hx hb dX12_fault_13 (by decide +kernel) ?_
    refine va_iald hx hb hE.1 hP 1 0 rfl rfl (vp_in_iff.mpr ⟨by decide +kernel, by decide +kernel⟩) dX12_fault_14 ?_
    refine g_top 0 rfl ?_
    refine lv_goto (tgt := 33) hx hb dX12_fault_15 (by decide) ?_
    exact g_iret () hF hr rfl hlocks (hP.sub [] rfl) (hD.sub [] rfl rfl) hS (by show (_ : Int32) = _; unfold S_fault; (repeat' split) <;> first | rfl | (exfalso; omega) | omega) dX12_fault_33 (Nat.le_of_ble_eq_true rfl) (Nat.le_of_ble_eq_true rfl)
set_option maxHeartbeats 8000000 in
set_option maxRecDepth 100000 in
theorem c_X12_may {l : Launch} {D : va_G} {cI cB cS cZ cW : ClassId} {aM : Nat} {y0 : Int32} {y1 : Int32} {y2 : Int32} {y3 : Int32} {qM : Nat → Nat}  {sz : Nat} : MI l D (gT cI cB cS cZ cW) yX12_may (wG yX12_may cX12_may 5 (some .boolean)) { frames := 3, cells := 0, slots := 0, locals := 67 } [.ref aM, .int y0, .int y1, .int y2, .int y3] [(aM, oM qM 0 0 0 0 0 0 0 0 0 0 0 0 0 0 0 0 0 0), ((qM 14), .inl (cI, 4, .inl (fun _ => 0)))] sz (fun (r : Int32) (u : Unit) => r = 0) (fun (u : Unit) => [] : (Unit) → va_W) 0 0 := by
  refine g_enter (y := yX12_may) (w := (wG yX12_may cX12_may 5 (some .boolean))) (As := [.ref aM, .int y0, .int y1, .int y2, .int y3]) (D := D) (T := gT cI cB cS cZ cW) (ws := [(aM, oM qM 0 0 0 0 0 0 0 0 0 0 0 0 0 0 0 0 0 0), ((qM 14), .inl (cI, 4, .inl (fun _ => 0)))]) (gQi D (fun (r : Int32) (u : Unit) => r = 0) (fun (u : Unit) => [] : (Unit) → va_W)) (cc := cX12_may) (maxL := 5) (ret := (some .boolean)) (by decide) rfl (Nat.le_of_ble_eq_true rfl) ?_
  intro p e s m below meth c A ls hF hr hlocks hname hsz hE hA hP hD hS hl
  have hF : CallFix p m c cX12_may 5 s ([.ref aM, .int y0, .int y1, .int y2, .int y3] : List Value).toArray (wG yX12_may cX12_may 5 (some .boolean)) RX12 := hF
  obtain ⟨hx, hb, hml, hown, hts⟩ := id hF
  have htg : ∀ w ∈ GL, w.before ([.ref aM, .int y0, .int y1, .int y2, .int y3] : List Value).toArray s = true := fun w h => hts w (List.mem_cons_of_mem _ h)
  have hl : lv_has ls 5 [(0, .ref aM), (1, .int y0), (2, .int y1), (3, .int y2), (4, .int y3)] := hl
  have z0 := t_0
  refine lv_aload_n hx hb dX12_may_0 rfl (lv_at hl 0 rfl) ?_
  refine lv_iconst (v := 0) hx hb dX12_may_1 (by decide +kernel) ?_
  refine va_put (D := D) (ci := 12) (v := .int 0) (ty := tyX12 0) (C := RX12) (T := TX12) (N := 97) hx hb htg iwG_12 tyX12 tyX12_ok nmX12 hown hE.1 hP hD hS 0 rfl rfl 0 (by decide) (htg _ wm_588) (fun _ h9 => h9) rfl (by decide +kernel) rfl rfl (Nat.le_of_ble_eq_true rfl) dX12_may_2 (fun H locs hP hD hS => ?_)
  have hP : va_P D vwCl [(aM, oM qM 0 0 0 0 0 0 0 0 0 0 0 0 0 0 0 0 0 0), ((qM 14), .inl (cI, 4, .inl (fun _ => 0)))] H := hP
  have hD : va_D A [(aM, oM qM 0 0 0 0 0 0 0 0 0 0 0 0 0 0 0 0 0 0), ((qM 14), .inl (cI, 4, .inl (fun _ => 0)))] := hD
  refine lv_aload_n hx hb dX12_may_5 rfl (lv_at hl 0 rfl) ?_
  refine lv_iload_n hx hb dX12_may_6 rfl (lv_at hl 1 rfl) ?_
  refine lv_iload_n hx hb dX12_may_7 rfl (lv_at hl 2 rfl) ?_
  refine lv_iload_n hx hb dX12_may_8 rfl (lv_at hl 3 rfl) ?_
  refine lv_iload hx hb dX12_may_9 (lv_at hl 4 rfl) ?_
  refine g_ai (D := D) (wc := [(aM, oM qM 0 0 0 0 0 0 0 0 0 0 0 0 0 0 0 0 0 0), ((qM 14), .inl (cI, 4, .inl (fun _ => 0)))]) (wr := []) hP hD hS hA [0, 1] [] rfl rfl rfl rfl (by decide) (fun hPc hDc => va_runV (As := [.int y0, .int y1, .int y2, .int y3]) (rest := []) hF (c_X12_areAll (l := l) (D := D) (cI := cI) (cB := cB) (cS := cS) (cZ := cZ) (cW := cW) (aM := aM) (y0 := y0) (y1 := y1) (y2 := y2) (y3 := y3) (qM := qM)) (cwV 4 hts (gGV (fun _ h => List.mem_cons_of_mem _ h) wm_613 wm_614 wm_615 wm_550 wm_616) rfl rfl rfl (by decide +kernel) ⟨Nat.le_of_ble_eq_true rfl, Nat.le_of_ble_eq_true rfl⟩) (g_preV (q := (RX12, TX12, 97)) (ci := 12) (q0 := 0) hE hPc hDc rfl rfl) rfl rfl hl.1 rfl (lv_room (Nat.le_of_ble_eq_true rfl)) dX12_may_11 ⟨Nat.le_of_ble_eq_true rfl, Nat.le_of_ble_eq_true rfl⟩) (fun r1 u2 H locs p3 hP hD hS => ?_)
  have hP : va_P D vwCl [(aM, oM qM 0 0 0 0 0 0 0 0 0 0 0 0 0 0 0 0 0 0), ((qM 14), .inl (cI, 4, .inl (fun _ => 0)))] H := hP
  have hD : va_D A [(aM, oM qM 0 0 0 0 0 0 0 0 0 0 0 0 0 0 0 0 0 0), ((qM 14), .inl (cI, 4, .inl (fun _ => 0)))] := hD
  obtain rfl := p3
  refine lv_if_eq (tgt := 33) hx hb dX12_may_14 (by decide) (fun _ => ?_) (fun c9 => absurd c9 (by decide +kernel))
  refine lv_iconst (v := 0) hx hb dX12_may_33 (by decide +kernel) ?_
  exact g_iret () hF hr rfl hlocks (hP.sub [] rfl) (hD.sub [] rfl rfl) hS rfl dX12_may_34 (Nat.le_of_ble_eq_true rfl) (Nat.le_of_ble_eq_true rfl)
set_option maxHeartbeats 8000000 in
set_option maxRecDepth 100000 in
theorem c_X12_why {l : Launch} {D : va_G} {cI cB cS cZ cW : ClassId} {aM : Nat} {y0 : Int32} {y1 : Int32} {y2 : Int32} {y3 : Int32} {qM : Nat → Nat}  {sz : Nat} : MI l D (gT cI cB cS cZ cW) yX12_why (wG yX12_why cX12_why 6 (some .int)) { frames := 3, cells := 0, slots := 0, locals := 67 } [.ref aM, .int y0, .int y1, .int y2, .int y3] [(aM, oM qM 0 0 0 0 0 0 0 0 0 0 0 0 0 0 0 0 0 0), ((qM 14), .inl (cI, 4, .inl (fun _ => 0)))] sz (fun (r : Int32) (u : Unit) => r = (-1)) (fun (u : Unit) => [] : (Unit) → va_W) 0 0 := by
  refine g_enter (y := yX12_why) (w := (wG yX12_why cX12_why 6 (some .int))) (As := [.ref aM, .int y0, .int y1, .int y2, .int y3]) (D := D) (T := gT cI cB cS cZ cW) (ws := [(aM, oM qM 0 0 0 0 0 0 0 0 0 0 0 0 0 0 0 0 0 0), ((qM 14), .inl (cI, 4, .inl (fun _ => 0)))]) (gQi D (fun (r : Int32) (u : Unit) => r = (-1)) (fun (u : Unit) => [] : (Unit) → va_W)) (cc := cX12_why) (maxL := 6) (ret := (some .int)) (by decide) rfl (Nat.le_of_ble_eq_true rfl) ?_
  intro p e s m below meth c A ls hF hr hlocks hname hsz hE hA hP hD hS hl
  have hF : CallFix p m c cX12_why 6 s ([.ref aM, .int y0, .int y1, .int y2, .int y3] : List Value).toArray (wG yX12_why cX12_why 6 (some .int)) RX12 := hF
  obtain ⟨hx, hb, hml, hown, hts⟩ := id hF
  have htg : ∀ w ∈ GL, w.before ([.ref aM, .int y0, .int y1, .int y2, .int y3] : List Value).toArray s = true := fun w h => hts w (List.mem_cons_of_mem _ h)
  have hl : lv_has ls 6 [(0, .ref aM), (1, .int y0), (2, .int y1), (3, .int y2), (4, .int y3)] := hl
  have zm1 := tm_1
  have z0 := t_0
  refine lv_aload_n hx hb dX12_why_0 rfl (lv_at hl 0 rfl) ?_
  refine lv_iconst (v := 0) hx hb dX12_why_1 (by decide +kernel) ?_
  refine va_put (D := D) (ci := 12) (v := .int 0) (ty := tyX12 0) (C := RX12) (T := TX12) (N := 97) hx hb htg iwG_12 tyX12 tyX12_ok nmX12 hown hE.1 hP hD hS 0 rfl rfl 0 (by decide) (htg _ wm_588) (fun _ h9 => h9) rfl (by decide +kernel) rfl rfl (Nat.le_of_ble_eq_true rfl) dX12_why_2 (fun H locs hP hD hS => ?_)
  have hP : va_P D vwCl [(aM, oM qM 0 0 0 0 0 0 0 0 0 0 0 0 0 0 0 0 0 0), ((qM 14), .inl (cI, 4, .inl (fun _ => 0)))] H := hP
  have hD : va_D A [(aM, oM qM 0 0 0 0 0 0 0 0 0 0 0 0 0 0 0 0 0 0), ((qM 14), .inl (cI, 4, .inl (fun _ => 0)))] := hD
  refine lv_aload_n hx hb dX12_why_5 rfl (lv_at hl 0 rfl) ?_
  refine lv_iload_n hx hb dX12_why_6 rfl (lv_at hl 1 rfl) ?_
  refine lv_iload_n hx hb dX12_why_7 rfl (lv_at hl 2 rfl) ?_
  refine lv_iload_n hx hb dX12_why_8 rfl (lv_at hl 3 rfl) ?_
  refine lv_iload hx hb dX12_why_9 (lv_at hl 4 rfl) ?_
  refine g_ai (D := D) (wc := [(aM, oM qM 0 0 0 0 0 0 0 0 0 0 0 0 0 0 0 0 0 0), ((qM 14), .inl (cI, 4, .inl (fun _ => 0)))]) (wr := []) hP hD hS hA [0, 1] [] rfl rfl rfl rfl (by decide) (fun hPc hDc => va_runV (As := [.int y0, .int y1, .int y2, .int y3]) (rest := []) hF (c_X12_areAll (l := l) (D := D) (cI := cI) (cB := cB) (cS := cS) (cZ := cZ) (cW := cW) (aM := aM) (y0 := y0) (y1 := y1) (y2 := y2) (y3 := y3) (qM := qM)) (cwV 4 hts (gGV (fun _ h => List.mem_cons_of_mem _ h) wm_613 wm_614 wm_615 wm_550 wm_616) rfl rfl rfl (by decide +kernel) ⟨Nat.le_of_ble_eq_true rfl, Nat.le_of_ble_eq_true rfl⟩) (g_preV (q := (RX12, TX12, 97)) (ci := 12) (q0 := 0) hE hPc hDc rfl rfl) rfl rfl hl.1 rfl (lv_room (Nat.le_of_ble_eq_true rfl)) dX12_why_11 ⟨Nat.le_of_ble_eq_true rfl, Nat.le_of_ble_eq_true rfl⟩) (fun r1 u2 H locs p3 hP hD hS => ?_)
  have hP : va_P D vwCl [(aM, oM qM 0 0 0 0 0 0 0 0 0 0 0 0 0 0 0 0 0 0), ((qM 14), .inl (cI, 4, .inl (fun _ => 0)))] H := hP
  have hD : va_D A [(aM, oM qM 0 0 0 0 0 0 0 0 0 0 0 0 0 0 0 0 0 0), ((qM 14), .inl (cI, 4, .inl (fun _ => 0)))] := hD
  obtain rfl := p3
  refine lv_if_ne (tgt := 19) hx hb dX12_why_14 (by decide) (fun c9 => absurd c9 (by decide +kernel)) (fun _ => ?_)
  refine lv_iconst (v := (-1)) hx hb dX12_why_17 (by decide +kernel) ?_
  exact g_iret () hF hr rfl hlocks (hP.sub [] rfl) (hD.sub [] rfl rfl) hS rfl dX12_why_18 (Nat.le_of_ble_eq_true rfl) (Nat.le_of_ble_eq_true rfl)
set_option maxHeartbeats 8000000 in
set_option maxRecDepth 100000 in
theorem c_X12_writes {l : Launch} {D : va_G} {cI cB cS cZ cW : ClassId} {aM : Nat} {y0 : Int32} {y1 : Int32} {qM : Nat → Nat}  {sz : Nat} : MI l D (gT cI cB cS cZ cW) yX12_writes (wG yX12_writes cX12_writes 3 (some .boolean)) { frames := 3, cells := 0, slots := 0, locals := 64 } [.ref aM, .int y0, .int y1] [(aM, oM qM 0 0 0 0 0 0 0 0 0 0 0 0 0 0 0 0 0 0), ((qM 14), .inl (cI, 4, .inl (fun _ => 0)))] sz (fun (r : Int32) (u : Unit) => r = 0) (fun (u : Unit) => [] : (Unit) → va_W) 0 0 := by
  refine g_enter (y := yX12_writes) (w := (wG yX12_writes cX12_writes 3 (some .boolean))) (As := [.ref aM, .int y0, .int y1]) (D := D) (T := gT cI cB cS cZ cW) (ws := [(aM, oM qM 0 0 0 0 0 0 0 0 0 0 0 0 0 0 0 0 0 0), ((qM 14), .inl (cI, 4, .inl (fun _ => 0)))]) (gQi D (fun (r : Int32) (u : Unit) => r = 0) (fun (u : Unit) => [] : (Unit) → va_W)) (cc := cX12_writes) (maxL := 3) (ret := (some .boolean)) (by decide) rfl (Nat.le_of_ble_eq_true rfl) ?_
  intro p e s m below meth c A ls hF hr hlocks hname hsz hE hA hP hD hS hl
  have hF : CallFix p m c cX12_writes 3 s ([.ref aM, .int y0, .int y1] : List Value).toArray (wG yX12_writes cX12_writes 3 (some .boolean)) RX12 := hF
  obtain ⟨hx, hb, hml, hown, hts⟩ := id hF
  have htg : ∀ w ∈ GL, w.before ([.ref aM, .int y0, .int y1] : List Value).toArray s = true := fun w h => hts w (List.mem_cons_of_mem _ h)
  have hl : lv_has ls 3 [(0, .ref aM), (1, .int y0), (2, .int y1)] := hl
  have z0 := t_0
  refine lv_aload_n hx hb dX12_writes_0 rfl (lv_at hl 0 rfl) ?_
  refine lv_iconst (v := 0) hx hb dX12_writes_1 (by decide +kernel) ?_
  refine va_put (D := D) (ci := 12) (v := .int 0) (ty := tyX12 0) (C := RX12) (T := TX12) (N := 97) hx hb htg iwG_12 tyX12 tyX12_ok nmX12 hown hE.1 hP hD hS 0 rfl rfl 0 (by decide) (htg _ wm_588) (fun _ h9 => h9) rfl (by decide +kernel) rfl rfl (Nat.le_of_ble_eq_true rfl) dX12_writes_2 (fun H locs hP hD hS => ?_)
  have hP : va_P D vwCl [(aM, oM qM 0 0 0 0 0 0 0 0 0 0 0 0 0 0 0 0 0 0), ((qM 14), .inl (cI, 4, .inl (fun _ => 0)))] H := hP
  have hD : va_D A [(aM, oM qM 0 0 0 0 0 0 0 0 0 0 0 0 0 0 0 0 0 0), ((qM 14), .inl (cI, 4, .inl (fun _ => 0)))] := hD
  refine lv_aload_n hx hb dX12_writes_5 rfl (lv_at hl 0 rfl) ?_
  refine lv_iload_n hx hb dX12_writes_6 rfl (lv_at hl 1 rfl) ?_
  refine g_ai (D := D) (wc := [(aM, oM qM 0 0 0 0 0 0 0 0 0 0 0 0 0 0 0 0 0 0), ((qM 14), .inl (cI, 4, .inl (fun _ => 0)))]) (wr := []) hP hD hS hA [0, 1] [] rfl rfl rfl rfl (by decide) (fun hPc hDc => va_runV (As := [.int y0]) (rest := []) hF (c_X12_isWorker (l := l) (D := D) (cI := cI) (cB := cB) (cS := cS) (cZ := cZ) (cW := cW) (aM := aM) (y0 := y0) (qM := qM)) (cwV 1 hts (gGV (fun _ h => List.mem_cons_of_mem _ h) wm_570 wm_571 wm_572 wm_550 wm_573) rfl rfl rfl (by decide +kernel) ⟨Nat.le_of_ble_eq_true rfl, Nat.le_of_ble_eq_true rfl⟩) (g_preV (q := (RX12, TX12, 97)) (ci := 12) (q0 := 0) hE hPc hDc rfl rfl) rfl rfl hl.1 rfl (lv_room (Nat.le_of_ble_eq_true rfl)) dX12_writes_7 ⟨Nat.le_of_ble_eq_true rfl, Nat.le_of_ble_eq_true rfl⟩) (fun r1 u2 H locs p3 hP hD hS => ?_)
  have hP : va_P D vwCl [(aM, oM qM 0 0 0 0 0 0 0 0 0 0 0 0 0 0 0 0 0 0), ((qM 14), .inl (cI, 4, .inl (fun _ => 0)))] H := hP
  have hD : va_D A [(aM, oM qM 0 0 0 0 0 0 0 0 0 0 0 0 0 0 0 0 0 0), ((qM 14), .inl (cI, 4, .inl (fun _ => 0)))] := hD
  obtain rfl := p3
  refine lv_if_eq (tgt := 22) hx hb dX12_writes_10 (by decide) (fun _ => ?_) (fun c9 => absurd c9 (by decide +kernel))
  refine lv_iconst (v := 0) hx hb dX12_writes_22 (by decide +kernel) ?_
  exact g_iret () hF hr rfl hlocks (hP.sub [] rfl) (hD.sub [] rfl rfl) hS rfl dX12_writes_23 (Nat.le_of_ble_eq_true rfl) (Nat.le_of_ble_eq_true rfl)
set_option maxHeartbeats 8000000 in
set_option maxRecDepth 100000 in
theorem c_X12_letter {l : Launch} {D : va_G} {cI cB cS cZ cW : ClassId} {aM : Nat} {y0 : Int32} {y1 : Int32} {y2 : Int32} {qM : Nat → Nat} {mL : Nat → Int32}  {sz : Nat} : MI l D (gT cI cB cS cZ cW) yX12_letter (wG yX12_letter cX12_letter 4 (some .boolean)) { frames := 1, cells := 0, slots := 0, locals := 22 } [.ref aM, .int y0, .int y1, .int y2] [(aM, oM qM 0 0 0 0 0 0 0 0 0 0 0 0 0 0 0 0 0 0), ((qM 28), .inl (cI, 128, .inl mL))] sz (fun (r : Int32) (u : Unit) => r = S_letter y0 y1 y2) (fun (u : Unit) => [] : (Unit) → va_W) 0 0 := by
  refine g_enter (y := yX12_letter) (w := (wG yX12_letter cX12_letter 4 (some .boolean))) (As := [.ref aM, .int y0, .int y1, .int y2]) (D := D) (T := gT cI cB cS cZ cW) (ws := [(aM, oM qM 0 0 0 0 0 0 0 0 0 0 0 0 0 0 0 0 0 0), ((qM 28), .inl (cI, 128, .inl mL))]) (gQi D (fun (r : Int32) (u : Unit) => r = S_letter y0 y1 y2) (fun (u : Unit) => [] : (Unit) → va_W)) (cc := cX12_letter) (maxL := 4) (ret := (some .boolean)) (by decide) rfl (Nat.le_of_ble_eq_true rfl) ?_
  intro p e s m below meth c A ls hF hr hlocks hname hsz hE hA hP hD hS hl
  have hF : CallFix p m c cX12_letter 4 s ([.ref aM, .int y0, .int y1, .int y2] : List Value).toArray (wG yX12_letter cX12_letter 4 (some .boolean)) RX12 := hF
  obtain ⟨hx, hb, hml, hown, hts⟩ := id hF
  have htg : ∀ w ∈ GL, w.before ([.ref aM, .int y0, .int y1, .int y2] : List Value).toArray s = true := fun w h => hts w (List.mem_cons_of_mem _ h)
  have hl : lv_has ls 4 [(0, .ref aM), (1, .int y0), (2, .int y1), (3, .int y2)] := hl
  have z0 := t_0
  have z1 := t_1
  have z3 := t_3
  have z8 := t_8
  have z15 := t_15
  refine lv_aload_n hx hb dX12_letter_0 rfl (lv_at hl 0 rfl) ?_
  refine lv_iconst (v := 0) hx hb dX12_letter_1 (by decide +kernel) ?_
  refine va_put (D := D) (ci := 12) (v := .int 0) (ty := tyX12 0) (C := RX12) (T := TX12) (N := 97) hx hb htg iwG_12 tyX12 tyX12_ok nmX12 hown hE.1 hP hD hS 0 rfl rfl 0 (by decide) (htg _ wm_588) (fun _ h9 => h9) rfl (by decide +kernel) rfl rfl (Nat.le_of_ble_eq_true rfl) dX12_letter_2 (fun H locs hP hD hS => ?_)
  have hP : va_P D vwCl [(aM, oM qM 0 0 0 0 0 0 0 0 0 0 0 0 0 0 0 0 0 0), ((qM 28), .inl (cI, 128, .inl mL))] H := hP
  have hD : va_D A [(aM, oM qM 0 0 0 0 0 0 0 0 0 0 0 0 0 0 0 0 0 0), ((qM 28), .inl (cI, 128, .inl mL))] := hD
  refine lv_iload_n hx hb dX12_letter_5 rfl (lv_at hl 1 rfl) ?_
  refine lv_iconst (v := 0) hx hb dX12_letter_6 (by decide +kernel) ?_
  refine lv_iconst (v := 3) hx hb dX12_letter_7 (by decide +kernel) ?_
  refine g_ai (D := D) (wc := []) (wr := [(aM, oM qM 0 0 0 0 0 0 0 0 0 0 0 0 0 0 0 0 0 0), ((qM 28), .inl (cI, 128, .inl mL))]) hP hD hS hA [] [0, 1] rfl rfl rfl rfl (by decide) (fun hPc hDc => va_runS (As := [.int y0, .int 0, .int 3]) (rest := []) hF (c_X12_in (l := l) (D := D) (cI := cI) (cB := cB) (cS := cS) (cZ := cZ) (cW := cW) (y0 := y0) (y1 := 0) (y2 := 3)) (va_cwS 3 hts (gGS (fun _ h => List.mem_cons_of_mem _ h) wm_548 wm_549 wm_550 wm_551) rfl rfl rfl (by decide +kernel) ⟨Nat.le_of_ble_eq_true rfl, Nat.le_of_ble_eq_true rfl⟩) (g_preS hE hPc hDc) rfl rfl hl.1 rfl (lv_room (Nat.le_of_ble_eq_true rfl)) dX12_letter_8 ⟨Nat.le_of_ble_eq_true rfl, Nat.le_of_ble_eq_true rfl⟩) (fun r1 u2 H locs p3 hP hD hS => ?_)
  have hP : va_P D vwCl [(aM, oM qM 0 0 0 0 0 0 0 0 0 0 0 0 0 0 0 0 0 0), ((qM 28), .inl (cI, 128, .inl mL))] H := hP
  have hD : va_D A [(aM, oM qM 0 0 0 0 0 0 0 0 0 0 0 0 0 0 0 0 0 0), ((qM 28), .inl (cI, 128, .inl mL))] := hD
  rcases p3 with ⟨rfl, p3a⟩ | ⟨rfl, p3a⟩
  · skip
    refine lv_if_eq (tgt := 34) hx hb dX12_letter_11 (by decide) (fun c9 => absurd c9 (by decide +kernel)) (fun _ => ?_)
    refine lv_iload_n hx hb dX12_letter_14 rfl (lv_at hl 2 rfl) ?_
    refine lv_iconst (v := 1) hx hb dX12_letter_15 (by decide +kernel) ?_
    refine lv_bipush (v := 8) hx hb dX12_letter_16 (by decide +kernel) ?_
    refine g_ai (D := D) (wc := []) (wr := [(aM, oM qM 0 0 0 0 0 0 0 0 0 0 0 0 0 0 0 0 0 0), ((qM 28), .inl (cI, 128, .inl mL))]) hP hD hS hA [] [0, 1] rfl rfl rfl rfl (by decide) (fun hPc hDc => va_runS (As := [.int y1, .int 1, .int 8]) (rest := []) hF (c_X12_in (l := l) (D := D) (cI := cI) (cB := cB) (cS := cS) (cZ := cZ) (cW := cW) (y0 := y1) (y1 := 1) (y2 := 8)) (va_cwS 3 hts (gGS (fun _ h => List.mem_cons_of_mem _ h) wm_548 wm_549 wm_550 wm_551) rfl rfl rfl (by decide +kernel) ⟨Nat.le_of_ble_eq_true rfl, Nat.le_of_ble_eq_true rfl⟩) (g_preS hE hPc hDc) rfl rfl hl.1 rfl (lv_room (Nat.le_of_ble_eq_true rfl)) dX12_letter_18 ⟨Nat.le_of_ble_eq_true rfl, Nat.le_of_ble_eq_true rfl⟩) (fun r4 u5 H locs p6 hP hD hS => ?_)
    have hP : va_P D vwCl [(aM, oM qM 0 0 0 0 0 0 0 0 0 0 0 0 0 0 0 0 0 0), ((qM 28), .inl (cI, 128, .inl mL))] H := hP
    have hD : va_D A [(aM, oM qM 0 0 0 0 0 0 0 0 0 0 0 0 0 0 0 0 0 0), ((qM 28), .inl (cI, 128, .inl mL))] := hD
    rcases p6 with ⟨rfl, p6a⟩ | ⟨rfl, p6a⟩
    · skip
      refine lv_if_eq (tgt := 34) hx hb dX12_letter_21 (by decide) (fun c9 => absurd c9 (by decide +kernel)) (fun _ => ?_)
      refine lv_iload_n hx hb dX12_letter_24 rfl (lv_at hl 3 rfl) ?_
      refine lv_iconst (v := 1) hx hb dX12_letter_25 (by decide +kernel) ?_
      refine lv_bipush (v := 15) hx hb dX12_letter_26 (by decide +kernel) ?_
      refine g_ai (D := D) (wc := []) (wr := [(aM, oM qM 0 0 0 0 0 0 0 0 0 0 0 0 0 0 0 0 0 0), ((qM 28), .inl (cI, 128, .inl mL))]) hP hD hS hA [] [0, 1] rfl rfl rfl rfl (by decide) (fun hPc hDc => va_runS (As := [.int y2, .int 1, .int 15]) (rest := []) hF (c_X12_in (l := l) (D := D) (cI := cI) (cB := cB) (cS := cS) (cZ := cZ) (cW := cW) (y0 := y2) (y1 := 1) (y2 := 15)) (va_cwS 3 hts (gGS (fun _ h => List.mem_cons_of_mem _ h) wm_548 wm_549 wm_550 wm_551) rfl rfl rfl (by decide +kernel) ⟨Nat.le_of_ble_eq_true rfl, Nat.le_of_ble_eq_true rfl⟩) (g_preS hE hPc hDc) rfl rfl hl.1 rfl (lv_room (Nat.le_of_ble_eq_true rfl)) dX12_letter_28 ⟨Nat.le_of_ble_eq_true rfl, Nat.le_of_ble_eq_true rfl⟩) (fun r7 u8 H locs p9 hP hD hS => ?_)
      have hP : va_P D vwCl [(aM, oM qM 0 0 0 0 0 0 0 0 0 0 0 0 0 0 0 0 0 0), ((qM 28), .inl (cI, 128, .inl mL))] H := hP
      have hD : va_D A [(aM, oM qM 0 0 0 0 0 0 0 0 0 0 0 0 0 0 0 0 0 0), ((qM 28), .inl (cI, 128, .inl mL))] := hD
      rcases p9 with ⟨rfl, p9a⟩ | ⟨rfl, p9a⟩
      · skip
        refine lv_if_ne (tgt := 36) hx hb dX12_letter_31 (by decide) (fun _ => ?_) (fun c9 => absurd c9 (by decide +kernel))
        refine lv_aload_n hx hb dX12_letter_36 rfl (lv_at hl 0 rfl) ?_
        refine va_get (D := D) (ci := 12) (v := .ref (qM 28)) (C := RX12) (T := TX12) (N := 97) hx hb htg iwG_12 hown hE.1 hP 0 rfl rfl 28 (by decide) (htg _ wm_495) (fun _ h9 => h9) rfl dX12_letter_37 ?_
        refine lv_bipush (v := 8) hx hb dX12_letter_40 (by decide +kernel) ?_
        refine lv_iload_n hx hb dX12_letter_42 rfl (lv_at hl 1 rfl) ?_
        refine lv_imul hx hb dX12_letter_43 ?_
        refine lv_topi (fun v10 ev10 => ?_)
        have iv10 : v10.toInt = 8 * y0.toInt := by
          have h := fb_mulI (x := 8) (y := y0) (by rw [t_8]; omega) (by rw [t_8]; omega)
          rw [t_8] at h; rw [ev10]; exact h
        refine lv_iload_n hx hb dX12_letter_44 rfl (lv_at hl 2 rfl) ?_
        refine lv_iadd hx hb dX12_letter_45 ?_
        refine lv_topi (fun v11 ev11 => ?_)
        have iv11 : v11.toInt = (v10 : Int32).toInt + (y1 : Int32).toInt := by rw [ev11]; exact fb_addI (by omega) (by omega)
        refine lv_iconst (v := 1) hx hb dX12_letter_46 (by decide +kernel) ?_
        refine lv_isub hx hb dX12_letter_47 ?_
        refine lv_topi (fun v12 ev12 => ?_)
        have iv12 : v12.toInt = (v11 : Int32).toInt - (1 : Int32).toInt := by rw [ev12]; exact fb_subI (by omega) (by omega)
        refine lv_iload_n hx hb dX12_letter_48 rfl (lv_at hl 3 rfl) ?_
        refine va_iast hx hb hE.1 hP hD hS 1 0 rfl rfl (vp_in_iff.mpr ⟨by omega, by omega⟩) dX12_letter_49 (fun H locs hP hD hS => ?_)
        obtain ⟨g13, eg13⟩ : ∃ gz : Nat → Int32, gz = upd mL (v12 : Int32).toNatClampNeg y2 := ⟨_, rfl⟩
        have hP : va_P D vwCl [(aM, oM qM 0 0 0 0 0 0 0 0 0 0 0 0 0 0 0 0 0 0), ((qM 28), .inl (cI, 128, .inl g13))] H := by rw [eg13]; exact hP
        have hD : va_D A [(aM, oM qM 0 0 0 0 0 0 0 0 0 0 0 0 0 0 0 0 0 0), ((qM 28), .inl (cI, 128, .inl g13))] := by rw [eg13]; exact hD
        refine lv_iconst (v := 1) hx hb dX12_letter_50 (by decide +kernel) ?_
        exact g_iret () hF hr rfl hlocks (hP.sub [] rfl) (hD.sub [] rfl rfl) hS (by show (_ : Int32) = _; unfold S_letter; (repeat' split) <;> first | rfl | (exfalso; omega) | omega) dX12_letter_51 (Nat.le_of_ble_eq_true rfl) (Nat.le_of_ble_eq_true rfl)
      · skip
        refine lv_if_ne (tgt := 36) hx hb dX12_letter_31 (by decide) (fun c9 => absurd c9 (by decide +kernel)) (fun _ => ?_)
        refine lv_iconst (v := 0) hx hb dX12_letter_34 (by decide +kernel) ?_
        exact g_iret () hF hr rfl hlocks (hP.sub [] rfl) (hD.sub [] rfl rfl) hS (by show (_ : Int32) = _; unfold S_letter; (repeat' split) <;> first | rfl | (exfalso; omega) | omega) dX12_letter_35 (Nat.le_of_ble_eq_true rfl) (Nat.le_of_ble_eq_true rfl)
    · skip
      refine lv_if_eq (tgt := 34) hx hb dX12_letter_21 (by decide) (fun _ => ?_) (fun c9 => absurd c9 (by decide +kernel))
      refine lv_iconst (v := 0) hx hb dX12_letter_34 (by decide +kernel) ?_
      exact g_iret () hF hr rfl hlocks (hP.sub [] rfl) (hD.sub [] rfl rfl) hS (by show (_ : Int32) = _; unfold S_letter; (repeat' split) <;> first | rfl | (exfalso; omega) | omega) dX12_letter_35 (Nat.le_of_ble_eq_true rfl) (Nat.le_of_ble_eq_true rfl)
  · skip
    refine lv_if_eq (tgt := 34) hx hb dX12_letter_11 (by decide) (fun _ => ?_) (fun c9 => absurd c9 (by decide +kernel))
    refine lv_iconst (v := 0) hx hb dX12_letter_34 (by decide +kernel) ?_
    exact g_iret () hF hr rfl hlocks (hP.sub [] rfl) (hD.sub [] rfl rfl) hS (by show (_ : Int32) = _; unfold S_letter; (repeat' split) <;> first | rfl | (exfalso; omega) | omega) dX12_letter_35 (Nat.le_of_ble_eq_true rfl) (Nat.le_of_ble_eq_true rfl)
set_option maxHeartbeats 8000000 in
set_option maxRecDepth 100000 in
theorem c_X12_tape {l : Launch} {D : va_G} {cI cB cS cZ cW : ClassId} {aM : Nat} {y0 : Int32} {qM : Nat → Nat}  {sz : Nat} : MI l D (gT cI cB cS cZ cW) yX12_tape (wG yX12_tape cX12_tape 3 (some .int)) { frames := 1, cells := 0, slots := 0, locals := 22 } [.ref aM, .int y0] [(aM, oM qM 0 0 0 0 0 0 0 0 0 0 0 0 0 0 0 0 0 0), ((qM 5), .inl (cI, 4, .inl (fun _ => 0))), ((qM 38), .inl (cI, 4, .inl (fun _ => 0))), ((qM 39), .inl (cI, 64, .inl (fun _ => 0))), ((qM 40), .inl (cI, 64, .inl (fun _ => 0)))] sz (fun (r : Int32) (u : Unit) => r = S_tape y0) (fun (u : Unit) => [] : (Unit) → va_W) 0 0 := by
  refine g_enter (y := yX12_tape) (w := (wG yX12_tape cX12_tape 3 (some .int))) (As := [.ref aM, .int y0]) (D := D) (T := gT cI cB cS cZ cW) (ws := [(aM, oM qM 0 0 0 0 0 0 0 0 0 0 0 0 0 0 0 0 0 0), ((qM 5), .inl (cI, 4, .inl (fun _ => 0))), ((qM 38), .inl (cI, 4, .inl (fun _ => 0))), ((qM 39), .inl (cI, 64, .inl (fun _ => 0))), ((qM 40), .inl (cI, 64, .inl (fun _ => 0)))]) (gQi D (fun (r : Int32) (u : Unit) => r = S_tape y0) (fun (u : Unit) => [] : (Unit) → va_W)) (cc := cX12_tape) (maxL := 3) (ret := (some .int)) (by decide) rfl (Nat.le_of_ble_eq_true rfl) ?_
  intro p e s m below meth c A ls hF hr hlocks hname hsz hE hA hP hD hS hl
  have hF : CallFix p m c cX12_tape 3 s ([.ref aM, .int y0] : List Value).toArray (wG yX12_tape cX12_tape 3 (some .int)) RX12 := hF
  obtain ⟨hx, hb, hml, hown, hts⟩ := id hF
  have htg : ∀ w ∈ GL, w.before ([.ref aM, .int y0] : List Value).toArray s = true := fun w h => hts w (List.mem_cons_of_mem _ h)
  have hl : lv_has ls 3 [(0, .ref aM), (1, .int y0)] := hl
  have zm1 := tm_1
  have z0 := t_0
  have z1 := t_1
  have z16 := t_16
  have z400 := t_400
  refine lv_aload_n hx hb dX12_tape_0 rfl (lv_at hl 0 rfl) ?_
  refine lv_iconst (v := 0) hx hb dX12_tape_1 (by decide +kernel) ?_
  refine va_put (D := D) (ci := 12) (v := .int 0) (ty := tyX12 0) (C := RX12) (T := TX12) (N := 97) hx hb htg iwG_12 tyX12 tyX12_ok nmX12 hown hE.1 hP hD hS 0 rfl rfl 0 (by decide) (htg _ wm_588) (fun _ h9 => h9) rfl (by decide +kernel) rfl rfl (Nat.le_of_ble_eq_true rfl) dX12_tape_2 (fun H locs hP hD hS => ?_)
  have hP : va_P D vwCl [(aM, oM qM 0 0 0 0 0 0 0 0 0 0 0 0 0 0 0 0 0 0), ((qM 5), .inl (cI, 4, .inl (fun _ => 0))), ((qM 38), .inl (cI, 4, .inl (fun _ => 0))), ((qM 39), .inl (cI, 64, .inl (fun _ => 0))), ((qM 40), .inl (cI, 64, .inl (fun _ => 0)))] H := hP
  have hD : va_D A [(aM, oM qM 0 0 0 0 0 0 0 0 0 0 0 0 0 0 0 0 0 0), ((qM 5), .inl (cI, 4, .inl (fun _ => 0))), ((qM 38), .inl (cI, 4, .inl (fun _ => 0))), ((qM 39), .inl (cI, 64, .inl (fun _ => 0))), ((qM 40), .inl (cI, 64, .inl (fun _ => 0)))] := hD
  refine lv_aload_n hx hb dX12_tape_5 rfl (lv_at hl 0 rfl) ?_
  refine va_get (D := D) (ci := 12) (v := .ref (qM 38)) (C := RX12) (T := TX12) (N := 97) hx hb htg iwG_12 hown hE.1 hP 0 rfl rfl 38 (by decide) (htg _ wm_505) (fun _ h9 => h9) rfl dX12_tape_6 ?_
  refine lv_iconst (v := 0) hx hb dX12_tape_9 (by decide +kernel) ?_
  refine va_iald hx hb hE.1 hP 2 0 rfl rfl (vp_in_iff.mpr ⟨by decide +kernel, by decide +kernel⟩) dX12_tape_10 ?_
  refine g_top 0 rfl ?_
  refine lv_bipush (v := 16) hx hb dX12_tape_11 (by decide +kernel) ?_
  refine lv_icmp_eq (tgt := 27) hx hb dX12_tape_13 (by decide) (fun c9 => absurd c9 (by decide +kernel)) (fun _ => ?_)
  refine lv_iload_n hx hb dX12_tape_16 rfl (lv_at hl 1 rfl) ?_
  refine lv_iconst (v := 1) hx hb dX12_tape_17 (by decide +kernel) ?_
  refine lv_sipush (v := 400) hx hb dX12_tape_18 (by decide +kernel) ?_
  refine g_ai (D := D) (wc := []) (wr := [(aM, oM qM 0 0 0 0 0 0 0 0 0 0 0 0 0 0 0 0 0 0), ((qM 5), .inl (cI, 4, .inl (fun _ => 0))), ((qM 38), .inl (cI, 4, .inl (fun _ => 0))), ((qM 39), .inl (cI, 64, .inl (fun _ => 0))), ((qM 40), .inl (cI, 64, .inl (fun _ => 0)))]) hP hD hS hA [] [0, 1, 2, 3, 4] rfl rfl rfl rfl (by decide) (fun hPc hDc => va_runS (As := [.int y0, .int 1, .int 400]) (rest := []) hF (c_X12_in (l := l) (D := D) (cI := cI) (cB := cB) (cS := cS) (cZ := cZ) (cW := cW) (y0 := y0) (y1 := 1) (y2 := 400)) (va_cwS 3 hts (gGS (fun _ h => List.mem_cons_of_mem _ h) wm_548 wm_549 wm_550 wm_551) rfl rfl rfl (by decide +kernel) ⟨Nat.le_of_ble_eq_true rfl, Nat.le_of_ble_eq_true rfl⟩) (g_preS hE hPc hDc) rfl rfl hl.1 rfl (lv_room (Nat.le_of_ble_eq_true rfl)) dX12_tape_21 ⟨Nat.le_of_ble_eq_true rfl, Nat.le_of_ble_eq_true rfl⟩) (fun r1 u2 H locs p3 hP hD hS => ?_)
  have hP : va_P D vwCl [(aM, oM qM 0 0 0 0 0 0 0 0 0 0 0 0 0 0 0 0 0 0), ((qM 5), .inl (cI, 4, .inl (fun _ => 0))), ((qM 38), .inl (cI, 4, .inl (fun _ => 0))), ((qM 39), .inl (cI, 64, .inl (fun _ => 0))), ((qM 40), .inl (cI, 64, .inl (fun _ => 0)))] H := hP
  have hD : va_D A [(aM, oM qM 0 0 0 0 0 0 0 0 0 0 0 0 0 0 0 0 0 0), ((qM 5), .inl (cI, 4, .inl (fun _ => 0))), ((qM 38), .inl (cI, 4, .inl (fun _ => 0))), ((qM 39), .inl (cI, 64, .inl (fun _ => 0))), ((qM 40), .inl (cI, 64, .inl (fun _ => 0)))] := hD
  rcases p3 with ⟨rfl, p3a⟩ | ⟨rfl, p3a⟩
  · skip
    refine lv_if_ne (tgt := 29) hx hb dX12_tape_24 (by decide) (fun _ => ?_) (fun c9 => absurd c9 (by decide +kernel))
    refine lv_aload_n hx hb dX12_tape_29 rfl (lv_at hl 0 rfl) ?_
    refine va_get (D := D) (ci := 12) (v := .ref (qM 38)) (C := RX12) (T := TX12) (N := 97) hx hb htg iwG_12 hown hE.1 hP 0 rfl rfl 38 (by decide) (htg _ wm_505) (fun _ h9 => h9) rfl dX12_tape_30 ?_
    refine lv_iconst (v := 0) hx hb dX12_tape_33 (by decide +kernel) ?_
    refine va_iald hx hb hE.1 hP 2 0 rfl rfl (vp_in_iff.mpr ⟨by decide +kernel, by decide +kernel⟩) dX12_tape_34 ?_
    refine g_top 0 rfl ?_
    refine lv_istore_n (lv' := [(2, .int 0), (0, .ref aM), (1, .int y0)]) hx hb dX12_tape_35 rfl hl (by decide) rfl (fun ls hl => ?_)
    refine lv_aload_n hx hb dX12_tape_36 rfl (lv_at hl 1 rfl) ?_
    refine va_get (D := D) (ci := 12) (v := .ref (qM 38)) (C := RX12) (T := TX12) (N := 97) hx hb htg iwG_12 hown hE.1 hP 0 rfl rfl 38 (by decide) (htg _ wm_505) (fun _ h9 => h9) rfl dX12_tape_37 ?_
    refine lv_iconst (v := 0) hx hb dX12_tape_40 (by decide +kernel) ?_
    refine lv_dup2_11 hx hb dX12_tape_41 rfl rfl ?_
    refine va_iald hx hb hE.1 hP 2 0 rfl rfl (vp_in_iff.mpr ⟨by decide +kernel, by decide +kernel⟩) dX12_tape_42 ?_
    refine g_top 0 rfl ?_
    refine lv_iconst (v := 1) hx hb dX12_tape_43 (by decide +kernel) ?_
    refine lv_iadd hx hb dX12_tape_44 ?_
    refine g_top 1 (by decide +kernel) ?_
    refine va_iast hx hb hE.1 hP hD hS 2 0 rfl rfl (vp_in_iff.mpr ⟨by decide +kernel, by decide +kernel⟩) dX12_tape_45 (fun H locs hP hD hS => ?_)
    obtain ⟨g4, eg4, fg4⟩ : ∃ gz : Nat → Int32, gz = upd (fun _ => 0) (0 : Int32).toNatClampNeg 1 ∧ gz (0 : Int32).toNatClampNeg = 1 := ⟨_, rfl, pk_us⟩
    have hP : va_P D vwCl [(aM, oM qM 0 0 0 0 0 0 0 0 0 0 0 0 0 0 0 0 0 0), ((qM 5), .inl (cI, 4, .inl (fun _ => 0))), ((qM 38), .inl (cI, 4, .inl g4)), ((qM 39), .inl (cI, 64, .inl (fun _ => 0))), ((qM 40), .inl (cI, 64, .inl (fun _ => 0)))] H := by rw [eg4]; exact hP
    have hD : va_D A [(aM, oM qM 0 0 0 0 0 0 0 0 0 0 0 0 0 0 0 0 0 0), ((qM 5), .inl (cI, 4, .inl (fun _ => 0))), ((qM 38), .inl (cI, 4, .inl g4)), ((qM 39), .inl (cI, 64, .inl (fun _ => 0))), ((qM 40), .inl (cI, 64, .inl (fun _ => 0)))] := by rw [eg4]; exact hD
    refine lv_aload_n hx hb dX12_tape_46 rfl (lv_at hl 1 rfl) ?_
    refine va_get (D := D) (ci := 12) (v := .ref (qM 39)) (C := RX12) (T := TX12) (N := 97) hx hb htg iwG_12 hown hE.1 hP 0 rfl rfl 39 (by decide) (htg _ wm_506) (fun _ h9 => h9) rfl dX12_tape_47 ?_
    refine lv_iload_n hx hb dX12_tape_50 rfl (lv_at hl 0 rfl) ?_
    refine lv_iload_n hx hb dX12_tape_51 rfl (lv_at hl 2 rfl) ?_
    refine va_iast hx hb hE.1 hP hD hS 3 0 rfl rfl (vp_in_iff.mpr ⟨by decide +kernel, by decide +kernel⟩) dX12_tape_52 (fun H locs hP hD hS => ?_)
    obtain ⟨g5, eg5⟩ : ∃ gz : Nat → Int32, gz = upd (fun _ => 0) (0 : Int32).toNatClampNeg y0 := ⟨_, rfl⟩
    have hP : va_P D vwCl [(aM, oM qM 0 0 0 0 0 0 0 0 0 0 0 0 0 0 0 0 0 0), ((qM 5), .inl (cI, 4, .inl (fun _ => 0))), ((qM 38), .inl (cI, 4, .inl g4)), ((qM 39), .inl (cI, 64, .inl g5)), ((qM 40), .inl (cI, 64, .inl (fun _ => 0)))] H := by rw [eg5]; exact hP
    have hD : va_D A [(aM, oM qM 0 0 0 0 0 0 0 0 0 0 0 0 0 0 0 0 0 0), ((qM 5), .inl (cI, 4, .inl (fun _ => 0))), ((qM 38), .inl (cI, 4, .inl g4)), ((qM 39), .inl (cI, 64, .inl g5)), ((qM 40), .inl (cI, 64, .inl (fun _ => 0)))] := by rw [eg5]; exact hD
    refine lv_aload_n hx hb dX12_tape_53 rfl (lv_at hl 1 rfl) ?_
    refine va_get (D := D) (ci := 12) (v := .ref (qM 40)) (C := RX12) (T := TX12) (N := 97) hx hb htg iwG_12 hown hE.1 hP 0 rfl rfl 40 (by decide) (htg _ wm_507) (fun _ h9 => h9) rfl dX12_tape_54 ?_
    refine lv_iload_n hx hb dX12_tape_57 rfl (lv_at hl 0 rfl) ?_
    refine lv_aload_n hx hb dX12_tape_58 rfl (lv_at hl 1 rfl) ?_
    refine va_get (D := D) (ci := 12) (v := .ref (qM 5)) (C := RX12) (T := TX12) (N := 97) hx hb htg iwG_12 hown hE.1 hP 0 rfl rfl 5 (by decide) (htg _ wm_471) (fun _ h9 => h9) rfl dX12_tape_59 ?_
    refine lv_iconst (v := 0) hx hb dX12_tape_62 (by decide +kernel) ?_
    refine va_iald hx hb hE.1 hP 1 0 rfl rfl (vp_in_iff.mpr ⟨by decide +kernel, by decide +kernel⟩) dX12_tape_63 ?_
    refine g_top 0 rfl ?_
    refine va_iast hx hb hE.1 hP hD hS 4 0 rfl rfl (vp_in_iff.mpr ⟨by decide +kernel, by decide +kernel⟩) dX12_tape_64 (fun H locs hP hD hS => ?_)
    obtain ⟨g6, eg6, fg6⟩ : ∃ gz : Nat → Int32, gz = upd (fun _ => 0) (0 : Int32).toNatClampNeg 0 ∧ gz (0 : Int32).toNatClampNeg = 0 := ⟨_, rfl, pk_us⟩
    have hP : va_P D vwCl [(aM, oM qM 0 0 0 0 0 0 0 0 0 0 0 0 0 0 0 0 0 0), ((qM 5), .inl (cI, 4, .inl (fun _ => 0))), ((qM 38), .inl (cI, 4, .inl g4)), ((qM 39), .inl (cI, 64, .inl g5)), ((qM 40), .inl (cI, 64, .inl g6))] H := by rw [eg6]; exact hP
    have hD : va_D A [(aM, oM qM 0 0 0 0 0 0 0 0 0 0 0 0 0 0 0 0 0 0), ((qM 5), .inl (cI, 4, .inl (fun _ => 0))), ((qM 38), .inl (cI, 4, .inl g4)), ((qM 39), .inl (cI, 64, .inl g5)), ((qM 40), .inl (cI, 64, .inl g6))] := by rw [eg6]; exact hD
    refine lv_iload_n hx hb dX12_tape_65 rfl (lv_at hl 0 rfl) ?_
    exact g_iret () hF hr rfl hlocks (hP.sub [] rfl) (hD.sub [] rfl rfl) hS (by show (_ : Int32) = _; unfold S_tape; (repeat' split) <;> first | rfl | (exfalso; omega) | omega) dX12_tape_66 (Nat.le_of_ble_eq_true rfl) (Nat.le_of_ble_eq_true rfl)
  · skip
    refine lv_if_ne (tgt := 29) hx hb dX12_tape_24 (by decide) (fun c9 => absurd c9 (by decide +kernel)) (fun _ => ?_)
    refine lv_iconst (v := (-1)) hx hb dX12_tape_27 (by decide +kernel) ?_
    exact g_iret () hF hr rfl hlocks (hP.sub [] rfl) (hD.sub [] rfl rfl) hS (by show (_ : Int32) = _; unfold S_tape; (repeat' split) <;> first | rfl | (exfalso; omega) | omega) dX12_tape_28 (Nat.le_of_ble_eq_true rfl) (Nat.le_of_ble_eq_true rfl)
set_option maxHeartbeats 8000000 in
set_option maxRecDepth 100000 in
theorem c_X12_copy {l : Launch} {D : va_G} {cI cB cS cZ cW : ClassId} {aM : Nat} {y0 : Int32} {qM : Nat → Nat}  {sz : Nat} : MI l D (gT cI cB cS cZ cW) yX12_copy (wG yX12_copy cX12_copy 2 (some .boolean)) { frames := 2, cells := 0, slots := 0, locals := 43 } [.ref aM, .int y0] [(aM, oM qM 0 0 0 0 0 0 0 0 0 0 0 0 0 0 0 0 0 0), ((qM 38), .inl (cI, 4, .inl (fun _ => 0)))] sz (fun (r : Int32) (u : Unit) => r = 0) (fun (u : Unit) => [] : (Unit) → va_W) 0 0 := by
  refine g_enter (y := yX12_copy) (w := (wG yX12_copy cX12_copy 2 (some .boolean))) (As := [.ref aM, .int y0]) (D := D) (T := gT cI cB cS cZ cW) (ws := [(aM, oM qM 0 0 0 0 0 0 0 0 0 0 0 0 0 0 0 0 0 0), ((qM 38), .inl (cI, 4, .inl (fun _ => 0)))]) (gQi D (fun (r : Int32) (u : Unit) => r = 0) (fun (u : Unit) => [] : (Unit) → va_W)) (cc := cX12_copy) (maxL := 2) (ret := (some .boolean)) (by decide) rfl (Nat.le_of_ble_eq_true rfl) ?_
  intro p e s m below meth c A ls hF hr hlocks hname hsz hE hA hP hD hS hl
  have hF : CallFix p m c cX12_copy 2 s ([.ref aM, .int y0] : List Value).toArray (wG yX12_copy cX12_copy 2 (some .boolean)) RX12 := hF
  obtain ⟨hx, hb, hml, hown, hts⟩ := id hF
  have htg : ∀ w ∈ GL, w.before ([.ref aM, .int y0] : List Value).toArray s = true := fun w h => hts w (List.mem_cons_of_mem _ h)
  have hl : lv_has ls 2 [(0, .ref aM), (1, .int y0)] := hl
  have z0 := t_0
  refine lv_aload_n hx hb dX12_copy_0 rfl (lv_at hl 0 rfl) ?_
  refine lv_iconst (v := 0) hx hb dX12_copy_1 (by decide +kernel) ?_
  refine va_put (D := D) (ci := 12) (v := .int 0) (ty := tyX12 0) (C := RX12) (T := TX12) (N := 97) hx hb htg iwG_12 tyX12 tyX12_ok nmX12 hown hE.1 hP hD hS 0 rfl rfl 0 (by decide) (htg _ wm_588) (fun _ h9 => h9) rfl (by decide +kernel) rfl rfl (Nat.le_of_ble_eq_true rfl) dX12_copy_2 (fun H locs hP hD hS => ?_)
  have hP : va_P D vwCl [(aM, oM qM 0 0 0 0 0 0 0 0 0 0 0 0 0 0 0 0 0 0), ((qM 38), .inl (cI, 4, .inl (fun _ => 0)))] H := hP
  have hD : va_D A [(aM, oM qM 0 0 0 0 0 0 0 0 0 0 0 0 0 0 0 0 0 0), ((qM 38), .inl (cI, 4, .inl (fun _ => 0)))] := hD
  refine lv_aload_n hx hb dX12_copy_5 rfl (lv_at hl 0 rfl) ?_
  refine lv_iload_n hx hb dX12_copy_6 rfl (lv_at hl 1 rfl) ?_
  refine g_ai (D := D) (wc := [(aM, oM qM 0 0 0 0 0 0 0 0 0 0 0 0 0 0 0 0 0 0), ((qM 38), .inl (cI, 4, .inl (fun _ => 0)))]) (wr := []) hP hD hS hA [0, 1] [] rfl rfl rfl rfl (by decide) (fun hPc hDc => va_runV (As := [.int y0]) (rest := []) hF (c_X12_isTape (l := l) (D := D) (cI := cI) (cB := cB) (cS := cS) (cZ := cZ) (cW := cW) (aM := aM) (y0 := y0) (qM := qM)) (cwV 1 hts (gGV (fun _ h => List.mem_cons_of_mem _ h) wm_617 wm_618 wm_619 wm_550 wm_620) rfl rfl rfl (by decide +kernel) ⟨Nat.le_of_ble_eq_true rfl, Nat.le_of_ble_eq_true rfl⟩) (g_preV (q := (RX12, TX12, 97)) (ci := 12) (q0 := 0) hE hPc hDc rfl rfl) rfl rfl hl.1 rfl (lv_room (Nat.le_of_ble_eq_true rfl)) dX12_copy_7 ⟨Nat.le_of_ble_eq_true rfl, Nat.le_of_ble_eq_true rfl⟩) (fun r1 u2 H locs p3 hP hD hS => ?_)
  have hP : va_P D vwCl [(aM, oM qM 0 0 0 0 0 0 0 0 0 0 0 0 0 0 0 0 0 0), ((qM 38), .inl (cI, 4, .inl (fun _ => 0)))] H := hP
  have hD : va_D A [(aM, oM qM 0 0 0 0 0 0 0 0 0 0 0 0 0 0 0 0 0 0), ((qM 38), .inl (cI, 4, .inl (fun _ => 0)))] := hD
  obtain rfl := p3
  refine lv_if_eq (tgt := 21) hx hb dX12_copy_10 (by decide) (fun _ => ?_) (fun c9 => absurd c9 (by decide +kernel))
  refine lv_iconst (v := 0) hx hb dX12_copy_21 (by decide +kernel) ?_
  exact g_iret () hF hr rfl hlocks (hP.sub [] rfl) (hD.sub [] rfl rfl) hS rfl dX12_copy_22 (Nat.le_of_ble_eq_true rfl) (Nat.le_of_ble_eq_true rfl)
set_option maxHeartbeats 8000000 in
set_option maxRecDepth 100000 in
theorem c_X12_about {l : Launch} {D : va_G} {cI cB cS cZ cW : ClassId} {aM : Nat} {y0 : Int32} {y1 : Int32} {qM : Nat → Nat}  {sz : Nat} : MI l D (gT cI cB cS cZ cW) yX12_about (wG yX12_about cX12_about 3 (some .int)) { frames := 2, cells := 0, slots := 0, locals := 43 } [.ref aM, .int y0, .int y1] [(aM, oM qM 0 0 0 0 0 0 0 0 0 0 0 0 0 0 0 0 0 0), ((qM 38), .inl (cI, 4, .inl (fun _ => 0)))] sz (fun (r : Int32) (u : Unit) => r = (-1)) (fun (u : Unit) => [] : (Unit) → va_W) 0 0 := by
  refine g_enter (y := yX12_about) (w := (wG yX12_about cX12_about 3 (some .int))) (As := [.ref aM, .int y0, .int y1]) (D := D) (T := gT cI cB cS cZ cW) (ws := [(aM, oM qM 0 0 0 0 0 0 0 0 0 0 0 0 0 0 0 0 0 0), ((qM 38), .inl (cI, 4, .inl (fun _ => 0)))]) (gQi D (fun (r : Int32) (u : Unit) => r = (-1)) (fun (u : Unit) => [] : (Unit) → va_W)) (cc := cX12_about) (maxL := 3) (ret := (some .int)) (by decide) rfl (Nat.le_of_ble_eq_true rfl) ?_
  intro p e s m below meth c A ls hF hr hlocks hname hsz hE hA hP hD hS hl
  have hF : CallFix p m c cX12_about 3 s ([.ref aM, .int y0, .int y1] : List Value).toArray (wG yX12_about cX12_about 3 (some .int)) RX12 := hF
  obtain ⟨hx, hb, hml, hown, hts⟩ := id hF
  have htg : ∀ w ∈ GL, w.before ([.ref aM, .int y0, .int y1] : List Value).toArray s = true := fun w h => hts w (List.mem_cons_of_mem _ h)
  have hl : lv_has ls 3 [(0, .ref aM), (1, .int y0), (2, .int y1)] := hl
  have zm1 := tm_1
  have z0 := t_0
  refine lv_aload_n hx hb dX12_about_0 rfl (lv_at hl 0 rfl) ?_
  refine lv_iconst (v := 0) hx hb dX12_about_1 (by decide +kernel) ?_
  refine va_put (D := D) (ci := 12) (v := .int 0) (ty := tyX12 0) (C := RX12) (T := TX12) (N := 97) hx hb htg iwG_12 tyX12 tyX12_ok nmX12 hown hE.1 hP hD hS 0 rfl rfl 0 (by decide) (htg _ wm_588) (fun _ h9 => h9) rfl (by decide +kernel) rfl rfl (Nat.le_of_ble_eq_true rfl) dX12_about_2 (fun H locs hP hD hS => ?_)
  have hP : va_P D vwCl [(aM, oM qM 0 0 0 0 0 0 0 0 0 0 0 0 0 0 0 0 0 0), ((qM 38), .inl (cI, 4, .inl (fun _ => 0)))] H := hP
  have hD : va_D A [(aM, oM qM 0 0 0 0 0 0 0 0 0 0 0 0 0 0 0 0 0 0), ((qM 38), .inl (cI, 4, .inl (fun _ => 0)))] := hD
  refine lv_aload_n hx hb dX12_about_5 rfl (lv_at hl 0 rfl) ?_
  refine lv_iload_n hx hb dX12_about_6 rfl (lv_at hl 1 rfl) ?_
  refine g_ai (D := D) (wc := [(aM, oM qM 0 0 0 0 0 0 0 0 0 0 0 0 0 0 0 0 0 0), ((qM 38), .inl (cI, 4, .inl (fun _ => 0)))]) (wr := []) hP hD hS hA [0, 1] [] rfl rfl rfl rfl (by decide) (fun hPc hDc => va_runV (As := [.int y0]) (rest := []) hF (c_X12_isTape (l := l) (D := D) (cI := cI) (cB := cB) (cS := cS) (cZ := cZ) (cW := cW) (aM := aM) (y0 := y0) (qM := qM)) (cwV 1 hts (gGV (fun _ h => List.mem_cons_of_mem _ h) wm_617 wm_618 wm_619 wm_550 wm_620) rfl rfl rfl (by decide +kernel) ⟨Nat.le_of_ble_eq_true rfl, Nat.le_of_ble_eq_true rfl⟩) (g_preV (q := (RX12, TX12, 97)) (ci := 12) (q0 := 0) hE hPc hDc rfl rfl) rfl rfl hl.1 rfl (lv_room (Nat.le_of_ble_eq_true rfl)) dX12_about_7 ⟨Nat.le_of_ble_eq_true rfl, Nat.le_of_ble_eq_true rfl⟩) (fun r1 u2 H locs p3 hP hD hS => ?_)
  have hP : va_P D vwCl [(aM, oM qM 0 0 0 0 0 0 0 0 0 0 0 0 0 0 0 0 0 0), ((qM 38), .inl (cI, 4, .inl (fun _ => 0)))] H := hP
  have hD : va_D A [(aM, oM qM 0 0 0 0 0 0 0 0 0 0 0 0 0 0 0 0 0 0), ((qM 38), .inl (cI, 4, .inl (fun _ => 0)))] := hD
  obtain rfl := p3
  refine lv_if_ne (tgt := 15) hx hb dX12_about_10 (by decide) (fun c9 => absurd c9 (by decide +kernel)) (fun _ => ?_)
  refine lv_iconst (v := (-1)) hx hb dX12_about_13 (by decide +kernel) ?_
  exact g_iret () hF hr rfl hlocks (hP.sub [] rfl) (hD.sub [] rfl rfl) hS rfl dX12_about_14 (Nat.le_of_ble_eq_true rfl) (Nat.le_of_ble_eq_true rfl)
set_option maxHeartbeats 8000000 in
set_option maxRecDepth 100000 in
theorem c_X12_ask {l : Launch} {D : va_G} {cI cB cS cZ cW : ClassId} {aM : Nat} {y0 : Int32} {y1 : Int32} {y2 : Int32} {y3 : Int32} {qM : Nat → Nat}  {sz : Nat} : MI l D (gT cI cB cS cZ cW) yX12_ask (wG yX12_ask cX12_ask 7 (some .int)) { frames := 4, cells := 0, slots := 0, locals := 89 } [.ref aM, .int y0, .int y1, .int y2, .int y3] [(aM, oM qM 0 0 0 0 0 0 0 0 0 0 0 0 0 0 0 0 0 0), ((qM 14), .inl (cI, 4, .inl (fun _ => 0))), ((qM 41), .inl (cI, 4, .inl (fun _ => 0)))] sz (fun (r : Int32) (u : Unit) => r = (-1)) (fun (u : Unit) => [] : (Unit) → va_W) 0 0 := by
  refine g_enter (y := yX12_ask) (w := (wG yX12_ask cX12_ask 7 (some .int))) (As := [.ref aM, .int y0, .int y1, .int y2, .int y3]) (D := D) (T := gT cI cB cS cZ cW) (ws := [(aM, oM qM 0 0 0 0 0 0 0 0 0 0 0 0 0 0 0 0 0 0), ((qM 14), .inl (cI, 4, .inl (fun _ => 0))), ((qM 41), .inl (cI, 4, .inl (fun _ => 0)))]) (gQi D (fun (r : Int32) (u : Unit) => r = (-1)) (fun (u : Unit) => [] : (Unit) → va_W)) (cc := cX12_ask) (maxL := 7) (ret := (some .int)) (by decide) rfl (Nat.le_of_ble_eq_true rfl) ?_
  intro p e s m below meth c A ls hF hr hlocks hname hsz hE hA hP hD hS hl
  have hF : CallFix p m c cX12_ask 7 s ([.ref aM, .int y0, .int y1, .int y2, .int y3] : List Value).toArray (wG yX12_ask cX12_ask 7 (some .int)) RX12 := hF
  obtain ⟨hx, hb, hml, hown, hts⟩ := id hF
  have htg : ∀ w ∈ GL, w.before ([.ref aM, .int y0, .int y1, .int y2, .int y3] : List Value).toArray s = true := fun w h => hts w (List.mem_cons_of_mem _ h)
  have hl : lv_has ls 7 [(0, .ref aM), (1, .int y0), (2, .int y1), (3, .int y2), (4, .int y3)] := hl
  have zm1 := tm_1
  have z0 := t_0
  refine lv_aload_n hx hb dX12_ask_0 rfl (lv_at hl 0 rfl) ?_
  refine lv_iconst (v := 0) hx hb dX12_ask_1 (by decide +kernel) ?_
  refine va_put (D := D) (ci := 12) (v := .int 0) (ty := tyX12 0) (C := RX12) (T := TX12) (N := 97) hx hb htg iwG_12 tyX12 tyX12_ok nmX12 hown hE.1 hP hD hS 0 rfl rfl 0 (by decide) (htg _ wm_588) (fun _ h9 => h9) rfl (by decide +kernel) rfl rfl (Nat.le_of_ble_eq_true rfl) dX12_ask_2 (fun H locs hP hD hS => ?_)
  have hP : va_P D vwCl [(aM, oM qM 0 0 0 0 0 0 0 0 0 0 0 0 0 0 0 0 0 0), ((qM 14), .inl (cI, 4, .inl (fun _ => 0))), ((qM 41), .inl (cI, 4, .inl (fun _ => 0)))] H := hP
  have hD : va_D A [(aM, oM qM 0 0 0 0 0 0 0 0 0 0 0 0 0 0 0 0 0 0), ((qM 14), .inl (cI, 4, .inl (fun _ => 0))), ((qM 41), .inl (cI, 4, .inl (fun _ => 0)))] := hD
  refine lv_aload_n hx hb dX12_ask_5 rfl (lv_at hl 0 rfl) ?_
  refine lv_iload_n hx hb dX12_ask_6 rfl (lv_at hl 1 rfl) ?_
  refine lv_iload_n hx hb dX12_ask_7 rfl (lv_at hl 2 rfl) ?_
  refine lv_iload_n hx hb dX12_ask_8 rfl (lv_at hl 3 rfl) ?_
  refine lv_iload hx hb dX12_ask_9 (lv_at hl 4 rfl) ?_
  refine g_ai (D := D) (wc := [(aM, oM qM 0 0 0 0 0 0 0 0 0 0 0 0 0 0 0 0 0 0), ((qM 14), .inl (cI, 4, .inl (fun _ => 0))), ((qM 41), .inl (cI, 4, .inl (fun _ => 0)))]) (wr := []) hP hD hS hA [0, 1, 2] [] rfl rfl rfl rfl (by decide) (fun hPc hDc => va_runV (As := [.int y0, .int y1, .int y2, .int y3]) (rest := []) hF (c_X12_canAsk (l := l) (D := D) (cI := cI) (cB := cB) (cS := cS) (cZ := cZ) (cW := cW) (aM := aM) (y0 := y0) (y1 := y1) (y2 := y2) (y3 := y3) (qM := qM)) (cwV 4 hts (gGV (fun _ h => List.mem_cons_of_mem _ h) wm_621 wm_622 wm_623 wm_550 wm_624) rfl rfl rfl (by decide +kernel) ⟨Nat.le_of_ble_eq_true rfl, Nat.le_of_ble_eq_true rfl⟩) (g_preV (q := (RX12, TX12, 97)) (ci := 12) (q0 := 0) hE hPc hDc rfl rfl) rfl rfl hl.1 rfl (lv_room (Nat.le_of_ble_eq_true rfl)) dX12_ask_11 ⟨Nat.le_of_ble_eq_true rfl, Nat.le_of_ble_eq_true rfl⟩) (fun r1 u2 H locs p3 hP hD hS => ?_)
  have hP : va_P D vwCl [(aM, oM qM 0 0 0 0 0 0 0 0 0 0 0 0 0 0 0 0 0 0), ((qM 14), .inl (cI, 4, .inl (fun _ => 0))), ((qM 41), .inl (cI, 4, .inl (fun _ => 0)))] H := hP
  have hD : va_D A [(aM, oM qM 0 0 0 0 0 0 0 0 0 0 0 0 0 0 0 0 0 0), ((qM 14), .inl (cI, 4, .inl (fun _ => 0))), ((qM 41), .inl (cI, 4, .inl (fun _ => 0)))] := hD
  obtain rfl := p3
  refine lv_if_ne (tgt := 19) hx hb dX12_ask_14 (by decide) (fun c9 => absurd c9 (by decide +kernel)) (fun _ => ?_)
  refine lv_iconst (v := (-1)) hx hb dX12_ask_17 (by decide +kernel) ?_
  exact g_iret () hF hr rfl hlocks (hP.sub [] rfl) (hD.sub [] rfl rfl) hS rfl dX12_ask_18 (Nat.le_of_ble_eq_true rfl) (Nat.le_of_ble_eq_true rfl)
set_option maxHeartbeats 8000000 in
set_option maxRecDepth 100000 in
theorem c_X12_row {l : Launch} {D : va_G} {cI cB cS cZ cW : ClassId} {aM : Nat} {y0 : Int32} {y1 : Int32} {qM : Nat → Nat}  {sz : Nat} : MI l D (gT cI cB cS cZ cW) yX12_row (wG yX12_row cX12_row 3 (some .int)) { frames := 1, cells := 0, slots := 0, locals := 22 } [.ref aM, .int y0, .int y1] [(aM, oM qM 0 0 0 0 0 0 0 0 0 0 0 0 0 0 0 0 0 0), ((qM 41), .inl (cI, 4, .inl (fun _ => 0)))] sz (fun (r : Int32) (u : Unit) => r = (-100)) (fun (u : Unit) => [] : (Unit) → va_W) 0 0 := by
  refine g_enter (y := yX12_row) (w := (wG yX12_row cX12_row 3 (some .int))) (As := [.ref aM, .int y0, .int y1]) (D := D) (T := gT cI cB cS cZ cW) (ws := [(aM, oM qM 0 0 0 0 0 0 0 0 0 0 0 0 0 0 0 0 0 0), ((qM 41), .inl (cI, 4, .inl (fun _ => 0)))]) (gQi D (fun (r : Int32) (u : Unit) => r = (-100)) (fun (u : Unit) => [] : (Unit) → va_W)) (cc := cX12_row) (maxL := 3) (ret := (some .int)) (by decide) rfl (Nat.le_of_ble_eq_true rfl) ?_
  intro p e s m below meth c A ls hF hr hlocks hname hsz hE hA hP hD hS hl
  have hF : CallFix p m c cX12_row 3 s ([.ref aM, .int y0, .int y1] : List Value).toArray (wG yX12_row cX12_row 3 (some .int)) RX12 := hF
  obtain ⟨hx, hb, hml, hown, hts⟩ := id hF
  have htg : ∀ w ∈ GL, w.before ([.ref aM, .int y0, .int y1] : List Value).toArray s = true := fun w h => hts w (List.mem_cons_of_mem _ h)
  have hl : lv_has ls 3 [(0, .ref aM), (1, .int y0), (2, .int y1)] := hl
  have zm100 := tm_100
  have zm1 := tm_1
  have z0 := t_0
  have z1 := t_1
  refine lv_aload_n hx hb dX12_row_0 rfl (lv_at hl 0 rfl) ?_
  refine lv_iconst (v := 0) hx hb dX12_row_1 (by decide +kernel) ?_
  refine va_put (D := D) (ci := 12) (v := .int 0) (ty := tyX12 0) (C := RX12) (T := TX12) (N := 97) hx hb htg iwG_12 tyX12 tyX12_ok nmX12 hown hE.1 hP hD hS 0 rfl rfl 0 (by decide) (htg _ wm_588) (fun _ h9 => h9) rfl (by decide +kernel) rfl rfl (Nat.le_of_ble_eq_true rfl) dX12_row_2 (fun H locs hP hD hS => ?_)
  have hP : va_P D vwCl [(aM, oM qM 0 0 0 0 0 0 0 0 0 0 0 0 0 0 0 0 0 0), ((qM 41), .inl (cI, 4, .inl (fun _ => 0)))] H := hP
  have hD : va_D A [(aM, oM qM 0 0 0 0 0 0 0 0 0 0 0 0 0 0 0 0 0 0), ((qM 41), .inl (cI, 4, .inl (fun _ => 0)))] := hD
  refine lv_iload_n hx hb dX12_row_5 rfl (lv_at hl 1 rfl) ?_
  refine lv_iconst (v := 0) hx hb dX12_row_6 (by decide +kernel) ?_
  refine lv_aload_n hx hb dX12_row_7 rfl (lv_at hl 0 rfl) ?_
  refine va_get (D := D) (ci := 12) (v := .ref (qM 41)) (C := RX12) (T := TX12) (N := 97) hx hb htg iwG_12 hown hE.1 hP 0 rfl rfl 41 (by decide) (htg _ wm_508) (fun _ h9 => h9) rfl dX12_row_8 ?_
  refine lv_iconst (v := 0) hx hb dX12_row_11 (by decide +kernel) ?_
  refine va_iald hx hb hE.1 hP 1 0 rfl rfl (vp_in_iff.mpr ⟨by decide +kernel, by decide +kernel⟩) dX12_row_12 ?_
  refine g_top 0 rfl ?_
  refine lv_iconst (v := 1) hx hb dX12_row_13 (by decide +kernel) ?_
  refine lv_isub hx hb dX12_row_14 ?_
  refine g_top (-1) (by decide +kernel) ?_
  refine g_ai (D := D) (wc := []) (wr := [(aM, oM qM 0 0 0 0 0 0 0 0 0 0 0 0 0 0 0 0 0 0), ((qM 41), .inl (cI, 4, .inl (fun _ => 0)))]) hP hD hS hA [] [0, 1] rfl rfl rfl rfl (by decide) (fun hPc hDc => va_runS (As := [.int y0, .int 0, .int (-1)]) (rest := []) hF (c_X12_in (l := l) (D := D) (cI := cI) (cB := cB) (cS := cS) (cZ := cZ) (cW := cW) (y0 := y0) (y1 := 0) (y2 := (-1))) (va_cwS 3 hts (gGS (fun _ h => List.mem_cons_of_mem _ h) wm_548 wm_549 wm_550 wm_551) rfl rfl rfl (by decide +kernel) ⟨Nat.le_of_ble_eq_true rfl, Nat.le_of_ble_eq_true rfl⟩) (g_preS hE hPc hDc) rfl rfl hl.1 rfl (lv_room (Nat.le_of_ble_eq_true rfl)) dX12_row_15 ⟨Nat.le_of_ble_eq_true rfl, Nat.le_of_ble_eq_true rfl⟩) (fun r1 u2 H locs p3 hP hD hS => ?_)
  have hP : va_P D vwCl [(aM, oM qM 0 0 0 0 0 0 0 0 0 0 0 0 0 0 0 0 0 0), ((qM 41), .inl (cI, 4, .inl (fun _ => 0)))] H := hP
  have hD : va_D A [(aM, oM qM 0 0 0 0 0 0 0 0 0 0 0 0 0 0 0 0 0 0), ((qM 41), .inl (cI, 4, .inl (fun _ => 0)))] := hD
  rcases p3 with ⟨rfl, p3a⟩ | ⟨rfl, p3a⟩
  · exfalso; omega
  · skip
    refine lv_if_ne (tgt := 24) hx hb dX12_row_18 (by decide) (fun c9 => absurd c9 (by decide +kernel)) (fun _ => ?_)
    refine lv_bipush (v := (-100)) hx hb dX12_row_21 (by decide +kernel) ?_
    exact g_iret () hF hr rfl hlocks (hP.sub [] rfl) (hD.sub [] rfl rfl) hS rfl dX12_row_23 (Nat.le_of_ble_eq_true rfl) (Nat.le_of_ble_eq_true rfl)
set_option maxHeartbeats 8000000 in
set_option maxRecDepth 100000 in
theorem c_X12_play {l : Launch} {D : va_G} {cI cB cS cZ cW : ClassId} {aM : Nat} {y0 : Int32} {y1 : Int32} {qM : Nat → Nat}  {sz : Nat} : MI l D (gT cI cB cS cZ cW) yX12_play (wG yX12_play cX12_play 6 (some .int)) { frames := 3, cells := 0, slots := 0, locals := 64 } [.ref aM, .int y0, .int y1] [(aM, oM qM 0 0 0 0 0 0 0 0 0 0 0 0 0 0 0 0 0 0), ((qM 14), .inl (cI, 4, .inl (fun _ => 0)))] sz (fun (r : Int32) (u : Unit) => r = (-1)) (fun (u : Unit) => [] : (Unit) → va_W) 0 0 := by
  refine g_enter (y := yX12_play) (w := (wG yX12_play cX12_play 6 (some .int))) (As := [.ref aM, .int y0, .int y1]) (D := D) (T := gT cI cB cS cZ cW) (ws := [(aM, oM qM 0 0 0 0 0 0 0 0 0 0 0 0 0 0 0 0 0 0), ((qM 14), .inl (cI, 4, .inl (fun _ => 0)))]) (gQi D (fun (r : Int32) (u : Unit) => r = (-1)) (fun (u : Unit) => [] : (Unit) → va_W)) (cc := cX12_play) (maxL := 6) (ret := (some .int)) (by decide) rfl (Nat.le_of_ble_eq_true rfl) ?_
  intro p e s m below meth c A ls hF hr hlocks hname hsz hE hA hP hD hS hl
  have hF : CallFix p m c cX12_play 6 s ([.ref aM, .int y0, .int y1] : List Value).toArray (wG yX12_play cX12_play 6 (some .int)) RX12 := hF
  obtain ⟨hx, hb, hml, hown, hts⟩ := id hF
  have htg : ∀ w ∈ GL, w.before ([.ref aM, .int y0, .int y1] : List Value).toArray s = true := fun w h => hts w (List.mem_cons_of_mem _ h)
  have hl : lv_has ls 6 [(0, .ref aM), (1, .int y0), (2, .int y1)] := hl
  have zm1 := tm_1
  have z0 := t_0
  refine lv_aload_n hx hb dX12_play_0 rfl (lv_at hl 0 rfl) ?_
  refine lv_iconst (v := 0) hx hb dX12_play_1 (by decide +kernel) ?_
  refine va_put (D := D) (ci := 12) (v := .int 0) (ty := tyX12 0) (C := RX12) (T := TX12) (N := 97) hx hb htg iwG_12 tyX12 tyX12_ok nmX12 hown hE.1 hP hD hS 0 rfl rfl 0 (by decide) (htg _ wm_588) (fun _ h9 => h9) rfl (by decide +kernel) rfl rfl (Nat.le_of_ble_eq_true rfl) dX12_play_2 (fun H locs hP hD hS => ?_)
  have hP : va_P D vwCl [(aM, oM qM 0 0 0 0 0 0 0 0 0 0 0 0 0 0 0 0 0 0), ((qM 14), .inl (cI, 4, .inl (fun _ => 0)))] H := hP
  have hD : va_D A [(aM, oM qM 0 0 0 0 0 0 0 0 0 0 0 0 0 0 0 0 0 0), ((qM 14), .inl (cI, 4, .inl (fun _ => 0)))] := hD
  refine lv_aload_n hx hb dX12_play_5 rfl (lv_at hl 0 rfl) ?_
  refine lv_iload_n hx hb dX12_play_6 rfl (lv_at hl 1 rfl) ?_
  refine g_ai (D := D) (wc := [(aM, oM qM 0 0 0 0 0 0 0 0 0 0 0 0 0 0 0 0 0 0), ((qM 14), .inl (cI, 4, .inl (fun _ => 0)))]) (wr := []) hP hD hS hA [0, 1] [] rfl rfl rfl rfl (by decide) (fun hPc hDc => va_runV (As := [.int y0]) (rest := []) hF (c_X12_isWorker (l := l) (D := D) (cI := cI) (cB := cB) (cS := cS) (cZ := cZ) (cW := cW) (aM := aM) (y0 := y0) (qM := qM)) (cwV 1 hts (gGV (fun _ h => List.mem_cons_of_mem _ h) wm_570 wm_571 wm_572 wm_550 wm_573) rfl rfl rfl (by decide +kernel) ⟨Nat.le_of_ble_eq_true rfl, Nat.le_of_ble_eq_true rfl⟩) (g_preV (q := (RX12, TX12, 97)) (ci := 12) (q0 := 0) hE hPc hDc rfl rfl) rfl rfl hl.1 rfl (lv_room (Nat.le_of_ble_eq_true rfl)) dX12_play_7 ⟨Nat.le_of_ble_eq_true rfl, Nat.le_of_ble_eq_true rfl⟩) (fun r1 u2 H locs p3 hP hD hS => ?_)
  have hP : va_P D vwCl [(aM, oM qM 0 0 0 0 0 0 0 0 0 0 0 0 0 0 0 0 0 0), ((qM 14), .inl (cI, 4, .inl (fun _ => 0)))] H := hP
  have hD : va_D A [(aM, oM qM 0 0 0 0 0 0 0 0 0 0 0 0 0 0 0 0 0 0), ((qM 14), .inl (cI, 4, .inl (fun _ => 0)))] := hD
  obtain rfl := p3
  refine lv_if_eq (tgt := 37) hx hb dX12_play_10 (by decide) (fun _ => ?_) (fun c9 => absurd c9 (by decide +kernel))
  refine lv_iconst (v := (-1)) hx hb dX12_play_37 (by decide +kernel) ?_
  exact g_iret () hF hr rfl hlocks (hP.sub [] rfl) (hD.sub [] rfl rfl) hS rfl dX12_play_38 (Nat.le_of_ble_eq_true rfl) (Nat.le_of_ble_eq_true rfl)
set_option maxHeartbeats 8000000 in
set_option maxRecDepth 100000 in
theorem c_X12_known {l : Launch} {D : va_G} {cI cB cS cZ cW : ClassId} {aM : Nat} {y0 : Int32} {y1 : Int32} {y2 : Int32} {y3 : Int32} {qM : Nat → Nat}  {sz : Nat} : MI l D (gT cI cB cS cZ cW) yX12_known (wG yX12_known cX12_known 8 (some .int)) { frames := 3, cells := 0, slots := 0, locals := 64 } [.ref aM, .int y0, .int y1, .int y2, .int y3] [(aM, oM qM 0 0 0 0 0 0 0 0 0 0 0 0 0 0 0 0 0 0), ((qM 14), .inl (cI, 4, .inl (fun _ => 0)))] sz (fun (r : Int32) (u : Unit) => r = (-1)) (fun (u : Unit) => [] : (Unit) → va_W) 0 0 := by
  refine g_enter (y := yX12_known) (w := (wG yX12_known cX12_known 8 (some .int))) (As := [.ref aM, .int y0, .int y1, .int y2, .int y3]) (D := D) (T := gT cI cB cS cZ cW) (ws := [(aM, oM qM 0 0 0 0 0 0 0 0 0 0 0 0 0 0 0 0 0 0), ((qM 14), .inl (cI, 4, .inl (fun _ => 0)))]) (gQi D (fun (r : Int32) (u : Unit) => r = (-1)) (fun (u : Unit) => [] : (Unit) → va_W)) (cc := cX12_known) (maxL := 8) (ret := (some .int)) (by decide) rfl (Nat.le_of_ble_eq_true rfl) ?_
  intro p e s m below meth c A ls hF hr hlocks hname hsz hE hA hP hD hS hl
  have hF : CallFix p m c cX12_known 8 s ([.ref aM, .int y0, .int y1, .int y2, .int y3] : List Value).toArray (wG yX12_known cX12_known 8 (some .int)) RX12 := hF
  obtain ⟨hx, hb, hml, hown, hts⟩ := id hF
  have htg : ∀ w ∈ GL, w.before ([.ref aM, .int y0, .int y1, .int y2, .int y3] : List Value).toArray s = true := fun w h => hts w (List.mem_cons_of_mem _ h)
  have hl : lv_has ls 8 [(0, .ref aM), (1, .int y0), (2, .int y1), (3, .int y2), (4, .int y3)] := hl
  have zm1 := tm_1
  have z0 := t_0
  refine lv_aload_n hx hb dX12_known_0 rfl (lv_at hl 0 rfl) ?_
  refine lv_iconst (v := 0) hx hb dX12_known_1 (by decide +kernel) ?_
  refine va_put (D := D) (ci := 12) (v := .int 0) (ty := tyX12 0) (C := RX12) (T := TX12) (N := 97) hx hb htg iwG_12 tyX12 tyX12_ok nmX12 hown hE.1 hP hD hS 0 rfl rfl 0 (by decide) (htg _ wm_588) (fun _ h9 => h9) rfl (by decide +kernel) rfl rfl (Nat.le_of_ble_eq_true rfl) dX12_known_2 (fun H locs hP hD hS => ?_)
  have hP : va_P D vwCl [(aM, oM qM 0 0 0 0 0 0 0 0 0 0 0 0 0 0 0 0 0 0), ((qM 14), .inl (cI, 4, .inl (fun _ => 0)))] H := hP
  have hD : va_D A [(aM, oM qM 0 0 0 0 0 0 0 0 0 0 0 0 0 0 0 0 0 0), ((qM 14), .inl (cI, 4, .inl (fun _ => 0)))] := hD
  refine lv_aload_n hx hb dX12_known_5 rfl (lv_at hl 0 rfl) ?_
  refine lv_iload_n hx hb dX12_known_6 rfl (lv_at hl 1 rfl) ?_
  refine g_ai (D := D) (wc := [(aM, oM qM 0 0 0 0 0 0 0 0 0 0 0 0 0 0 0 0 0 0), ((qM 14), .inl (cI, 4, .inl (fun _ => 0)))]) (wr := []) hP hD hS hA [0, 1] [] rfl rfl rfl rfl (by decide) (fun hPc hDc => va_runV (As := [.int y0]) (rest := []) hF (c_X12_isWorker (l := l) (D := D) (cI := cI) (cB := cB) (cS := cS) (cZ := cZ) (cW := cW) (aM := aM) (y0 := y0) (qM := qM)) (cwV 1 hts (gGV (fun _ h => List.mem_cons_of_mem _ h) wm_570 wm_571 wm_572 wm_550 wm_573) rfl rfl rfl (by decide +kernel) ⟨Nat.le_of_ble_eq_true rfl, Nat.le_of_ble_eq_true rfl⟩) (g_preV (q := (RX12, TX12, 97)) (ci := 12) (q0 := 0) hE hPc hDc rfl rfl) rfl rfl hl.1 rfl (lv_room (Nat.le_of_ble_eq_true rfl)) dX12_known_7 ⟨Nat.le_of_ble_eq_true rfl, Nat.le_of_ble_eq_true rfl⟩) (fun r1 u2 H locs p3 hP hD hS => ?_)
  have hP : va_P D vwCl [(aM, oM qM 0 0 0 0 0 0 0 0 0 0 0 0 0 0 0 0 0 0), ((qM 14), .inl (cI, 4, .inl (fun _ => 0)))] H := hP
  have hD : va_D A [(aM, oM qM 0 0 0 0 0 0 0 0 0 0 0 0 0 0 0 0 0 0), ((qM 14), .inl (cI, 4, .inl (fun _ => 0)))] := hD
  obtain rfl := p3
  refine lv_if_eq (tgt := 43) hx hb dX12_known_10 (by decide) (fun _ => ?_) (fun c9 => absurd c9 (by decide +kernel))
  refine lv_iconst (v := (-1)) hx hb dX12_known_43 (by decide +kernel) ?_
  exact g_iret () hF hr rfl hlocks (hP.sub [] rfl) (hD.sub [] rfl rfl) hS rfl dX12_known_44 (Nat.le_of_ble_eq_true rfl) (Nat.le_of_ble_eq_true rfl)
