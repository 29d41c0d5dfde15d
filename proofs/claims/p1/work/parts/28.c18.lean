set_option maxHeartbeats 8000000 in
set_option maxRecDepth 100000 in
theorem c_X12_road {l : Launch} {D : va_G} {cI cB cS cZ cW : ClassId} {aM : Nat} {y0 : Int32} {y1 : Int32} {y2 : Int32} {qM : Nat → Nat} {mR : Nat → Int32}  {sz : Nat} : MI l D (gT cI cB cS cZ cW) yX12_road (wG yX12_road cX12_road 4 (some .boolean)) { frames := 2, cells := 0, slots := 0, locals := 42 } [.ref aM, .int y0, .int y1, .int y2] [(aM, oM qM 0 0 0 0 0 0 0 0 0 0 0 0 0 0 0 0 0 0), ((qM 13), .inl (cI, 144, .inl mR))] sz (fun (r : Int32) (u : Unit) => r = S_road y0 y1 y2) (fun (u : Unit) => [] : (Unit) → va_W) 0 0 := by
  refine g_enter (y := yX12_road) (w := (wG yX12_road cX12_road 4 (some .boolean))) (As := [.ref aM, .int y0, .int y1, .int y2]) (D := D) (T := gT cI cB cS cZ cW) (ws := [(aM, oM qM 0 0 0 0 0 0 0 0 0 0 0 0 0 0 0 0 0 0), ((qM 13), .inl (cI, 144, .inl mR))]) (gQi D (fun (r : Int32) (u : Unit) => r = S_road y0 y1 y2) (fun (u : Unit) => [] : (Unit) → va_W)) (cc := cX12_road) (maxL := 4) (ret := (some .boolean)) (by decide) rfl (Nat.le_of_ble_eq_true rfl) ?_
  intro p e s m below meth c A ls hF hr hlocks hname hsz hE hA hP hD hS hl
  have hF : CallFix p m c cX12_road 4 s ([.ref aM, .int y0, .int y1, .int y2] : List Value).toArray (wG yX12_road cX12_road 4 (some .boolean)) RX12 := hF
  obtain ⟨hx, hb, hml, hown, hts⟩ := id hF
  have htg : ∀ w ∈ GL, w.before ([.ref aM, .int y0, .int y1, .int y2] : List Value).toArray s = true := fun w h => hts w (List.mem_cons_of_mem _ h)
  have hl : lv_has ls 4 [(0, .ref aM), (1, .int y0), (2, .int y1), (3, .int y2)] := hl
  have z0 := t_0
  have z1 := t_1
  have z5 := t_5
  have z6 := t_6
  have z9 := t_9
  refine lv_aload_n hx hb dX12_road_0 rfl (lv_at hl 0 rfl) ?_
  refine lv_iconst (v := 0) hx hb dX12_road_1 (by decide +kernel) ?_
  refine va_put (D := D) (ci := 12) (v := .int 0) (ty := tyX12 0) (C := RX12) (T := TX12) (N := 97) hx hb htg iwG_12 tyX12 tyX12_ok nmX12 hown hE.1 hP hD hS 0 rfl rfl 0 (by decide) (htg _ wm_588) (fun _ h9 => h9) rfl (by decide +kernel) rfl rfl (Nat.le_of_ble_eq_true rfl) dX12_road_2 (fun H locs hP hD hS => ?_)
  have hP : va_P D vwCl [(aM, oM qM 0 0 0 0 0 0 0 0 0 0 0 0 0 0 0 0 0 0), ((qM 13), .inl (cI, 144, .inl mR))] H := hP
  have hD : va_D A [(aM, oM qM 0 0 0 0 0 0 0 0 0 0 0 0 0 0 0 0 0 0), ((qM 13), .inl (cI, 144, .inl mR))] := hD
  refine lv_iload_n hx hb dX12_road_5 rfl (lv_at hl 1 rfl) ?_
  refine g_ai (D := D) (wc := []) (wr := [(aM, oM qM 0 0 0 0 0 0 0 0 0 0 0 0 0 0 0 0 0 0), ((qM 13), .inl (cI, 144, .inl mR))]) hP hD hS hA [] [0, 1] rfl rfl rfl rfl (by decide) (fun hPc hDc => va_runS (As := [.int y0]) (rest := []) hF (c_X12_isPlace (l := l) (D := D) (cI := cI) (cB := cB) (cS := cS) (cZ := cZ) (cW := cW) (y0 := y0)) (va_cwS 1 hts (gGS (fun _ h => List.mem_cons_of_mem _ h) wm_592 wm_593 wm_550 wm_594) rfl rfl rfl (by decide +kernel) ⟨Nat.le_of_ble_eq_true rfl, Nat.le_of_ble_eq_true rfl⟩) (g_preS hE hPc hDc) rfl rfl hl.1 rfl (lv_room (Nat.le_of_ble_eq_true rfl)) dX12_road_6 ⟨Nat.le_of_ble_eq_true rfl, Nat.le_of_ble_eq_true rfl⟩) (fun r1 u2 H locs p3 hP hD hS => ?_)
  have hP : va_P D vwCl [(aM, oM qM 0 0 0 0 0 0 0 0 0 0 0 0 0 0 0 0 0 0), ((qM 13), .inl (cI, 144, .inl mR))] H := hP
  have hD : va_D A [(aM, oM qM 0 0 0 0 0 0 0 0 0 0 0 0 0 0 0 0 0 0), ((qM 13), .inl (cI, 144, .inl mR))] := hD
  rcases p3 with ⟨rfl, p3a⟩ | ⟨rfl, p3a⟩
  · skip
    refine lv_if_eq (tgt := 34) hx hb dX12_road_9 (by decide) (fun c9 => absurd c9 (by decide +kernel)) (fun _ => ?_)
    refine lv_iload_n hx hb dX12_road_12 rfl (lv_at hl 2 rfl) ?_
    refine g_ai (D := D) (wc := []) (wr := [(aM, oM qM 0 0 0 0 0 0 0 0 0 0 0 0 0 0 0 0 0 0), ((qM 13), .inl (cI, 144, .inl mR))]) hP hD hS hA [] [0, 1] rfl rfl rfl rfl (by decide) (fun hPc hDc => va_runS (As := [.int y1]) (rest := []) hF (c_X12_isPlace (l := l) (D := D) (cI := cI) (cB := cB) (cS := cS) (cZ := cZ) (cW := cW) (y0 := y1)) (va_cwS 1 hts (gGS (fun _ h => List.mem_cons_of_mem _ h) wm_592 wm_593 wm_550 wm_594) rfl rfl rfl (by decide +kernel) ⟨Nat.le_of_ble_eq_true rfl, Nat.le_of_ble_eq_true rfl⟩) (g_preS hE hPc hDc) rfl rfl hl.1 rfl (lv_room (Nat.le_of_ble_eq_true rfl)) dX12_road_13 ⟨Nat.le_of_ble_eq_true rfl, Nat.le_of_ble_eq_true rfl⟩) (fun r4 u5 H locs p6 hP hD hS => ?_)
    have hP : va_P D vwCl [(aM, oM qM 0 0 0 0 0 0 0 0 0 0 0 0 0 0 0 0 0 0), ((qM 13), .inl (cI, 144, .inl mR))] H := hP
    have hD : va_D A [(aM, oM qM 0 0 0 0 0 0 0 0 0 0 0 0 0 0 0 0 0 0), ((qM 13), .inl (cI, 144, .inl mR))] := hD
    rcases p6 with ⟨rfl, p6a⟩ | ⟨rfl, p6a⟩
    · skip
      refine lv_if_eq (tgt := 34) hx hb dX12_road_16 (by decide) (fun c9 => absurd c9 (by decide +kernel)) (fun _ => ?_)
      refine lv_iload_n hx hb dX12_road_19 rfl (lv_at hl 1 rfl) ?_
      refine lv_iload_n hx hb dX12_road_20 rfl (lv_at hl 2 rfl) ?_
      refine lv_icmp_eq (tgt := 34) hx hb dX12_road_21 (by decide) (fun c7 => ?_) (fun c7 => ?_)
      · rw [i_eq] at c7
        refine lv_iconst (v := 0) hx hb dX12_road_34 (by decide +kernel) ?_
        exact g_iret () hF hr rfl hlocks (hP.sub [] rfl) (hD.sub [] rfl rfl) hS (by show (_ : Int32) = _; unfold S_road; (repeat' split) <;> first | rfl | (exfalso; omega) | omega) dX12_road_35 (Nat.le_of_ble_eq_true rfl) (Nat.le_of_ble_eq_true rfl)
      · rw [i_eq] at c7
        refine lv_iload_n hx hb dX12_road_24 rfl (lv_at hl 3 rfl) ?_
        refine lv_iconst (v := 0) hx hb dX12_road_25 (by decide +kernel) ?_
        refine lv_bipush (v := 9) hx hb dX12_road_26 (by decide +kernel) ?_
        refine g_ai (D := D) (wc := []) (wr := [(aM, oM qM 0 0 0 0 0 0 0 0 0 0 0 0 0 0 0 0 0 0), ((qM 13), .inl (cI, 144, .inl mR))]) hP hD hS hA [] [0, 1] rfl rfl rfl rfl (by decide) (fun hPc hDc => va_runS (As := [.int y2, .int 0, .int 9]) (rest := []) hF (c_X12_in (l := l) (D := D) (cI := cI) (cB := cB) (cS := cS) (cZ := cZ) (cW := cW) (y0 := y2) (y1 := 0) (y2 := 9)) (va_cwS 3 hts (gGS (fun _ h => List.mem_cons_of_mem _ h) wm_548 wm_549 wm_550 wm_551) rfl rfl rfl (by decide +kernel) ⟨Nat.le_of_ble_eq_true rfl, Nat.le_of_ble_eq_true rfl⟩) (g_preS hE hPc hDc) rfl rfl hl.1 rfl (lv_room (Nat.le_of_ble_eq_true rfl)) dX12_road_28 ⟨Nat.le_of_ble_eq_true rfl, Nat.le_of_ble_eq_true rfl⟩) (fun r8 u9 H locs p10 hP hD hS => ?_)
        have hP : va_P D vwCl [(aM, oM qM 0 0 0 0 0 0 0 0 0 0 0 0 0 0 0 0 0 0), ((qM 13), .inl (cI, 144, .inl mR))] H := hP
        have hD : va_D A [(aM, oM qM 0 0 0 0 0 0 0 0 0 0 0 0 0 0 0 0 0 0), ((qM 13), .inl (cI, 144, .inl mR))] := hD
        rcases p10 with ⟨rfl, p10a⟩ | ⟨rfl, p10a⟩
        · skip
          refine lv_if_ne (tgt := 36) hx hb dX12_road_31 (by decide) (fun _ => ?_) (fun c9 => absurd c9 (by decide +kernel))
          refine lv_aload_n hx hb dX12_road_36 rfl (lv_at hl 0 rfl) ?_
          refine va_get (D := D) (ci := 12) (v := .ref (qM 13)) (C := RX12) (T := TX12) (N := 97) hx hb htg iwG_12 hown hE.1 hP 0 rfl rfl 13 (by decide) (htg _ wm_479) (fun _ h9 => h9) rfl dX12_road_37 ?_
          refine lv_bipush (v := 6) hx hb dX12_road_40 (by decide +kernel) ?_
          refine lv_iload_n hx hb dX12_road_42 rfl (lv_at hl 1 rfl) ?_
          refine lv_imul hx hb dX12_road_43 ?_
          refine lv_topi (fun v11 ev11 => ?_)
          have iv11 : v11.toInt = 6 * y0.toInt := by
            have h := fb_mulI (x := 6) (y := y0) (by rw [t_6]; omega) (by rw [t_6]; omega)
            rw [t_6] at h; rw [ev11]; exact h
          refine lv_iload_n hx hb dX12_road_44 rfl (lv_at hl 2 rfl) ?_
          refine lv_iadd hx hb dX12_road_45 ?_
          refine lv_topi (fun v12 ev12 => ?_)
          have iv12 : v12.toInt = (v11 : Int32).toInt + (y1 : Int32).toInt := by rw [ev12]; exact fb_addI (by omega) (by omega)
          refine lv_iload_n hx hb dX12_road_46 rfl (lv_at hl 3 rfl) ?_
          refine va_iast hx hb hE.1 hP hD hS 1 0 rfl rfl (vp_in_iff.mpr ⟨by omega, by omega⟩) dX12_road_47 (fun H locs hP hD hS => ?_)
          obtain ⟨g13, eg13⟩ : ∃ gz : Nat → Int32, gz = upd mR (v12 : Int32).toNatClampNeg y2 := ⟨_, rfl⟩
          have hP : va_P D vwCl [(aM, oM qM 0 0 0 0 0 0 0 0 0 0 0 0 0 0 0 0 0 0), ((qM 13), .inl (cI, 144, .inl g13))] H := by rw [eg13]; exact hP
          have hD : va_D A [(aM, oM qM 0 0 0 0 0 0 0 0 0 0 0 0 0 0 0 0 0 0), ((qM 13), .inl (cI, 144, .inl g13))] := by rw [eg13]; exact hD
          refine lv_aload_n hx hb dX12_road_48 rfl (lv_at hl 0 rfl) ?_
          refine va_get (D := D) (ci := 12) (v := .ref (qM 13)) (C := RX12) (T := TX12) (N := 97) hx hb htg iwG_12 hown hE.1 hP 0 rfl rfl 13 (by decide) (htg _ wm_479) (fun _ h9 => h9) rfl dX12_road_49 ?_
          refine lv_bipush (v := 6) hx hb dX12_road_52 (by decide +kernel) ?_
          refine lv_iload_n hx hb dX12_road_54 rfl (lv_at hl 2 rfl) ?_
          refine lv_imul hx hb dX12_road_55 ?_
          refine lv_topi (fun v14 ev14 => ?_)
          have iv14 : v14.toInt = 6 * y1.toInt := by
            have h := fb_mulI (x := 6) (y := y1) (by rw [t_6]; omega) (by rw [t_6]; omega)
            rw [t_6] at h; rw [ev14]; exact h
          refine lv_iload_n hx hb dX12_road_56 rfl (lv_at hl 1 rfl) ?_
          refine lv_iadd hx hb dX12_road_57 ?_
          refine lv_topi (fun v15 ev15 => ?_)
          have iv15 : v15.toInt = (v14 : Int32).toInt + (y0 : Int32).toInt := by rw [ev15]; exact fb_addI (by omega) (by omega)
          refine lv_iload_n hx hb dX12_road_58 rfl (lv_at hl 3 rfl) ?_
          refine va_iast hx hb hE.1 hP hD hS 1 0 rfl rfl (vp_in_iff.mpr ⟨by omega, by omega⟩) dX12_road_59 (fun H locs hP hD hS => ?_)
          obtain ⟨g16, eg16⟩ : ∃ gz : Nat → Int32, gz = upd g13 (v15 : Int32).toNatClampNeg y2 := ⟨_, rfl⟩
          have hP : va_P D vwCl [(aM, oM qM 0 0 0 0 0 0 0 0 0 0 0 0 0 0 0 0 0 0), ((qM 13), .inl (cI, 144, .inl g16))] H := by rw [eg16]; exact hP
          have hD : va_D A [(aM, oM qM 0 0 0 0 0 0 0 0 0 0 0 0 0 0 0 0 0 0), ((qM 13), .inl (cI, 144, .inl g16))] := by rw [eg16]; exact hD
          refine lv_iconst (v := 1) hx hb dX12_road_60 (by decide +kernel) ?_
          exact g_iret () hF hr rfl hlocks (hP.sub [] rfl) (hD.sub [] rfl rfl) hS (by show (_ : Int32) = _; unfold S_road; (repeat' split) <;> first | rfl | (exfalso; omega) | omega) dX12_road_61 (Nat.le_of_ble_eq_true rfl) (Nat.le_of_ble_eq_true rfl)
        · skip
          refine lv_if_ne (tgt := 36) hx hb dX12_road_31 (by decide) (fun c9 => absurd c9 (by decide +kernel)) (fun _ => ?_)
          refine lv_iconst (v := 0) hx hb dX12_road_34 (by decide +kernel) ?_
          exact g_iret () hF hr rfl hlocks (hP.sub [] rfl) (hD.sub [] rfl rfl) hS (by show (_ : Int32) = _; unfold S_road; (repeat' split) <;> first | rfl | (exfalso; omega) | omega) dX12_road_35 (Nat.le_of_ble_eq_true rfl) (Nat.le_of_ble_eq_true rfl)
    · skip
      refine lv_if_eq (tgt := 34) hx hb dX12_road_16 (by decide) (fun _ => ?_) (fun c9 => absurd c9 (by decide +kernel))
      refine lv_iconst (v := 0) hx hb dX12_road_34 (by decide +kernel) ?_
      exact g_iret () hF hr rfl hlocks (hP.sub [] rfl) (hD.sub [] rfl rfl) hS (by show (_ : Int32) = _; unfold S_road; (repeat' split) <;> first | rfl | (exfalso; omega) | omega) dX12_road_35 (Nat.le_of_ble_eq_true rfl) (Nat.le_of_ble_eq_true rfl)
  · skip
    refine lv_if_eq (tgt := 34) hx hb dX12_road_9 (by decide) (fun _ => ?_) (fun c9 => absurd c9 (by decide +kernel))
    refine lv_iconst (v := 0) hx hb dX12_road_34 (by decide +kernel) ?_
    exact g_iret () hF hr rfl hlocks (hP.sub [] rfl) (hD.sub [] rfl rfl) hS (by show (_ : Int32) = _; unfold S_road; (repeat' split) <;> first | rfl | (exfalso; omega) | omega) dX12_road_35 (Nat.le_of_ble_eq_true rfl) (Nat.le_of_ble_eq_true rfl)
set_option maxHeartbeats 8000000 in
set_option maxRecDepth 100000 in
theorem c_X12_person {l : Launch} {D : va_G} {cI cB cS cZ cW : ClassId} {aM : Nat} {y0 : Int32} {y1 : Int32} {y2 : Int32} {y3 : Int32} {qM : Nat → Nat}  {sz : Nat} : MI l D (gT cI cB cS cZ cW) yX12_person (wG yX12_person cX12_person 7 (some .int)) { frames := 2, cells := 0, slots := 0, locals := 43 } [.ref aM, .int y0, .int y1, .int y2, .int y3] [(aM, oM qM 0 0 0 0 0 0 0 0 0 0 0 0 0 0 0 0 0 0), ((qM 6), .inl (cI, 4, .inl (fun _ => 0))), ((qM 14), .inl (cI, 4, .inl (fun _ => 0)))] sz (fun (r : Int32) (u : Unit) => r = (-1)) (fun (u : Unit) => [] : (Unit) → va_W) 0 0 := by
  refine g_enter (y := yX12_person) (w := (wG yX12_person cX12_person 7 (some .int))) (As := [.ref aM, .int y0, .int y1, .int y2, .int y3]) (D := D) (T := gT cI cB cS cZ cW) (ws := [(aM, oM qM 0 0 0 0 0 0 0 0 0 0 0 0 0 0 0 0 0 0), ((qM 6), .inl (cI, 4, .inl (fun _ => 0))), ((qM 14), .inl (cI, 4, .inl (fun _ => 0)))]) (gQi D (fun (r : Int32) (u : Unit) => r = (-1)) (fun (u : Unit) => [] : (Unit) → va_W)) (cc := cX12_person) (maxL := 7) (ret := (some .int)) (by decide) rfl (Nat.le_of_ble_eq_true rfl) ?_
  intro p e s m below meth c A ls hF hr hlocks hname hsz hE hA hP hD hS hl
  have hF : CallFix p m c cX12_person 7 s ([.ref aM, .int y0, .int y1, .int y2, .int y3] : List Value).toArray (wG yX12_person cX12_person 7 (some .int)) RX12 := hF
  obtain ⟨hx, hb, hml, hown, hts⟩ := id hF
  have htg : ∀ w ∈ GL, w.before ([.ref aM, .int y0, .int y1, .int y2, .int y3] : List Value).toArray s = true := fun w h => hts w (List.mem_cons_of_mem _ h)
  have hl : lv_has ls 7 [(0, .ref aM), (1, .int y0), (2, .int y1), (3, .int y2), (4, .int y3)] := hl
  have zm1 := tm_1
  have z0 := t_0
  have z1 := t_1
  have z3 := t_3
  have z4 := t_4
  have z16 := t_16
  refine lv_aload_n hx hb dX12_person_0 rfl (lv_at hl 0 rfl) ?_
  refine lv_iconst (v := 0) hx hb dX12_person_1 (by decide +kernel) ?_
  refine va_put (D := D) (ci := 12) (v := .int 0) (ty := tyX12 0) (C := RX12) (T := TX12) (N := 97) hx hb htg iwG_12 tyX12 tyX12_ok nmX12 hown hE.1 hP hD hS 0 rfl rfl 0 (by decide) (htg _ wm_588) (fun _ h9 => h9) rfl (by decide +kernel) rfl rfl (Nat.le_of_ble_eq_true rfl) dX12_person_2 (fun H locs hP hD hS => ?_)
  have hP : va_P D vwCl [(aM, oM qM 0 0 0 0 0 0 0 0 0 0 0 0 0 0 0 0 0 0), ((qM 6), .inl (cI, 4, .inl (fun _ => 0))), ((qM 14), .inl (cI, 4, .inl (fun _ => 0)))] H := hP
  have hD : va_D A [(aM, oM qM 0 0 0 0 0 0 0 0 0 0 0 0 0 0 0 0 0 0), ((qM 6), .inl (cI, 4, .inl (fun _ => 0))), ((qM 14), .inl (cI, 4, .inl (fun _ => 0)))] := hD
  refine lv_aload_n hx hb dX12_person_5 rfl (lv_at hl 0 rfl) ?_
  refine va_get (D := D) (ci := 12) (v := .ref (qM 14)) (C := RX12) (T := TX12) (N := 97) hx hb htg iwG_12 hown hE.1 hP 0 rfl rfl 14 (by decide) (htg _ wm_480) (fun _ h9 => h9) rfl dX12_person_6 ?_
  refine lv_iconst (v := 0) hx hb dX12_person_9 (by decide +kernel) ?_
  refine va_iald hx hb hE.1 hP 2 0 rfl rfl (vp_in_iff.mpr ⟨by decide +kernel, by decide +kernel⟩) dX12_person_10 ?_
  refine g_top 0 rfl ?_
  refine lv_bipush (v := 16) hx hb dX12_person_11 (by decide +kernel) ?_
  refine lv_icmp_eq (tgt := 50) hx hb dX12_person_13 (by decide) (fun c9 => absurd c9 (by decide +kernel)) (fun _ => ?_)
  refine lv_iload_n hx hb dX12_person_16 rfl (lv_at hl 1 rfl) ?_
  refine lv_iconst (v := 0) hx hb dX12_person_17 (by decide +kernel) ?_
  refine lv_iconst (v := 4) hx hb dX12_person_18 (by decide +kernel) ?_
  refine g_ai (D := D) (wc := []) (wr := [(aM, oM qM 0 0 0 0 0 0 0 0 0 0 0 0 0 0 0 0 0 0), ((qM 6), .inl (cI, 4, .inl (fun _ => 0))), ((qM 14), .inl (cI, 4, .inl (fun _ => 0)))]) hP hD hS hA [] [0, 1, 2] rfl rfl rfl rfl (by decide) (fun hPc hDc => va_runS (As := [.int y0, .int 0, .int 4]) (rest := []) hF (c_X12_in (l := l) (D := D) (cI := cI) (cB := cB) (cS := cS) (cZ := cZ) (cW := cW) (y0 := y0) (y1 := 0) (y2 := 4)) (va_cwS 3 hts (gGS (fun _ h => List.mem_cons_of_mem _ h) wm_548 wm_549 wm_550 wm_551) rfl rfl rfl (by decide +kernel) ⟨Nat.le_of_ble_eq_true rfl, Nat.le_of_ble_eq_true rfl⟩) (g_preS hE hPc hDc) rfl rfl hl.1 rfl (lv_room (Nat.le_of_ble_eq_true rfl)) dX12_person_19 ⟨Nat.le_of_ble_eq_true rfl, Nat.le_of_ble_eq_true rfl⟩) (fun r1 u2 H locs p3 hP hD hS => ?_)
  have hP : va_P D vwCl [(aM, oM qM 0 0 0 0 0 0 0 0 0 0 0 0 0 0 0 0 0 0), ((qM 6), .inl (cI, 4, .inl (fun _ => 0))), ((qM 14), .inl (cI, 4, .inl (fun _ => 0)))] H := hP
  have hD : va_D A [(aM, oM qM 0 0 0 0 0 0 0 0 0 0 0 0 0 0 0 0 0 0), ((qM 6), .inl (cI, 4, .inl (fun _ => 0))), ((qM 14), .inl (cI, 4, .inl (fun _ => 0)))] := hD
  rcases p3 with ⟨rfl, p3a⟩ | ⟨rfl, p3a⟩
  · skip
    refine lv_if_eq (tgt := 50) hx hb dX12_person_22 (by decide) (fun c9 => absurd c9 (by decide +kernel)) (fun _ => ?_)
    refine lv_iload_n hx hb dX12_person_25 rfl (lv_at hl 2 rfl) ?_
    refine lv_iconst (v := 0) hx hb dX12_person_26 (by decide +kernel) ?_
    refine lv_iconst (v := 3) hx hb dX12_person_27 (by decide +kernel) ?_
    refine g_ai (D := D) (wc := []) (wr := [(aM, oM qM 0 0 0 0 0 0 0 0 0 0 0 0 0 0 0 0 0 0), ((qM 6), .inl (cI, 4, .inl (fun _ => 0))), ((qM 14), .inl (cI, 4, .inl (fun _ => 0)))]) hP hD hS hA [] [0, 1, 2] rfl rfl rfl rfl (by decide) (fun hPc hDc => va_runS (As := [.int y1, .int 0, .int 3]) (rest := []) hF (c_X12_in (l := l) (D := D) (cI := cI) (cB := cB) (cS := cS) (cZ := cZ) (cW := cW) (y0 := y1) (y1 := 0) (y2 := 3)) (va_cwS 3 hts (gGS (fun _ h => List.mem_cons_of_mem _ h) wm_548 wm_549 wm_550 wm_551) rfl rfl rfl (by decide +kernel) ⟨Nat.le_of_ble_eq_true rfl, Nat.le_of_ble_eq_true rfl⟩) (g_preS hE hPc hDc) rfl rfl hl.1 rfl (lv_room (Nat.le_of_ble_eq_true rfl)) dX12_person_28 ⟨Nat.le_of_ble_eq_true rfl, Nat.le_of_ble_eq_true rfl⟩) (fun r4 u5 H locs p6 hP hD hS => ?_)
    have hP : va_P D vwCl [(aM, oM qM 0 0 0 0 0 0 0 0 0 0 0 0 0 0 0 0 0 0), ((qM 6), .inl (cI, 4, .inl (fun _ => 0))), ((qM 14), .inl (cI, 4, .inl (fun _ => 0)))] H := hP
    have hD : va_D A [(aM, oM qM 0 0 0 0 0 0 0 0 0 0 0 0 0 0 0 0 0 0), ((qM 6), .inl (cI, 4, .inl (fun _ => 0))), ((qM 14), .inl (cI, 4, .inl (fun _ => 0)))] := hD
    rcases p6 with ⟨rfl, p6a⟩ | ⟨rfl, p6a⟩
    · skip
      refine lv_if_eq (tgt := 50) hx hb dX12_person_31 (by decide) (fun c9 => absurd c9 (by decide +kernel)) (fun _ => ?_)
      refine lv_aload_n hx hb dX12_person_34 rfl (lv_at hl 0 rfl) ?_
      refine lv_iload_n hx hb dX12_person_35 rfl (lv_at hl 3 rfl) ?_
      refine g_ai (D := D) (wc := [(aM, oM qM 0 0 0 0 0 0 0 0 0 0 0 0 0 0 0 0 0 0), ((qM 6), .inl (cI, 4, .inl (fun _ => 0)))]) (wr := [((qM 14), .inl (cI, 4, .inl (fun _ => 0)))]) hP hD hS hA [0, 1] [2] rfl rfl rfl rfl (by decide) (fun hPc hDc => va_runV (As := [.int y2]) (rest := []) hF (c_X12_isTongue (l := l) (D := D) (cI := cI) (cB := cB) (cS := cS) (cZ := cZ) (cW := cW) (aM := aM) (y0 := y2) (qM := qM)) (cwV 1 hts (gGV (fun _ h => List.mem_cons_of_mem _ h) wm_556 wm_557 wm_558 wm_550 wm_559) rfl rfl rfl (by decide +kernel) ⟨Nat.le_of_ble_eq_true rfl, Nat.le_of_ble_eq_true rfl⟩) (g_preV (q := (RX12, TX12, 97)) (ci := 12) (q0 := 0) hE hPc hDc rfl rfl) rfl rfl hl.1 rfl (lv_room (Nat.le_of_ble_eq_true rfl)) dX12_person_36 ⟨Nat.le_of_ble_eq_true rfl, Nat.le_of_ble_eq_true rfl⟩) (fun r7 u8 H locs p9 hP hD hS => ?_)
      have hP : va_P D vwCl [((qM 14), .inl (cI, 4, .inl (fun _ => 0))), (aM, oM qM 0 0 0 0 0 0 0 0 0 0 0 0 0 0 0 0 0 0), ((qM 6), .inl (cI, 4, .inl (fun _ => 0)))] H := hP
      have hD : va_D A [((qM 14), .inl (cI, 4, .inl (fun _ => 0))), (aM, oM qM 0 0 0 0 0 0 0 0 0 0 0 0 0 0 0 0 0 0), ((qM 6), .inl (cI, 4, .inl (fun _ => 0)))] := hD
      obtain rfl := p9
      refine lv_if_eq (tgt := 50) hx hb dX12_person_39 (by decide) (fun _ => ?_) (fun c9 => absurd c9 (by decide +kernel))
      refine lv_iconst (v := (-1)) hx hb dX12_person_50 (by decide +kernel) ?_
      exact g_iret () hF hr rfl hlocks (hP.sub [] rfl) (hD.sub [] rfl rfl) hS rfl dX12_person_51 (Nat.le_of_ble_eq_true rfl) (Nat.le_of_ble_eq_true rfl)
    · skip
      refine lv_if_eq (tgt := 50) hx hb dX12_person_31 (by decide) (fun _ => ?_) (fun c9 => absurd c9 (by decide +kernel))
      refine lv_iconst (v := (-1)) hx hb dX12_person_50 (by decide +kernel) ?_
      exact g_iret () hF hr rfl hlocks (hP.sub [] rfl) (hD.sub [] rfl rfl) hS rfl dX12_person_51 (Nat.le_of_ble_eq_true rfl) (Nat.le_of_ble_eq_true rfl)
  · skip
    refine lv_if_eq (tgt := 50) hx hb dX12_person_22 (by decide) (fun _ => ?_) (fun c9 => absurd c9 (by decide +kernel))
    refine lv_iconst (v := (-1)) hx hb dX12_person_50 (by decide +kernel) ?_
    exact g_iret () hF hr rfl hlocks (hP.sub [] rfl) (hD.sub [] rfl rfl) hS rfl dX12_person_51 (Nat.le_of_ble_eq_true rfl) (Nat.le_of_ble_eq_true rfl)
set_option maxHeartbeats 8000000 in
set_option maxRecDepth 100000 in
theorem c_X12_have {l : Launch} {D : va_G} {cI cB cS cZ cW : ClassId} {aM : Nat} {y0 : Int32} {y1 : Int32} {qM : Nat → Nat}  {sz : Nat} : MI l D (gT cI cB cS cZ cW) yX12_have (wG yX12_have cX12_have 3 (some .boolean)) { frames := 2, cells := 0, slots := 0, locals := 43 } [.ref aM, .int y0, .int y1] [(aM, oM qM 0 0 0 0 0 0 0 0 0 0 0 0 0 0 0 0 0 0), ((qM 14), .inl (cI, 4, .inl (fun _ => 0)))] sz (fun (r : Int32) (u : Unit) => r = 0) (fun (u : Unit) => [] : (Unit) → va_W) 0 0 := by
  refine g_enter (y := yX12_have) (w := (wG yX12_have cX12_have 3 (some .boolean))) (As := [.ref aM, .int y0, .int y1]) (D := D) (T := gT cI cB cS cZ cW) (ws := [(aM, oM qM 0 0 0 0 0 0 0 0 0 0 0 0 0 0 0 0 0 0), ((qM 14), .inl (cI, 4, .inl (fun _ => 0)))]) (gQi D (fun (r : Int32) (u : Unit) => r = 0) (fun (u : Unit) => [] : (Unit) → va_W)) (cc := cX12_have) (maxL := 3) (ret := (some .boolean)) (by decide) rfl (Nat.le_of_ble_eq_true rfl) ?_
  intro p e s m below meth c A ls hF hr hlocks hname hsz hE hA hP hD hS hl
  have hF : CallFix p m c cX12_have 3 s ([.ref aM, .int y0, .int y1] : List Value).toArray (wG yX12_have cX12_have 3 (some .boolean)) RX12 := hF
  obtain ⟨hx, hb, hml, hown, hts⟩ := id hF
  have htg : ∀ w ∈ GL, w.before ([.ref aM, .int y0, .int y1] : List Value).toArray s = true := fun w h => hts w (List.mem_cons_of_mem _ h)
  have hl : lv_has ls 3 [(0, .ref aM), (1, .int y0), (2, .int y1)] := hl
  have z0 := t_0
  refine lv_aload_n hx hb dX12_have_0 rfl (lv_at hl 0 rfl) ?_
  refine lv_iconst (v := 0) hx hb dX12_have_1 (by decide +kernel) ?_
  refine va_put (D := D) (ci := 12) (v := .int 0) (ty := tyX12 0) (C := RX12) (T := TX12) (N := 97) hx hb htg iwG_12 tyX12 tyX12_ok nmX12 hown hE.1 hP hD hS 0 rfl rfl 0 (by decide) (htg _ wm_588) (fun _ h9 => h9) rfl (by decide +kernel) rfl rfl (Nat.le_of_ble_eq_true rfl) dX12_have_2 (fun H locs hP hD hS => ?_)
  have hP : va_P D vwCl [(aM, oM qM 0 0 0 0 0 0 0 0 0 0 0 0 0 0 0 0 0 0), ((qM 14), .inl (cI, 4, .inl (fun _ => 0)))] H := hP
  have hD : va_D A [(aM, oM qM 0 0 0 0 0 0 0 0 0 0 0 0 0 0 0 0 0 0), ((qM 14), .inl (cI, 4, .inl (fun _ => 0)))] := hD
  refine lv_aload_n hx hb dX12_have_5 rfl (lv_at hl 0 rfl) ?_
  refine lv_iload_n hx hb dX12_have_6 rfl (lv_at hl 1 rfl) ?_
  refine g_ai (D := D) (wc := [(aM, oM qM 0 0 0 0 0 0 0 0 0 0 0 0 0 0 0 0 0 0), ((qM 14), .inl (cI, 4, .inl (fun _ => 0)))]) (wr := []) hP hD hS hA [0, 1] [] rfl rfl rfl rfl (by decide) (fun hPc hDc => va_runV (As := [.int y0]) (rest := []) hF (c_X12_isPerson (l := l) (D := D) (cI := cI) (cB := cB) (cS := cS) (cZ := cZ) (cW := cW) (aM := aM) (y0 := y0) (qM := qM)) (cwV 1 hts (gGV (fun _ h => List.mem_cons_of_mem _ h) wm_552 wm_553 wm_554 wm_550 wm_555) rfl rfl rfl (by decide +kernel) ⟨Nat.le_of_ble_eq_true rfl, Nat.le_of_ble_eq_true rfl⟩) (g_preV (q := (RX12, TX12, 97)) (ci := 12) (q0 := 0) hE hPc hDc rfl rfl) rfl rfl hl.1 rfl (lv_room (Nat.le_of_ble_eq_true rfl)) dX12_have_7 ⟨Nat.le_of_ble_eq_true rfl, Nat.le_of_ble_eq_true rfl⟩) (fun r1 u2 H locs p3 hP hD hS => ?_)
  have hP : va_P D vwCl [(aM, oM qM 0 0 0 0 0 0 0 0 0 0 0 0 0 0 0 0 0 0), ((qM 14), .inl (cI, 4, .inl (fun _ => 0)))] H := hP
  have hD : va_D A [(aM, oM qM 0 0 0 0 0 0 0 0 0 0 0 0 0 0 0 0 0 0), ((qM 14), .inl (cI, 4, .inl (fun _ => 0)))] := hD
  obtain rfl := p3
  refine lv_if_eq (tgt := 24) hx hb dX12_have_10 (by decide) (fun _ => ?_) (fun c9 => absurd c9 (by decide +kernel))
  refine lv_iconst (v := 0) hx hb dX12_have_24 (by decide +kernel) ?_
  exact g_iret () hF hr rfl hlocks (hP.sub [] rfl) (hD.sub [] rfl rfl) hS rfl dX12_have_25 (Nat.le_of_ble_eq_true rfl) (Nat.le_of_ble_eq_true rfl)
set_option maxHeartbeats 8000000 in
set_option maxRecDepth 100000 in
theorem c_X12_health {l : Launch} {D : va_G} {cI cB cS cZ cW : ClassId} {aM : Nat} {y0 : Int32} {y1 : Int32} {qM : Nat → Nat}  {sz : Nat} : MI l D (gT cI cB cS cZ cW) yX12_health (wG yX12_health cX12_health 3 (some .boolean)) { frames := 3, cells := 0, slots := 0, locals := 64 } [.ref aM, .int y0, .int y1] [(aM, oM qM 0 0 0 0 0 0 0 0 0 0 0 0 0 0 0 0 0 0), ((qM 14), .inl (cI, 4, .inl (fun _ => 0)))] sz (fun (r : Int32) (u : Unit) => r = 0) (fun (u : Unit) => [] : (Unit) → va_W) 0 0 := by
  refine g_enter (y := yX12_health) (w := (wG yX12_health cX12_health 3 (some .boolean))) (As := [.ref aM, .int y0, .int y1]) (D := D) (T := gT cI cB cS cZ cW) (ws := [(aM, oM qM 0 0 0 0 0 0 0 0 0 0 0 0 0 0 0 0 0 0), ((qM 14), .inl (cI, 4, .inl (fun _ => 0)))]) (gQi D (fun (r : Int32) (u : Unit) => r = 0) (fun (u : Unit) => [] : (Unit) → va_W)) (cc := cX12_health) (maxL := 3) (ret := (some .boolean)) (by decide) rfl (Nat.le_of_ble_eq_true rfl) ?_
  intro p e s m below meth c A ls hF hr hlocks hname hsz hE hA hP hD hS hl
  have hF : CallFix p m c cX12_health 3 s ([.ref aM, .int y0, .int y1] : List Value).toArray (wG yX12_health cX12_health 3 (some .boolean)) RX12 := hF
  obtain ⟨hx, hb, hml, hown, hts⟩ := id hF
  have htg : ∀ w ∈ GL, w.before ([.ref aM, .int y0, .int y1] : List Value).toArray s = true := fun w h => hts w (List.mem_cons_of_mem _ h)
  have hl : lv_has ls 3 [(0, .ref aM), (1, .int y0), (2, .int y1)] := hl
  have z0 := t_0
  refine lv_aload_n hx hb dX12_health_0 rfl (lv_at hl 0 rfl) ?_
  refine lv_iconst (v := 0) hx hb dX12_health_1 (by decide +kernel) ?_
  refine va_put (D := D) (ci := 12) (v := .int 0) (ty := tyX12 0) (C := RX12) (T := TX12) (N := 97) hx hb htg iwG_12 tyX12 tyX12_ok nmX12 hown hE.1 hP hD hS 0 rfl rfl 0 (by decide) (htg _ wm_588) (fun _ h9 => h9) rfl (by decide +kernel) rfl rfl (Nat.le_of_ble_eq_true rfl) dX12_health_2 (fun H locs hP hD hS => ?_)
  have hP : va_P D vwCl [(aM, oM qM 0 0 0 0 0 0 0 0 0 0 0 0 0 0 0 0 0 0), ((qM 14), .inl (cI, 4, .inl (fun _ => 0)))] H := hP
  have hD : va_D A [(aM, oM qM 0 0 0 0 0 0 0 0 0 0 0 0 0 0 0 0 0 0), ((qM 14), .inl (cI, 4, .inl (fun _ => 0)))] := hD
  refine lv_aload_n hx hb dX12_health_5 rfl (lv_at hl 0 rfl) ?_
  refine lv_iload_n hx hb dX12_health_6 rfl (lv_at hl 1 rfl) ?_
  refine g_ai (D := D) (wc := [(aM, oM qM 0 0 0 0 0 0 0 0 0 0 0 0 0 0 0 0 0 0), ((qM 14), .inl (cI, 4, .inl (fun _ => 0)))]) (wr := []) hP hD hS hA [0, 1] [] rfl rfl rfl rfl (by decide) (fun hPc hDc => va_runV (As := [.int y0]) (rest := []) hF (c_X12_isAlive (l := l) (D := D) (cI := cI) (cB := cB) (cS := cS) (cZ := cZ) (cW := cW) (aM := aM) (y0 := y0) (qM := qM)) (cwV 1 hts (gGV (fun _ h => List.mem_cons_of_mem _ h) wm_595 wm_596 wm_597 wm_550 wm_598) rfl rfl rfl (by decide +kernel) ⟨Nat.le_of_ble_eq_true rfl, Nat.le_of_ble_eq_true rfl⟩) (g_preV (q := (RX12, TX12, 97)) (ci := 12) (q0 := 0) hE hPc hDc rfl rfl) rfl rfl hl.1 rfl (lv_room (Nat.le_of_ble_eq_true rfl)) dX12_health_7 ⟨Nat.le_of_ble_eq_true rfl, Nat.le_of_ble_eq_true rfl⟩) (fun r1 u2 H locs p3 hP hD hS => ?_)
  have hP : va_P D vwCl [(aM, oM qM 0 0 0 0 0 0 0 0 0 0 0 0 0 0 0 0 0 0), ((qM 14), .inl (cI, 4, .inl (fun _ => 0)))] H := hP
  have hD : va_D A [(aM, oM qM 0 0 0 0 0 0 0 0 0 0 0 0 0 0 0 0 0 0), ((qM 14), .inl (cI, 4, .inl (fun _ => 0)))] := hD
  obtain rfl := p3
  refine lv_if_eq (tgt := 23) hx hb dX12_health_10 (by decide) (fun _ => ?_) (fun c9 => absurd c9 (by decide +kernel))
  refine lv_iconst (v := 0) hx hb dX12_health_23 (by decide +kernel) ?_
  exact g_iret () hF hr rfl hlocks (hP.sub [] rfl) (hD.sub [] rfl rfl) hS rfl dX12_health_24 (Nat.le_of_ble_eq_true rfl) (Nat.le_of_ble_eq_true rfl)
set_option maxHeartbeats 8000000 in
set_option maxRecDepth 100000 in
theorem c_X12_go {l : Launch} {D : va_G} {cI cB cS cZ cW : ClassId} {aM : Nat} {y0 : Int32} {y1 : Int32} {qM : Nat → Nat}  {sz : Nat} : MI l D (gT cI cB cS cZ cW) yX12_go (wG yX12_go cX12_go 4 (some .boolean)) { frames := 3, cells := 0, slots := 0, locals := 64 } [.ref aM, .int y0, .int y1] [(aM, oM qM 0 0 0 0 0 0 0 0 0 0 0 0 0 0 0 0 0 0), ((qM 14), .inl (cI, 4, .inl (fun _ => 0)))] sz (fun (r : Int32) (u : Unit) => r = 0) (fun (u : Unit) => [] : (Unit) → va_W) 0 0 := by
  refine g_enter (y := yX12_go) (w := (wG yX12_go cX12_go 4 (some .boolean))) (As := [.ref aM, .int y0, .int y1]) (D := D) (T := gT cI cB cS cZ cW) (ws := [(aM, oM qM 0 0 0 0 0 0 0 0 0 0 0 0 0 0 0 0 0 0), ((qM 14), .inl (cI, 4, .inl (fun _ => 0)))]) (gQi D (fun (r : Int32) (u : Unit) => r = 0) (fun (u : Unit) => [] : (Unit) → va_W)) (cc := cX12_go) (maxL := 4) (ret := (some .boolean)) (by decide) rfl (Nat.le_of_ble_eq_true rfl) ?_
  intro p e s m below meth c A ls hF hr hlocks hname hsz hE hA hP hD hS hl
  have hF : CallFix p m c cX12_go 4 s ([.ref aM, .int y0, .int y1] : List Value).toArray (wG yX12_go cX12_go 4 (some .boolean)) RX12 := hF
  obtain ⟨hx, hb, hml, hown, hts⟩ := id hF
  have htg : ∀ w ∈ GL, w.before ([.ref aM, .int y0, .int y1] : List Value).toArray s = true := fun w h => hts w (List.mem_cons_of_mem _ h)
  have hl : lv_has ls 4 [(0, .ref aM), (1, .int y0), (2, .int y1)] := hl
  have z0 := t_0
  refine lv_aload_n hx hb dX12_go_0 rfl (lv_at hl 0 rfl) ?_
  refine lv_iconst (v := 0) hx hb dX12_go_1 (by decide +kernel) ?_
  refine va_put (D := D) (ci := 12) (v := .int 0) (ty := tyX12 0) (C := RX12) (T := TX12) (N := 97) hx hb htg iwG_12 tyX12 tyX12_ok nmX12 hown hE.1 hP hD hS 0 rfl rfl 0 (by decide) (htg _ wm_588) (fun _ h9 => h9) rfl (by decide +kernel) rfl rfl (Nat.le_of_ble_eq_true rfl) dX12_go_2 (fun H locs hP hD hS => ?_)
  have hP : va_P D vwCl [(aM, oM qM 0 0 0 0 0 0 0 0 0 0 0 0 0 0 0 0 0 0), ((qM 14), .inl (cI, 4, .inl (fun _ => 0)))] H := hP
  have hD : va_D A [(aM, oM qM 0 0 0 0 0 0 0 0 0 0 0 0 0 0 0 0 0 0), ((qM 14), .inl (cI, 4, .inl (fun _ => 0)))] := hD
  refine lv_aload_n hx hb dX12_go_5 rfl (lv_at hl 0 rfl) ?_
  refine lv_iload_n hx hb dX12_go_6 rfl (lv_at hl 1 rfl) ?_
  refine g_ai (D := D) (wc := [(aM, oM qM 0 0 0 0 0 0 0 0 0 0 0 0 0 0 0 0 0 0), ((qM 14), .inl (cI, 4, .inl (fun _ => 0)))]) (wr := []) hP hD hS hA [0, 1] [] rfl rfl rfl rfl (by decide) (fun hPc hDc => va_runV (As := [.int y0]) (rest := []) hF (c_X12_isAlive (l := l) (D := D) (cI := cI) (cB := cB) (cS := cS) (cZ := cZ) (cW := cW) (aM := aM) (y0 := y0) (qM := qM)) (cwV 1 hts (gGV (fun _ h => List.mem_cons_of_mem _ h) wm_595 wm_596 wm_597 wm_550 wm_598) rfl rfl rfl (by decide +kernel) ⟨Nat.le_of_ble_eq_true rfl, Nat.le_of_ble_eq_true rfl⟩) (g_preV (q := (RX12, TX12, 97)) (ci := 12) (q0 := 0) hE hPc hDc rfl rfl) rfl rfl hl.1 rfl (lv_room (Nat.le_of_ble_eq_true rfl)) dX12_go_7 ⟨Nat.le_of_ble_eq_true rfl, Nat.le_of_ble_eq_true rfl⟩) (fun r1 u2 H locs p3 hP hD hS => ?_)
  have hP : va_P D vwCl [(aM, oM qM 0 0 0 0 0 0 0 0 0 0 0 0 0 0 0 0 0 0), ((qM 14), .inl (cI, 4, .inl (fun _ => 0)))] H := hP
  have hD : va_D A [(aM, oM qM 0 0 0 0 0 0 0 0 0 0 0 0 0 0 0 0 0 0), ((qM 14), .inl (cI, 4, .inl (fun _ => 0)))] := hD
  obtain rfl := p3
  refine lv_if_eq (tgt := 40) hx hb dX12_go_10 (by decide) (fun _ => ?_) (fun c9 => absurd c9 (by decide +kernel))
  refine lv_iconst (v := 0) hx hb dX12_go_40 (by decide +kernel) ?_
  exact g_iret () hF hr rfl hlocks (hP.sub [] rfl) (hD.sub [] rfl rfl) hS rfl dX12_go_41 (Nat.le_of_ble_eq_true rfl) (Nat.le_of_ble_eq_true rfl)
set_option maxHeartbeats 8000000 in
set_option maxRecDepth 100000 in
theorem c_X12_day {l : Launch} {D : va_G} {cI cB cS cZ cW : ClassId} {aM : Nat} {qM : Nat → Nat}  {sz : Nat} : MI l D (gT cI cB cS cZ cW) yX12_day (wG yX12_day cX12_day 3 (some .int)) { frames := 0, cells := 0, slots := 0, locals := 0 } [.ref aM] [(aM, oM qM 0 0 0 0 0 0 0 0 0 0 0 0 0 0 0 0 0 0), ((qM 5), .inl (cI, 4, .inl (fun _ => 0))), ((qM 14), .inl (cI, 4, .inl (fun _ => 0)))] sz (fun (r : Int32) (u : Unit) => r = 1) (fun (u : Unit) => [] : (Unit) → va_W) 0 0 := by
  refine g_enter (y := yX12_day) (w := (wG yX12_day cX12_day 3 (some .int))) (As := [.ref aM]) (D := D) (T := gT cI cB cS cZ cW) (ws := [(aM, oM qM 0 0 0 0 0 0 0 0 0 0 0 0 0 0 0 0 0 0), ((qM 5), .inl (cI, 4, .inl (fun _ => 0))), ((qM 14), .inl (cI, 4, .inl (fun _ => 0)))]) (gQi D (fun (r : Int32) (u : Unit) => r = 1) (fun (u : Unit) => [] : (Unit) → va_W)) (cc := cX12_day) (maxL := 3) (ret := (some .int)) (by decide) rfl (Nat.le_of_ble_eq_true rfl) ?_
  intro p e s m below meth c A ls hF hr hlocks hname hsz hE hA hP hD hS hl
  have hF : CallFix p m c cX12_day 3 s ([.ref aM] : List Value).toArray (wG yX12_day cX12_day 3 (some .int)) RX12 := hF
  obtain ⟨hx, hb, hml, hown, hts⟩ := id hF
  have htg : ∀ w ∈ GL, w.before ([.ref aM] : List Value).toArray s = true := fun w h => hts w (List.mem_cons_of_mem _ h)
  have hl : lv_has ls 3 [(0, .ref aM)] := hl
  have z0 := t_0
  have z1 := t_1
  have z999 := t_999
  refine lv_aload_n hx hb dX12_day_0 rfl (lv_at hl 0 rfl) ?_
  refine lv_iconst (v := 0) hx hb dX12_day_1 (by decide +kernel) ?_
  refine va_put (D := D) (ci := 12) (v := .int 0) (ty := tyX12 0) (C := RX12) (T := TX12) (N := 97) hx hb htg iwG_12 tyX12 tyX12_ok nmX12 hown hE.1 hP hD hS 0 rfl rfl 0 (by decide) (htg _ wm_588) (fun _ h9 => h9) rfl (by decide +kernel) rfl rfl (Nat.le_of_ble_eq_true rfl) dX12_day_2 (fun H locs hP hD hS => ?_)
  have hP : va_P D vwCl [(aM, oM qM 0 0 0 0 0 0 0 0 0 0 0 0 0 0 0 0 0 0), ((qM 5), .inl (cI, 4, .inl (fun _ => 0))), ((qM 14), .inl (cI, 4, .inl (fun _ => 0)))] H := hP
  have hD : va_D A [(aM, oM qM 0 0 0 0 0 0 0 0 0 0 0 0 0 0 0 0 0 0), ((qM 5), .inl (cI, 4, .inl (fun _ => 0))), ((qM 14), .inl (cI, 4, .inl (fun _ => 0)))] := hD
  refine lv_aload_n hx hb dX12_day_5 rfl (lv_at hl 0 rfl) ?_
  refine va_get (D := D) (ci := 12) (v := .ref (qM 5)) (C := RX12) (T := TX12) (N := 97) hx hb htg iwG_12 hown hE.1 hP 0 rfl rfl 5 (by decide) (htg _ wm_471) (fun _ h9 => h9) rfl dX12_day_6 ?_
  refine lv_iconst (v := 0) hx hb dX12_day_9 (by decide +kernel) ?_
  refine va_iald hx hb hE.1 hP 1 0 rfl rfl (vp_in_iff.mpr ⟨by decide +kernel, by decide +kernel⟩) dX12_day_10 ?_
  refine g_top 0 rfl ?_
  refine lv_sipush (v := 999) hx hb dX12_day_11 (by decide +kernel) ?_
  refine lv_icmp_ne (tgt := 19) hx hb dX12_day_14 (by decide) (fun _ => ?_) (fun c9 => absurd c9 (by decide +kernel))
  refine lv_aload_n hx hb dX12_day_19 rfl (lv_at hl 0 rfl) ?_
  refine va_get (D := D) (ci := 12) (v := .ref (qM 5)) (C := RX12) (T := TX12) (N := 97) hx hb htg iwG_12 hown hE.1 hP 0 rfl rfl 5 (by decide) (htg _ wm_471) (fun _ h9 => h9) rfl dX12_day_20 ?_
  refine lv_iconst (v := 0) hx hb dX12_day_23 (by decide +kernel) ?_
  refine lv_dup2_11 hx hb dX12_day_24 rfl rfl ?_
  refine va_iald hx hb hE.1 hP 1 0 rfl rfl (vp_in_iff.mpr ⟨by decide +kernel, by decide +kernel⟩) dX12_day_25 ?_
  refine g_top 0 rfl ?_
  refine lv_iconst (v := 1) hx hb dX12_day_26 (by decide +kernel) ?_
  refine lv_iadd hx hb dX12_day_27 ?_
  refine g_top 1 (by decide +kernel) ?_
  refine va_iast hx hb hE.1 hP hD hS 1 0 rfl rfl (vp_in_iff.mpr ⟨by decide +kernel, by decide +kernel⟩) dX12_day_28 (fun H locs hP hD hS => ?_)
  obtain ⟨g1, eg1, fg1⟩ : ∃ gz : Nat → Int32, gz = upd (fun _ => 0) (0 : Int32).toNatClampNeg 1 ∧ gz (0 : Int32).toNatClampNeg = 1 := ⟨_, rfl, pk_us⟩
  have hP : va_P D vwCl [(aM, oM qM 0 0 0 0 0 0 0 0 0 0 0 0 0 0 0 0 0 0), ((qM 5), .inl (cI, 4, .inl g1)), ((qM 14), .inl (cI, 4, .inl (fun _ => 0)))] H := by rw [eg1]; exact hP
  have hD : va_D A [(aM, oM qM 0 0 0 0 0 0 0 0 0 0 0 0 0 0 0 0 0 0), ((qM 5), .inl (cI, 4, .inl g1)), ((qM 14), .inl (cI, 4, .inl (fun _ => 0)))] := by rw [eg1]; exact hD
  refine lv_iconst (v := 0) hx hb dX12_day_29 (by decide +kernel) ?_
  refine lv_istore_n (lv' := [(1, .int 0), (0, .ref aM)]) hx hb dX12_day_30 rfl hl (by decide) rfl (fun ls hl => ?_)
  refine lv_iload_n hx hb dX12_day_31 rfl (lv_at hl 0 rfl) ?_
  refine lv_aload_n hx hb dX12_day_32 rfl (lv_at hl 1 rfl) ?_
  refine va_get (D := D) (ci := 12) (v := .ref (qM 14)) (C := RX12) (T := TX12) (N := 97) hx hb htg iwG_12 hown hE.1 hP 0 rfl rfl 14 (by decide) (htg _ wm_480) (fun _ h9 => h9) rfl dX12_day_33 ?_
  refine lv_iconst (v := 0) hx hb dX12_day_36 (by decide +kernel) ?_
  refine va_iald hx hb hE.1 hP 2 0 rfl rfl (vp_in_iff.mpr ⟨by decide +kernel, by decide +kernel⟩) dX12_day_37 ?_
  refine g_top 0 rfl ?_
  refine lv_icmp_ge (tgt := 138) hx hb dX12_day_38 (by decide) (fun _ => ?_) (fun c9 => absurd c9 (by decide +kernel))
  refine lv_aload_n hx hb dX12_day_138 rfl (lv_at hl 1 rfl) ?_
  refine va_get (D := D) (ci := 12) (v := .ref (qM 5)) (C := RX12) (T := TX12) (N := 97) hx hb htg iwG_12 hown hE.1 hP 0 rfl rfl 5 (by decide) (htg _ wm_471) (fun _ h9 => h9) rfl dX12_day_139 ?_
  refine lv_iconst (v := 0) hx hb dX12_day_142 (by decide +kernel) ?_
  refine va_iald hx hb hE.1 hP 1 0 rfl rfl (vp_in_iff.mpr ⟨by decide +kernel, by decide +kernel⟩) dX12_day_143 ?_
  refine g_top 1 fg1 ?_
  exact g_iret () hF hr rfl hlocks (hP.sub [] rfl) (hD.sub [] rfl rfl) hS rfl dX12_day_144 (Nat.le_of_ble_eq_true rfl) (Nat.le_of_ble_eq_true rfl)
set_option maxHeartbeats 8000000 in
set_option maxRecDepth 100000 in
theorem c_X12_tell {l : Launch} {D : va_G} {cI cB cS cZ cW : ClassId} {aM : Nat} {y0 : Int32} {y1 : Int32} {qM : Nat → Nat}  {sz : Nat} : MI l D (gT cI cB cS cZ cW) yX12_tell (wG yX12_tell cX12_tell 3 (some .int)) { frames := 2, cells := 0, slots := 0, locals := 43 } [.ref aM, .int y0, .int y1] [(aM, oM qM 0 0 0 0 0 0 0 0 0 0 0 0 0 0 0 0 0 0), ((qM 14), .inl (cI, 4, .inl (fun _ => 0)))] sz (fun (r : Int32) (u : Unit) => r = (-100)) (fun (u : Unit) => [] : (Unit) → va_W) 0 0 := by
  refine g_enter (y := yX12_tell) (w := (wG yX12_tell cX12_tell 3 (some .int))) (As := [.ref aM, .int y0, .int y1]) (D := D) (T := gT cI cB cS cZ cW) (ws := [(aM, oM qM 0 0 0 0 0 0 0 0 0 0 0 0 0 0 0 0 0 0), ((qM 14), .inl (cI, 4, .inl (fun _ => 0)))]) (gQi D (fun (r : Int32) (u : Unit) => r = (-100)) (fun (u : Unit) => [] : (Unit) → va_W)) (cc := cX12_tell) (maxL := 3) (ret := (some .int)) (by decide) rfl (Nat.le_of_ble_eq_true rfl) ?_
  intro p e s m below meth c A ls hF hr hlocks hname hsz hE hA hP hD hS hl
  have hF : CallFix p m c cX12_tell 3 s ([.ref aM, .int y0, .int y1] : List Value).toArray (wG yX12_tell cX12_tell 3 (some .int)) RX12 := hF
  obtain ⟨hx, hb, hml, hown, hts⟩ := id hF
  have htg : ∀ w ∈ GL, w.before ([.ref aM, .int y0, .int y1] : List Value).toArray s = true := fun w h => hts w (List.mem_cons_of_mem _ h)
  have hl : lv_has ls 3 [(0, .ref aM), (1, .int y0), (2, .int y1)] := hl
  have zm100 := tm_100
  have z0 := t_0
  refine lv_aload_n hx hb dX12_tell_0 rfl (lv_at hl 0 rfl) ?_
  refine lv_iconst (v := 0) hx hb dX12_tell_1 (by decide +kernel) ?_
  refine va_put (D := D) (ci := 12) (v := .int 0) (ty := tyX12 0) (C := RX12) (T := TX12) (N := 97) hx hb htg iwG_12 tyX12 tyX12_ok nmX12 hown hE.1 hP hD hS 0 rfl rfl 0 (by decide) (htg _ wm_588) (fun _ h9 => h9) rfl (by decide +kernel) rfl rfl (Nat.le_of_ble_eq_true rfl) dX12_tell_2 (fun H locs hP hD hS => ?_)
  have hP : va_P D vwCl [(aM, oM qM 0 0 0 0 0 0 0 0 0 0 0 0 0 0 0 0 0 0), ((qM 14), .inl (cI, 4, .inl (fun _ => 0)))] H := hP
  have hD : va_D A [(aM, oM qM 0 0 0 0 0 0 0 0 0 0 0 0 0 0 0 0 0 0), ((qM 14), .inl (cI, 4, .inl (fun _ => 0)))] := hD
  refine lv_aload_n hx hb dX12_tell_5 rfl (lv_at hl 0 rfl) ?_
  refine lv_iload_n hx hb dX12_tell_6 rfl (lv_at hl 1 rfl) ?_
  refine g_ai (D := D) (wc := [(aM, oM qM 0 0 0 0 0 0 0 0 0 0 0 0 0 0 0 0 0 0), ((qM 14), .inl (cI, 4, .inl (fun _ => 0)))]) (wr := []) hP hD hS hA [0, 1] [] rfl rfl rfl rfl (by decide) (fun hPc hDc => va_runV (As := [.int y0]) (rest := []) hF (c_X12_isPerson (l := l) (D := D) (cI := cI) (cB := cB) (cS := cS) (cZ := cZ) (cW := cW) (aM := aM) (y0 := y0) (qM := qM)) (cwV 1 hts (gGV (fun _ h => List.mem_cons_of_mem _ h) wm_552 wm_553 wm_554 wm_550 wm_555) rfl rfl rfl (by decide +kernel) ⟨Nat.le_of_ble_eq_true rfl, Nat.le_of_ble_eq_true rfl⟩) (g_preV (q := (RX12, TX12, 97)) (ci := 12) (q0 := 0) hE hPc hDc rfl rfl) rfl rfl hl.1 rfl (lv_room (Nat.le_of_ble_eq_true rfl)) dX12_tell_7 ⟨Nat.le_of_ble_eq_true rfl, Nat.le_of_ble_eq_true rfl⟩) (fun r1 u2 H locs p3 hP hD hS => ?_)
  have hP : va_P D vwCl [(aM, oM qM 0 0 0 0 0 0 0 0 0 0 0 0 0 0 0 0 0 0), ((qM 14), .inl (cI, 4, .inl (fun _ => 0)))] H := hP
  have hD : va_D A [(aM, oM qM 0 0 0 0 0 0 0 0 0 0 0 0 0 0 0 0 0 0), ((qM 14), .inl (cI, 4, .inl (fun _ => 0)))] := hD
  obtain rfl := p3
  refine lv_if_ne (tgt := 16) hx hb dX12_tell_10 (by decide) (fun c9 => absurd c9 (by decide +kernel)) (fun _ => ?_)
  refine lv_bipush (v := (-100)) hx hb dX12_tell_13 (by decide +kernel) ?_
  exact g_iret () hF hr rfl hlocks (hP.sub [] rfl) (hD.sub [] rfl rfl) hS rfl dX12_tell_15 (Nat.le_of_ble_eq_true rfl) (Nat.le_of_ble_eq_true rfl)
set_option maxHeartbeats 8000000 in
set_option maxRecDepth 100000 in
theorem c_X12_feed {l : Launch} {D : va_G} {cI cB cS cZ cW : ClassId} {aM : Nat} {y0 : Int32} {y1 : Int32} {y2 : Int32} {y3 : Int32} {y4 : Int32} {qM : Nat → Nat}  {sz : Nat} : MI l D (gT cI cB cS cZ cW) yX12_feed (wG yX12_feed cX12_feed 6 (some .int)) { frames := 1, cells := 0, slots := 0, locals := 22 } [.ref aM, .int y0, .int y1, .int y2, .int y3, .int y4] [(aM, oM qM 0 0 0 0 0 0 0 0 0 0 0 0 0 0 0 0 0 0), ((qM 1), .inl (cB, 2000, .inl (fun _ => 0))), ((qM 2), .inl (cI, 4, .inl (fun _ => 0)))] sz (fun (r : Int32) (u : Unit) => r = 20) (fun (u : Unit) => [] : (Unit) → va_W) 0 0 := by
  refine g_enter (y := yX12_feed) (w := (wG yX12_feed cX12_feed 6 (some .int))) (As := [.ref aM, .int y0, .int y1, .int y2, .int y3, .int y4]) (D := D) (T := gT cI cB cS cZ cW) (ws := [(aM, oM qM 0 0 0 0 0 0 0 0 0 0 0 0 0 0 0 0 0 0), ((qM 1), .inl (cB, 2000, .inl (fun _ => 0))), ((qM 2), .inl (cI, 4, .inl (fun _ => 0)))]) (gQi D (fun (r : Int32) (u : Unit) => r = 20) (fun (u : Unit) => [] : (Unit) → va_W)) (cc := cX12_feed) (maxL := 6) (ret := (some .int)) (by decide) rfl (Nat.le_of_ble_eq_true rfl) ?_
  intro p e s m below meth c A ls hF hr hlocks hname hsz hE hA hP hD hS hl
  have hF : CallFix p m c cX12_feed 6 s ([.ref aM, .int y0, .int y1, .int y2, .int y3, .int y4] : List Value).toArray (wG yX12_feed cX12_feed 6 (some .int)) RX12 := hF
  obtain ⟨hx, hb, hml, hown, hts⟩ := id hF
  have htg : ∀ w ∈ GL, w.before ([.ref aM, .int y0, .int y1, .int y2, .int y3, .int y4] : List Value).toArray s = true := fun w h => hts w (List.mem_cons_of_mem _ h)
  have hl : lv_has ls 6 [(0, .ref aM), (1, .int y0), (2, .int y1), (3, .int y2), (4, .int y3), (5, .int y4)] := hl
  have z0 := t_0
  have z20 := t_20
  have z500 := t_500
  refine lv_aload_n hx hb dX12_feed_0 rfl (lv_at hl 0 rfl) ?_
  refine lv_iconst (v := 0) hx hb dX12_feed_1 (by decide +kernel) ?_
  refine va_put (D := D) (ci := 12) (v := .int 0) (ty := tyX12 0) (C := RX12) (T := TX12) (N := 97) hx hb htg iwG_12 tyX12 tyX12_ok nmX12 hown hE.1 hP hD hS 0 rfl rfl 0 (by decide) (htg _ wm_588) (fun _ h9 => h9) rfl (by decide +kernel) rfl rfl (Nat.le_of_ble_eq_true rfl) dX12_feed_2 (fun H locs hP hD hS => ?_)
  have hP : va_P D vwCl [(aM, oM qM 0 0 0 0 0 0 0 0 0 0 0 0 0 0 0 0 0 0), ((qM 1), .inl (cB, 2000, .inl (fun _ => 0))), ((qM 2), .inl (cI, 4, .inl (fun _ => 0)))] H := hP
  have hD : va_D A [(aM, oM qM 0 0 0 0 0 0 0 0 0 0 0 0 0 0 0 0 0 0), ((qM 1), .inl (cB, 2000, .inl (fun _ => 0))), ((qM 2), .inl (cI, 4, .inl (fun _ => 0)))] := hD
  refine lv_aload_n hx hb dX12_feed_5 rfl (lv_at hl 0 rfl) ?_
  refine va_get (D := D) (ci := 12) (v := .ref (qM 2)) (C := RX12) (T := TX12) (N := 97) hx hb htg iwG_12 hown hE.1 hP 0 rfl rfl 2 (by decide) (htg _ wm_468) (fun _ h9 => h9) rfl dX12_feed_6 ?_
  refine lv_iconst (v := 0) hx hb dX12_feed_9 (by decide +kernel) ?_
  refine va_iald hx hb hE.1 hP 2 0 rfl rfl (vp_in_iff.mpr ⟨by decide +kernel, by decide +kernel⟩) dX12_feed_10 ?_
  refine g_top 0 rfl ?_
  refine lv_bipush (v := 20) hx hb dX12_feed_11 (by decide +kernel) ?_
  refine lv_iadd hx hb dX12_feed_13 ?_
  refine g_top 20 (by decide +kernel) ?_
  refine lv_sipush (v := 500) hx hb dX12_feed_14 (by decide +kernel) ?_
  refine lv_icmp_le (tgt := 22) hx hb dX12_feed_17 (by decide) (fun _ => ?_) (fun c9 => absurd c9 (by decide +kernel))
  refine lv_aload_n hx hb dX12_feed_22 rfl (lv_at hl 0 rfl) ?_
  refine lv_iload_n hx hb dX12_feed_23 rfl (lv_at hl 1 rfl) ?_
  refine g_av (D := D) (wc := [(aM, oM qM 0 0 0 0 0 0 0 0 0 0 0 0 0 0 0 0 0 0), ((qM 1), .inl (cB, 2000, .inl (fun _ => 0))), ((qM 2), .inl (cI, 4, .inl (fun _ => 0)))]) (wr := []) hP hD hS hA [0, 1, 2] [] rfl rfl rfl rfl (by decide) (fun hPc hDc => va_runV (As := [.int y0]) (rest := []) hF (c_X12_four_0 (l := l) (D := D) (cI := cI) (cB := cB) (cS := cS) (cZ := cZ) (cW := cW) (aM := aM) (y0 := y0) (qM := qM) (gb := (fun _ => 0)) (g := (fun _ => 0)) (hg := rfl)) (cwV 1 hts (gGV (fun _ h => List.mem_cons_of_mem _ h) wm_599 wm_600 wm_601 wm_550 wm_602) rfl rfl rfl (by decide +kernel) ⟨Nat.le_of_ble_eq_true rfl, Nat.le_of_ble_eq_true rfl⟩) (g_preV (q := (RX12, TX12, 97)) (ci := 12) (q0 := 0) hE hPc hDc rfl rfl) rfl rfl hl.1 rfl (lv_room (Nat.le_of_ble_eq_true rfl)) dX12_feed_24 ⟨Nat.le_of_ble_eq_true rfl, Nat.le_of_ble_eq_true rfl⟩) (fun u2 H locs p3 hP hD hS => ?_)
  obtain ⟨g4, g5⟩ := u2
  have f6 := p3
  have hP : va_P D vwCl [(aM, oM qM 0 0 0 0 0 0 0 0 0 0 0 0 0 0 0 0 0 0), ((qM 1), .inl (cB, 2000, .inl g5)), ((qM 2), .inl (cI, 4, .inl g4))] H := hP
  have hD : va_D A [(aM, oM qM 0 0 0 0 0 0 0 0 0 0 0 0 0 0 0 0 0 0), ((qM 1), .inl (cB, 2000, .inl g5)), ((qM 2), .inl (cI, 4, .inl g4))] := hD
  refine lv_aload_n hx hb dX12_feed_27 rfl (lv_at hl 0 rfl) ?_
  refine lv_iload_n hx hb dX12_feed_28 rfl (lv_at hl 2 rfl) ?_
  refine g_av (D := D) (wc := [(aM, oM qM 0 0 0 0 0 0 0 0 0 0 0 0 0 0 0 0 0 0), ((qM 1), .inl (cB, 2000, .inl g5)), ((qM 2), .inl (cI, 4, .inl g4))]) (wr := []) hP hD hS hA [0, 1, 2] [] rfl rfl rfl rfl (by decide) (fun hPc hDc => va_runV (As := [.int y1]) (rest := []) hF (c_X12_four_4 (l := l) (D := D) (cI := cI) (cB := cB) (cS := cS) (cZ := cZ) (cW := cW) (aM := aM) (y0 := y1) (qM := qM) (gb := g5) (g := g4) (hg := f6)) (cwV 1 hts (gGV (fun _ h => List.mem_cons_of_mem _ h) wm_599 wm_600 wm_601 wm_550 wm_602) rfl rfl rfl (by decide +kernel) ⟨Nat.le_of_ble_eq_true rfl, Nat.le_of_ble_eq_true rfl⟩) (g_preV (q := (RX12, TX12, 97)) (ci := 12) (q0 := 0) hE hPc hDc rfl rfl) rfl rfl hl.1 rfl (lv_room (Nat.le_of_ble_eq_true rfl)) dX12_feed_29 ⟨Nat.le_of_ble_eq_true rfl, Nat.le_of_ble_eq_true rfl⟩) (fun u8 H locs p9 hP hD hS => ?_)
  obtain ⟨g10, g11⟩ := u8
  have f12 := p9
  have hP : va_P D vwCl [(aM, oM qM 0 0 0 0 0 0 0 0 0 0 0 0 0 0 0 0 0 0), ((qM 1), .inl (cB, 2000, .inl g11)), ((qM 2), .inl (cI, 4, .inl g10))] H := hP
  have hD : va_D A [(aM, oM qM 0 0 0 0 0 0 0 0 0 0 0 0 0 0 0 0 0 0), ((qM 1), .inl (cB, 2000, .inl g11)), ((qM 2), .inl (cI, 4, .inl g10))] := hD
  refine lv_aload_n hx hb dX12_feed_32 rfl (lv_at hl 0 rfl) ?_
  refine lv_iload_n hx hb dX12_feed_33 rfl (lv_at hl 3 rfl) ?_
  refine g_av (D := D) (wc := [(aM, oM qM 0 0 0 0 0 0 0 0 0 0 0 0 0 0 0 0 0 0), ((qM 1), .inl (cB, 2000, .inl g11)), ((qM 2), .inl (cI, 4, .inl g10))]) (wr := []) hP hD hS hA [0, 1, 2] [] rfl rfl rfl rfl (by decide) (fun hPc hDc => va_runV (As := [.int y2]) (rest := []) hF (c_X12_four_8 (l := l) (D := D) (cI := cI) (cB := cB) (cS := cS) (cZ := cZ) (cW := cW) (aM := aM) (y0 := y2) (qM := qM) (gb := g11) (g := g10) (hg := f12)) (cwV 1 hts (gGV (fun _ h => List.mem_cons_of_mem _ h) wm_599 wm_600 wm_601 wm_550 wm_602) rfl rfl rfl (by decide +kernel) ⟨Nat.le_of_ble_eq_true rfl, Nat.le_of_ble_eq_true rfl⟩) (g_preV (q := (RX12, TX12, 97)) (ci := 12) (q0 := 0) hE hPc hDc rfl rfl) rfl rfl hl.1 rfl (lv_room (Nat.le_of_ble_eq_true rfl)) dX12_feed_34 ⟨Nat.le_of_ble_eq_true rfl, Nat.le_of_ble_eq_true rfl⟩) (fun u14 H locs p15 hP hD hS => ?_)
  obtain ⟨g16, g17⟩ := u14
  have f18 := p15
  have hP : va_P D vwCl [(aM, oM qM 0 0 0 0 0 0 0 0 0 0 0 0 0 0 0 0 0 0), ((qM 1), .inl (cB, 2000, .inl g17)), ((qM 2), .inl (cI, 4, .inl g16))] H := hP
  have hD : va_D A [(aM, oM qM 0 0 0 0 0 0 0 0 0 0 0 0 0 0 0 0 0 0), ((qM 1), .inl (cB, 2000, .inl g17)), ((qM 2), .inl (cI, 4, .inl g16))] := hD
  refine lv_aload_n hx hb dX12_feed_37 rfl (lv_at hl 0 rfl) ?_
  refine lv_iload hx hb dX12_feed_38 (lv_at hl 4 rfl) ?_
  refine g_av (D := D) (wc := [(aM, oM qM 0 0 0 0 0 0 0 0 0 0 0 0 0 0 0 0 0 0), ((qM 1), .inl (cB, 2000, .inl g17)), ((qM 2), .inl (cI, 4, .inl g16))]) (wr := []) hP hD hS hA [0, 1, 2] [] rfl rfl rfl rfl (by decide) (fun hPc hDc => va_runV (As := [.int y3]) (rest := []) hF (c_X12_four_12 (l := l) (D := D) (cI := cI) (cB := cB) (cS := cS) (cZ := cZ) (cW := cW) (aM := aM) (y0 := y3) (qM := qM) (gb := g17) (g := g16) (hg := f18)) (cwV 1 hts (gGV (fun _ h => List.mem_cons_of_mem _ h) wm_599 wm_600 wm_601 wm_550 wm_602) rfl rfl rfl (by decide +kernel) ⟨Nat.le_of_ble_eq_true rfl, Nat.le_of_ble_eq_true rfl⟩) (g_preV (q := (RX12, TX12, 97)) (ci := 12) (q0 := 0) hE hPc hDc rfl rfl) rfl rfl hl.1 rfl (lv_room (Nat.le_of_ble_eq_true rfl)) dX12_feed_40 ⟨Nat.le_of_ble_eq_true rfl, Nat.le_of_ble_eq_true rfl⟩) (fun u20 H locs p21 hP hD hS => ?_)
  obtain ⟨g22, g23⟩ := u20
  have f24 := p21
  have hP : va_P D vwCl [(aM, oM qM 0 0 0 0 0 0 0 0 0 0 0 0 0 0 0 0 0 0), ((qM 1), .inl (cB, 2000, .inl g23)), ((qM 2), .inl (cI, 4, .inl g22))] H := hP
  have hD : va_D A [(aM, oM qM 0 0 0 0 0 0 0 0 0 0 0 0 0 0 0 0 0 0), ((qM 1), .inl (cB, 2000, .inl g23)), ((qM 2), .inl (cI, 4, .inl g22))] := hD
  refine lv_aload_n hx hb dX12_feed_43 rfl (lv_at hl 0 rfl) ?_
  refine lv_iload hx hb dX12_feed_44 (lv_at hl 5 rfl) ?_
  refine g_av (D := D) (wc := [(aM, oM qM 0 0 0 0 0 0 0 0 0 0 0 0 0 0 0 0 0 0), ((qM 1), .inl (cB, 2000, .inl g23)), ((qM 2), .inl (cI, 4, .inl g22))]) (wr := []) hP hD hS hA [0, 1, 2] [] rfl rfl rfl rfl (by decide) (fun hPc hDc => va_runV (As := [.int y4]) (rest := []) hF (c_X12_four_16 (l := l) (D := D) (cI := cI) (cB := cB) (cS := cS) (cZ := cZ) (cW := cW) (aM := aM) (y0 := y4) (qM := qM) (gb := g23) (g := g22) (hg := f24)) (cwV 1 hts (gGV (fun _ h => List.mem_cons_of_mem _ h) wm_599 wm_600 wm_601 wm_550 wm_602) rfl rfl rfl (by decide +kernel) ⟨Nat.le_of_ble_eq_true rfl, Nat.le_of_ble_eq_true rfl⟩) (g_preV (q := (RX12, TX12, 97)) (ci := 12) (q0 := 0) hE hPc hDc rfl rfl) rfl rfl hl.1 rfl (lv_room (Nat.le_of_ble_eq_true rfl)) dX12_feed_46 ⟨Nat.le_of_ble_eq_true rfl, Nat.le_of_ble_eq_true rfl⟩) (fun u26 H locs p27 hP hD hS => ?_)
  obtain ⟨g28, g29⟩ := u26
  have f30 := p27
  have hP : va_P D vwCl [(aM, oM qM 0 0 0 0 0 0 0 0 0 0 0 0 0 0 0 0 0 0), ((qM 1), .inl (cB, 2000, .inl g29)), ((qM 2), .inl (cI, 4, .inl g28))] H := hP
  have hD : va_D A [(aM, oM qM 0 0 0 0 0 0 0 0 0 0 0 0 0 0 0 0 0 0), ((qM 1), .inl (cB, 2000, .inl g29)), ((qM 2), .inl (cI, 4, .inl g28))] := hD
  refine lv_aload_n hx hb dX12_feed_49 rfl (lv_at hl 0 rfl) ?_
  refine va_get (D := D) (ci := 12) (v := .ref (qM 2)) (C := RX12) (T := TX12) (N := 97) hx hb htg iwG_12 hown hE.1 hP 0 rfl rfl 2 (by decide) (htg _ wm_468) (fun _ h9 => h9) rfl dX12_feed_50 ?_
  refine lv_iconst (v := 0) hx hb dX12_feed_53 (by decide +kernel) ?_
  refine va_iald hx hb hE.1 hP 2 0 rfl rfl (vp_in_iff.mpr ⟨by decide +kernel, by decide +kernel⟩) dX12_feed_54 ?_
  refine g_top 20 f30 ?_
  exact g_iret () hF hr rfl hlocks (hP.sub [] rfl) (hD.sub [] rfl rfl) hS rfl dX12_feed_55 (Nat.le_of_ble_eq_true rfl) (Nat.le_of_ble_eq_true rfl)
set_option maxHeartbeats 8000000 in
set_option maxRecDepth 100000 in
theorem c_X12_end {l : Launch} {D : va_G} {cI cB cS cZ cW : ClassId} {aM : Nat} {y0 : Int32} {qM : Nat → Nat}  {sz : Nat} : MI l D (gT cI cB cS cZ cW) yX12_end (wG yX12_end cX12_end 2 (some .int)) { frames := 1, cells := 0, slots := 0, locals := 22 } [.ref aM, .int y0] [(aM, oM qM 0 0 0 0 0 0 0 0 0 0 0 0 0 0 0 0 0 0), ((qM 2), .inl (cI, 4, .inl (fun _ => 0)))] sz (fun (r : Int32) (u : Unit) => r = S_end y0) (fun (u : Unit) => [] : (Unit) → va_W) 0 0 := by
  refine g_enter (y := yX12_end) (w := (wG yX12_end cX12_end 2 (some .int))) (As := [.ref aM, .int y0]) (D := D) (T := gT cI cB cS cZ cW) (ws := [(aM, oM qM 0 0 0 0 0 0 0 0 0 0 0 0 0 0 0 0 0 0), ((qM 2), .inl (cI, 4, .inl (fun _ => 0)))]) (gQi D (fun (r : Int32) (u : Unit) => r = S_end y0) (fun (u : Unit) => [] : (Unit) → va_W)) (cc := cX12_end) (maxL := 2) (ret := (some .int)) (by decide) rfl (Nat.le_of_ble_eq_true rfl) ?_
  intro p e s m below meth c A ls hF hr hlocks hname hsz hE hA hP hD hS hl
  have hF : CallFix p m c cX12_end 2 s ([.ref aM, .int y0] : List Value).toArray (wG yX12_end cX12_end 2 (some .int)) RX12 := hF
  obtain ⟨hx, hb, hml, hown, hts⟩ := id hF
  have htg : ∀ w ∈ GL, w.before ([.ref aM, .int y0] : List Value).toArray s = true := fun w h => hts w (List.mem_cons_of_mem _ h)
  have hl : lv_has ls 2 [(0, .ref aM), (1, .int y0)] := hl
  have zm1 := tm_1
  have z0 := t_0
  have z1 := t_1
  refine lv_aload_n hx hb dX12_end_0 rfl (lv_at hl 0 rfl) ?_
  refine lv_iconst (v := 0) hx hb dX12_end_1 (by decide +kernel) ?_
  refine va_put (D := D) (ci := 12) (v := .int 0) (ty := tyX12 0) (C := RX12) (T := TX12) (N := 97) hx hb htg iwG_12 tyX12 tyX12_ok nmX12 hown hE.1 hP hD hS 0 rfl rfl 0 (by decide) (htg _ wm_588) (fun _ h9 => h9) rfl (by decide +kernel) rfl rfl (Nat.le_of_ble_eq_true rfl) dX12_end_2 (fun H locs hP hD hS => ?_)
  have hP : va_P D vwCl [(aM, oM qM 0 0 0 0 0 0 0 0 0 0 0 0 0 0 0 0 0 0), ((qM 2), .inl (cI, 4, .inl (fun _ => 0)))] H := hP
  have hD : va_D A [(aM, oM qM 0 0 0 0 0 0 0 0 0 0 0 0 0 0 0 0 0 0), ((qM 2), .inl (cI, 4, .inl (fun _ => 0)))] := hD
  refine lv_iload_n hx hb dX12_end_5 rfl (lv_at hl 1 rfl) ?_
  refine lv_iconst (v := 0) hx hb dX12_end_6 (by decide +kernel) ?_
  refine lv_aload_n hx hb dX12_end_7 rfl (lv_at hl 0 rfl) ?_
  refine va_get (D := D) (ci := 12) (v := .ref (qM 2)) (C := RX12) (T := TX12) (N := 97) hx hb htg iwG_12 hown hE.1 hP 0 rfl rfl 2 (by decide) (htg _ wm_468) (fun _ h9 => h9) rfl dX12_end_8 ?_
  refine lv_iconst (v := 0) hx hb dX12_end_11 (by decide +kernel) ?_
  refine va_iald hx hb hE.1 hP 1 0 rfl rfl (vp_in_iff.mpr ⟨by decide +kernel, by decide +kernel⟩) dX12_end_12 ?_
  refine g_top 0 rfl ?_
  refine g_ai (D := D) (wc := []) (wr := [(aM, oM qM 0 0 0 0 0 0 0 0 0 0 0 0 0 0 0 0 0 0), ((qM 2), .inl (cI, 4, .inl (fun _ => 0)))]) hP hD hS hA [] [0, 1] rfl rfl rfl rfl (by decide) (fun hPc hDc => va_runS (As := [.int y0, .int 0, .int 0]) (rest := []) hF (c_X12_in (l := l) (D := D) (cI := cI) (cB := cB) (cS := cS) (cZ := cZ) (cW := cW) (y0 := y0) (y1 := 0) (y2 := 0)) (va_cwS 3 hts (gGS (fun _ h => List.mem_cons_of_mem _ h) wm_548 wm_549 wm_550 wm_551) rfl rfl rfl (by decide +kernel) ⟨Nat.le_of_ble_eq_true rfl, Nat.le_of_ble_eq_true rfl⟩) (g_preS hE hPc hDc) rfl rfl hl.1 rfl (lv_room (Nat.le_of_ble_eq_true rfl)) dX12_end_13 ⟨Nat.le_of_ble_eq_true rfl, Nat.le_of_ble_eq_true rfl⟩) (fun r1 u2 H locs p3 hP hD hS => ?_)
  have hP : va_P D vwCl [(aM, oM qM 0 0 0 0 0 0 0 0 0 0 0 0 0 0 0 0 0 0), ((qM 2), .inl (cI, 4, .inl (fun _ => 0)))] H := hP
  have hD : va_D A [(aM, oM qM 0 0 0 0 0 0 0 0 0 0 0 0 0 0 0 0 0 0), ((qM 2), .inl (cI, 4, .inl (fun _ => 0)))] := hD
  rcases p3 with ⟨rfl, p3a⟩ | ⟨rfl, p3a⟩
  · skip
    refine lv_if_ne (tgt := 21) hx hb dX12_end_16 (by decide) (fun _ => ?_) (fun c9 => absurd c9 (by decide +kernel))
    refine lv_aload_n hx hb dX12_end_21 rfl (lv_at hl 0 rfl) ?_
    refine va_get (D := D) (ci := 12) (v := .ref (qM 2)) (C := RX12) (T := TX12) (N := 97) hx hb htg iwG_12 hown hE.1 hP 0 rfl rfl 2 (by decide) (htg _ wm_468) (fun _ h9 => h9) rfl dX12_end_22 ?_
    refine lv_iconst (v := 0) hx hb dX12_end_25 (by decide +kernel) ?_
    refine lv_iload_n hx hb dX12_end_26 rfl (lv_at hl 1 rfl) ?_
    refine g_top 0 (i_eq.mpr (by omega)) ?_
    refine va_iast hx hb hE.1 hP hD hS 1 0 rfl rfl (vp_in_iff.mpr ⟨by decide +kernel, by decide +kernel⟩) dX12_end_27 (fun H locs hP hD hS => ?_)
    obtain ⟨g4, eg4, fg4⟩ : ∃ gz : Nat → Int32, gz = upd (fun _ => 0) (0 : Int32).toNatClampNeg 0 ∧ gz (0 : Int32).toNatClampNeg = 0 := ⟨_, rfl, pk_us⟩
    have hP : va_P D vwCl [(aM, oM qM 0 0 0 0 0 0 0 0 0 0 0 0 0 0 0 0 0 0), ((qM 2), .inl (cI, 4, .inl g4))] H := by rw [eg4]; exact hP
    have hD : va_D A [(aM, oM qM 0 0 0 0 0 0 0 0 0 0 0 0 0 0 0 0 0 0), ((qM 2), .inl (cI, 4, .inl g4))] := by rw [eg4]; exact hD
    refine lv_iload_n hx hb dX12_end_28 rfl (lv_at hl 1 rfl) ?_
    exact g_iret () hF hr rfl hlocks (hP.sub [] rfl) (hD.sub [] rfl rfl) hS (by show (_ : Int32) = _; unfold S_end; (repeat' split) <;> first | rfl | (exfalso; omega) | omega) dX12_end_29 (Nat.le_of_ble_eq_true rfl) (Nat.le_of_ble_eq_true rfl)
  · skip
    refine lv_if_ne (tgt := 21) hx hb dX12_end_16 (by decide) (fun c9 => absurd c9 (by decide +kernel)) (fun _ => ?_)
    refine lv_iconst (v := (-1)) hx hb dX12_end_19 (by decide +kernel) ?_
    exact g_iret () hF hr rfl hlocks (hP.sub [] rfl) (hD.sub [] rfl rfl) hS (by show (_ : Int32) = _; unfold S_end; (repeat' split) <;> first | rfl | (exfalso; omega) | omega) dX12_end_20 (Nat.le_of_ble_eq_true rfl) (Nat.le_of_ble_eq_true rfl)
