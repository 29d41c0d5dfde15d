set_option maxHeartbeats 8000000 in
set_option maxRecDepth 100000 in
theorem c_X2_takeFour_16 {l : Launch} {D : va_G} {cI cB cS cZ cW : ClassId} {aC : Nat} {y0 : Int32} {qC : Nat → Nat} {g : Nat → Int32}  {sz : Nat} : MV l D (gT cI cB cS cZ cW) yX2_takeFour (wG yX2_takeFour cX2_takeFour 3 none) { frames := 0, cells := 0, slots := 0, locals := 0 } [.ref aC, .int y0] [(aC, .inr (2, [.ref (qC 0), .int 16, .int 0, .int (-1), .int 0, .ref (qC 5), .ref (qC 6), .ref (qC 7), .ref (qC 8), .ref (qC 9), .ref (qC 10)])), ((qC 0), .inl (cI, 500, .inl g))] sz (fun (u : Nat → Int32) => True) (fun (u : Nat → Int32) => [(aC, .inr (2, [.ref (qC 0), .int 20, .int 0, .int (-1), .int 0, .ref (qC 5), .ref (qC 6), .ref (qC 7), .ref (qC 8), .ref (qC 9), .ref (qC 10)])), ((qC 0), .inl (cI, 500, .inl u))] : (Nat → Int32) → va_W) 0 0 := by
  refine g_enter (y := yX2_takeFour) (w := (wG yX2_takeFour cX2_takeFour 3 none)) (As := [.ref aC, .int y0]) (D := D) (T := gT cI cB cS cZ cW) (ws := [(aC, .inr (2, [.ref (qC 0), .int 16, .int 0, .int (-1), .int 0, .ref (qC 5), .ref (qC 6), .ref (qC 7), .ref (qC 8), .ref (qC 9), .ref (qC 10)])), ((qC 0), .inl (cI, 500, .inl g))]) (gQv D (fun (u : Nat → Int32) => True) (fun (u : Nat → Int32) => [(aC, .inr (2, [.ref (qC 0), .int 20, .int 0, .int (-1), .int 0, .ref (qC 5), .ref (qC 6), .ref (qC 7), .ref (qC 8), .ref (qC 9), .ref (qC 10)])), ((qC 0), .inl (cI, 500, .inl u))] : (Nat → Int32) → va_W)) (cc := cX2_takeFour) (maxL := 3) (ret := none) (by decide) rfl (Nat.le_of_ble_eq_true rfl) ?_
  intro p e s m below meth c A ls hF hr hlocks hname hsz hE hA hP hD hS hl
  have hF : CallFix p m c cX2_takeFour 3 s ([.ref aC, .int y0] : List Value).toArray (wG yX2_takeFour cX2_takeFour 3 none) RX2 := hF
  obtain ⟨hx, hb, hml, hown, hts⟩ := id hF
  have htg : ∀ w ∈ GL, w.before ([.ref aC, .int y0] : List Value).toArray s = true := fun w h => hts w (List.mem_cons_of_mem _ h)
  have hl : lv_has ls 3 [(0, .ref aC), (1, .int y0)] := hl
  have zm8 := tm_8
  have z0 := t_0
  have z1 := t_1
  have z8 := t_8
  have z16 := t_16
  have z17 := t_17
  have z18 := t_18
  have z19 := t_19
  have z20 := t_20
  have z24 := t_24
  have z255 := t_255
  refine lv_bipush (v := 24) hx hb dX2_takeFour_0 (by decide +kernel) ?_
  refine lv_istore_n (lv' := [(2, .int 24), (0, .ref aC), (1, .int y0)]) hx hb dX2_takeFour_2 rfl hl (by decide) rfl (fun ls hl => ?_)
  refine lv_iload_n hx hb dX2_takeFour_3 rfl (lv_at hl 0 rfl) ?_
  refine lv_if_lt (tgt := 39) hx hb dX2_takeFour_4 (by decide) (fun c9 => absurd c9 (by decide +kernel)) (fun _ => ?_)
  refine lv_aload_n hx hb dX2_takeFour_7 rfl (lv_at hl 1 rfl) ?_
  refine va_get (D := D) (ci := 2) (v := .ref (qC 0)) (C := RX2) (T := TX2) (N := 11) hx hb htg iwG_2 hown hE.1 hP 0 rfl rfl 0 (by decide) (htg _ wm_34) (fun _ h9 => h9) rfl dX2_takeFour_8 ?_
  refine lv_aload_n hx hb dX2_takeFour_11 rfl (lv_at hl 1 rfl) ?_
  refine va_get (D := D) (ci := 2) (v := .int 16) (C := RX2) (T := TX2) (N := 11) hx hb htg iwG_2 hown hE.1 hP 0 rfl rfl 1 (by decide) (htg _ wm_35) (fun _ h9 => h9) rfl dX2_takeFour_12 ?_
  refine lv_iload_n hx hb dX2_takeFour_15 rfl (lv_at hl 2 rfl) ?_
  refine lv_iload_n hx hb dX2_takeFour_16 rfl (lv_at hl 0 rfl) ?_
  refine lv_ishr hx hb dX2_takeFour_17 ?_
  refine lv_topi (fun v1 ev1 => ?_)
  refine lv_sipush (v := 255) hx hb dX2_takeFour_18 (by decide +kernel) ?_
  refine lv_iand hx hb dX2_takeFour_21 ?_
  refine lv_topi (fun v2 ev2 => ?_)
  refine va_iast hx hb hE.1 hP hD hS 1 0 rfl rfl (vp_in_iff.mpr ⟨by decide +kernel, by decide +kernel⟩) dX2_takeFour_22 (fun H locs hP hD hS => ?_)
  obtain ⟨g3, eg3⟩ : ∃ gz : Nat → Int32, gz = upd g (16 : Int32).toNatClampNeg v2 := ⟨_, rfl⟩
  have hP : va_P D vwCl [(aC, .inr (2, [.ref (qC 0), .int 16, .int 0, .int (-1), .int 0, .ref (qC 5), .ref (qC 6), .ref (qC 7), .ref (qC 8), .ref (qC 9), .ref (qC 10)])), ((qC 0), .inl (cI, 500, .inl g3))] H := by rw [eg3]; exact hP
  have hD : va_D A [(aC, .inr (2, [.ref (qC 0), .int 16, .int 0, .int (-1), .int 0, .ref (qC 5), .ref (qC 6), .ref (qC 7), .ref (qC 8), .ref (qC 9), .ref (qC 10)])), ((qC 0), .inl (cI, 500, .inl g3))] := by rw [eg3]; exact hD
  refine lv_aload_n hx hb dX2_takeFour_23 rfl (lv_at hl 1 rfl) ?_
  refine lv_dup hx hb dX2_takeFour_24 rfl ?_
  refine va_get (D := D) (ci := 2) (v := .int 16) (C := RX2) (T := TX2) (N := 11) hx hb htg iwG_2 hown hE.1 hP 0 rfl rfl 1 (by decide) (htg _ wm_35) (fun _ h9 => h9) rfl dX2_takeFour_25 ?_
  refine lv_iconst (v := 1) hx hb dX2_takeFour_28 (by decide +kernel) ?_
  refine lv_iadd hx hb dX2_takeFour_29 ?_
  refine g_top 17 (by decide +kernel) ?_
  refine va_put (D := D) (ci := 2) (v := .int 17) (ty := tyX2 1) (C := RX2) (T := TX2) (N := 11) hx hb htg iwG_2 tyX2 tyX2_ok nmX2 hown hE.1 hP hD hS 0 rfl rfl 1 (by decide) (htg _ wm_35) (fun _ h9 => h9) rfl (by decide +kernel) rfl rfl (Nat.le_of_ble_eq_true rfl) dX2_takeFour_30 (fun H locs hP hD hS => ?_)
  have hP : va_P D vwCl [(aC, .inr (2, [.ref (qC 0), .int 17, .int 0, .int (-1), .int 0, .ref (qC 5), .ref (qC 6), .ref (qC 7), .ref (qC 8), .ref (qC 9), .ref (qC 10)])), ((qC 0), .inl (cI, 500, .inl g3))] H := hP
  have hD : va_D A [(aC, .inr (2, [.ref (qC 0), .int 17, .int 0, .int (-1), .int 0, .ref (qC 5), .ref (qC 6), .ref (qC 7), .ref (qC 8), .ref (qC 9), .ref (qC 10)])), ((qC 0), .inl (cI, 500, .inl g3))] := hD
  refine lv_iinc (v := 16) (lv' := [(2, .int 16), (0, .ref aC), (1, .int y0)]) hx hb dX2_takeFour_33 hl (k := 0) rfl (by decide +kernel) (by decide) rfl (fun ls hl => ?_)
  refine lv_goto (tgt := 3) hx hb dX2_takeFour_36 (by decide) ?_
  refine lv_iload_n hx hb dX2_takeFour_3 rfl (lv_at hl 0 rfl) ?_
  refine lv_if_lt (tgt := 39) hx hb dX2_takeFour_4 (by decide) (fun c9 => absurd c9 (by decide +kernel)) (fun _ => ?_)
  refine lv_aload_n hx hb dX2_takeFour_7 rfl (lv_at hl 1 rfl) ?_
  refine va_get (D := D) (ci := 2) (v := .ref (qC 0)) (C := RX2) (T := TX2) (N := 11) hx hb htg iwG_2 hown hE.1 hP 0 rfl rfl 0 (by decide) (htg _ wm_34) (fun _ h9 => h9) rfl dX2_takeFour_8 ?_
  refine lv_aload_n hx hb dX2_takeFour_11 rfl (lv_at hl 1 rfl) ?_
  refine va_get (D := D) (ci := 2) (v := .int 17) (C := RX2) (T := TX2) (N := 11) hx hb htg iwG_2 hown hE.1 hP 0 rfl rfl 1 (by decide) (htg _ wm_35) (fun _ h9 => h9) rfl dX2_takeFour_12 ?_
  refine lv_iload_n hx hb dX2_takeFour_15 rfl (lv_at hl 2 rfl) ?_
  refine lv_iload_n hx hb dX2_takeFour_16 rfl (lv_at hl 0 rfl) ?_
  refine lv_ishr hx hb dX2_takeFour_17 ?_
  refine lv_topi (fun v4 ev4 => ?_)
  refine lv_sipush (v := 255) hx hb dX2_takeFour_18 (by decide +kernel) ?_
  refine lv_iand hx hb dX2_takeFour_21 ?_
  refine lv_topi (fun v5 ev5 => ?_)
  refine va_iast hx hb hE.1 hP hD hS 1 0 rfl rfl (vp_in_iff.mpr ⟨by decide +kernel, by decide +kernel⟩) dX2_takeFour_22 (fun H locs hP hD hS => ?_)
  obtain ⟨g6, eg6⟩ : ∃ gz : Nat → Int32, gz = upd g3 (17 : Int32).toNatClampNeg v5 := ⟨_, rfl⟩
  have hP : va_P D vwCl [(aC, .inr (2, [.ref (qC 0), .int 17, .int 0, .int (-1), .int 0, .ref (qC 5), .ref (qC 6), .ref (qC 7), .ref (qC 8), .ref (qC 9), .ref (qC 10)])), ((qC 0), .inl (cI, 500, .inl g6))] H := by rw [eg6]; exact hP
  have hD : va_D A [(aC, .inr (2, [.ref (qC 0), .int 17, .int 0, .int (-1), .int 0, .ref (qC 5), .ref (qC 6), .ref (qC 7), .ref (qC 8), .ref (qC 9), .ref (qC 10)])), ((qC 0), .inl (cI, 500, .inl g6))] := by rw [eg6]; exact hD
  refine lv_aload_n hx hb dX2_takeFour_23 rfl (lv_at hl 1 rfl) ?_
  refine lv_dup hx hb dX2_takeFour_24 rfl ?_
  refine va_get (D := D) (ci := 2) (v := .int 17) (C := RX2) (T := TX2) (N := 11) hx hb htg iwG_2 hown hE.1 hP 0 rfl rfl 1 (by decide) (htg _ wm_35) (fun _ h9 => h9) rfl dX2_takeFour_25 ?_
  refine lv_iconst (v := 1) hx hb dX2_takeFour_28 (by decide +kernel) ?_
  refine lv_iadd hx hb dX2_takeFour_29 ?_
  refine g_top 18 (by decide +kernel) ?_
  refine va_put (D := D) (ci := 2) (v := .int 18) (ty := tyX2 1) (C := RX2) (T := TX2) (N := 11) hx hb htg iwG_2 tyX2 tyX2_ok nmX2 hown hE.1 hP hD hS 0 rfl rfl 1 (by decide) (htg _ wm_35) (fun _ h9 => h9) rfl (by decide +kernel) rfl rfl (Nat.le_of_ble_eq_true rfl) dX2_takeFour_30 (fun H locs hP hD hS => ?_)
  have hP : va_P D vwCl [(aC, .inr (2, [.ref (qC 0), .int 18, .int 0, .int (-1), .int 0, .ref (qC 5), .ref (qC 6), .ref (qC 7), .ref (qC 8), .ref (qC 9), .ref (qC 10)])), ((qC 0), .inl (cI, 500, .inl g6))] H := hP
  have hD : va_D A [(aC, .inr (2, [.ref (qC 0), .int 18, .int 0, .int (-1), .int 0, .ref (qC 5), .ref (qC 6), .ref (qC 7), .ref (qC 8), .ref (qC 9), .ref (qC 10)])), ((qC 0), .inl (cI, 500, .inl g6))] := hD
  refine lv_iinc (v := 8) (lv' := [(2, .int 8), (0, .ref aC), (1, .int y0)]) hx hb dX2_takeFour_33 hl (k := 0) rfl (by decide +kernel) (by decide) rfl (fun ls hl => ?_)
  refine lv_goto (tgt := 3) hx hb dX2_takeFour_36 (by decide) ?_
  refine lv_iload_n hx hb dX2_takeFour_3 rfl (lv_at hl 0 rfl) ?_
  refine lv_if_lt (tgt := 39) hx hb dX2_takeFour_4 (by decide) (fun c9 => absurd c9 (by decide +kernel)) (fun _ => ?_)
  refine lv_aload_n hx hb dX2_takeFour_7 rfl (lv_at hl 1 rfl) ?_
  refine va_get (D := D) (ci := 2) (v := .ref (qC 0)) (C := RX2) (T := TX2) (N := 11) hx hb htg iwG_2 hown hE.1 hP 0 rfl rfl 0 (by decide) (htg _ wm_34) (fun _ h9 => h9) rfl dX2_takeFour_8 ?_
  refine lv_aload_n hx hb dX2_takeFour_11 rfl (lv_at hl 1 rfl) ?_
  refine va_get (D := D) (ci := 2) (v := .int 18) (C := RX2) (T := TX2) (N := 11) hx hb htg iwG_2 hown hE.1 hP 0 rfl rfl 1 (by decide) (htg _ wm_35) (fun _ h9 => h9) rfl dX2_takeFour_12 ?_
  refine lv_iload_n hx hb dX2_takeFour_15 rfl (lv_at hl 2 rfl) ?_
  refine lv_iload_n hx hb dX2_takeFour_16 rfl (lv_at hl 0 rfl) ?_
  refine lv_ishr hx hb dX2_takeFour_17 ?_
  refine lv_topi (fun v7 ev7 => ?_)
  refine lv_sipush (v := 255) hx hb dX2_takeFour_18 (by decide +kernel) ?_
  refine lv_iand hx hb dX2_takeFour_21 ?_
  refine lv_topi (fun v8 ev8 => ?_)
  refine va_iast hx hb hE.1 hP hD hS 1 0 rfl rfl (vp_in_iff.mpr ⟨by decide +kernel, by decide +kernel⟩) dX2_takeFour_22 (fun H locs hP hD hS => ?_)
  obtain ⟨g9, eg9⟩ : ∃ gz : Nat → Int32, gz = upd g6 (18 : Int32).toNatClampNeg v8 := ⟨_, rfl⟩
  have hP : va_P D vwCl [(aC, .inr (2, [.ref (qC 0), .int 18, .int 0, .int (-1), .int 0, .ref (qC 5), .ref (qC 6), .ref (qC 7), .ref (qC 8), .ref (qC 9), .ref (qC 10)])), ((qC 0), .inl (cI, 500, .inl g9))] H := by rw [eg9]; exact hP
  have hD : va_D A [(aC, .inr (2, [.ref (qC 0), .int 18, .int 0, .int (-1), .int 0, .ref (qC 5), .ref (qC 6), .ref (qC 7), .ref (qC 8), .ref (qC 9), .ref (qC 10)])), ((qC 0), .inl (cI, 500, .inl g9))] := by rw [eg9]; exact hD
  refine lv_aload_n hx hb dX2_takeFour_23 rfl (lv_at hl 1 rfl) ?_
  refine lv_dup hx hb dX2_takeFour_24 rfl ?_
  refine va_get (D := D) (ci := 2) (v := .int 18) (C := RX2) (T := TX2) (N := 11) hx hb htg iwG_2 hown hE.1 hP 0 rfl rfl 1 (by decide) (htg _ wm_35) (fun _ h9 => h9) rfl dX2_takeFour_25 ?_
  refine lv_iconst (v := 1) hx hb dX2_takeFour_28 (by decide +kernel) ?_
  refine lv_iadd hx hb dX2_takeFour_29 ?_
  refine g_top 19 (by decide +kernel) ?_
  refine va_put (D := D) (ci := 2) (v := .int 19) (ty := tyX2 1) (C := RX2) (T := TX2) (N := 11) hx hb htg iwG_2 tyX2 tyX2_ok nmX2 hown hE.1 hP hD hS 0 rfl rfl 1 (by decide) (htg _ wm_35) (fun _ h9 => h9) rfl (by decide +kernel) rfl rfl (Nat.le_of_ble_eq_true rfl) dX2_takeFour_30 (fun H locs hP hD hS => ?_)
  have hP : va_P D vwCl [(aC, .inr (2, [.ref (qC 0), .int 19, .int 0, .int (-1), .int 0, .ref (qC 5), .ref (qC 6), .ref (qC 7), .ref (qC 8), .ref (qC 9), .ref (qC 10)])), ((qC 0), .inl (cI, 500, .inl g9))] H := hP
  have hD : va_D A [(aC, .inr (2, [.ref (qC 0), .int 19, .int 0, .int (-1), .int 0, .ref (qC 5), .ref (qC 6), .ref (qC 7), .ref (qC 8), .ref (qC 9), .ref (qC 10)])), ((qC 0), .inl (cI, 500, .inl g9))] := hD
  refine lv_iinc (v := 0) (lv' := [(2, .int 0), (0, .ref aC), (1, .int y0)]) hx hb dX2_takeFour_33 hl (k := 0) rfl (by decide +kernel) (by decide) rfl (fun ls hl => ?_)
  refine lv_goto (tgt := 3) hx hb dX2_takeFour_36 (by decide) ?_
  refine lv_iload_n hx hb dX2_takeFour_3 rfl (lv_at hl 0 rfl) ?_
  refine lv_if_lt (tgt := 39) hx hb dX2_takeFour_4 (by decide) (fun c9 => absurd c9 (by decide +kernel)) (fun _ => ?_)
  refine lv_aload_n hx hb dX2_takeFour_7 rfl (lv_at hl 1 rfl) ?_
  refine va_get (D := D) (ci := 2) (v := .ref (qC 0)) (C := RX2) (T := TX2) (N := 11) hx hb htg iwG_2 hown hE.1 hP 0 rfl rfl 0 (by decide) (htg _ wm_34) (fun _ h9 => h9) rfl dX2_takeFour_8 ?_
  refine lv_aload_n hx hb dX2_takeFour_11 rfl (lv_at hl 1 rfl) ?_
  refine va_get (D := D) (ci := 2) (v := .int 19) (C := RX2) (T := TX2) (N := 11) hx hb htg iwG_2 hown hE.1 hP 0 rfl rfl 1 (by decide) (htg _ wm_35) (fun _ h9 => h9) rfl dX2_takeFour_12 ?_
  refine lv_iload_n hx hb dX2_takeFour_15 rfl (lv_at hl 2 rfl) ?_
  refine lv_iload_n hx hb dX2_takeFour_16 rfl (lv_at hl 0 rfl) ?_
  refine lv_ishr hx hb dX2_takeFour_17 ?_
  refine lv_topi (fun v10 ev10 => ?_)
  refine lv_sipush (v := 255) hx hb dX2_takeFour_18 (by decide +kernel) ?_
  refine lv_iand hx hb dX2_takeFour_21 ?_
  refine lv_topi (fun v11 ev11 => ?_)
  refine va_iast hx hb hE.1 hP hD hS 1 0 rfl rfl (vp_in_iff.mpr ⟨by decide +kernel, by decide +kernel⟩) dX2_takeFour_22 (fun H locs hP hD hS => ?_)
  obtain ⟨g12, eg12⟩ : ∃ gz : Nat → Int32, gz = upd g9 (19 : Int32).toNatClampNeg v11 := ⟨_, rfl⟩
  have hP : va_P D vwCl [(aC, .inr (2, [.ref (qC 0), .int 19, .int 0, .int (-1), .int 0, .ref (qC 5), .ref (qC 6), .ref (qC 7), .ref (qC 8), .ref (qC 9), .ref (qC 10)])), ((qC 0), .inl (cI, 500, .inl g12))] H := by rw [eg12]; exact hP
  have hD : va_D A [(aC, .inr (2, [.ref (qC 0), .int 19, .int 0, .int (-1), .int 0, .ref (qC 5), .ref (qC 6), .ref (qC 7), .ref (qC 8), .ref (qC 9), .ref (qC 10)])), ((qC 0), .inl (cI, 500, .inl g12))] := by rw [eg12]; exact hD
  refine lv_aload_n hx hb dX2_takeFour_23 rfl (lv_at hl 1 rfl) ?_
  refine lv_dup hx hb dX2_takeFour_24 rfl ?_
  refine va_get (D := D) (ci := 2) (v := .int 19) (C := RX2) (T := TX2) (N := 11) hx hb htg iwG_2 hown hE.1 hP 0 rfl rfl 1 (by decide) (htg _ wm_35) (fun _ h9 => h9) rfl dX2_takeFour_25 ?_
  refine lv_iconst (v := 1) hx hb dX2_takeFour_28 (by decide +kernel) ?_
  refine lv_iadd hx hb dX2_takeFour_29 ?_
  refine g_top 20 (by decide +kernel) ?_
  refine va_put (D := D) (ci := 2) (v := .int 20) (ty := tyX2 1) (C := RX2) (T := TX2) (N := 11) hx hb htg iwG_2 tyX2 tyX2_ok nmX2 hown hE.1 hP hD hS 0 rfl rfl 1 (by decide) (htg _ wm_35) (fun _ h9 => h9) rfl (by decide +kernel) rfl rfl (Nat.le_of_ble_eq_true rfl) dX2_takeFour_30 (fun H locs hP hD hS => ?_)
  have hP : va_P D vwCl [(aC, .inr (2, [.ref (qC 0), .int 20, .int 0, .int (-1), .int 0, .ref (qC 5), .ref (qC 6), .ref (qC 7), .ref (qC 8), .ref (qC 9), .ref (qC 10)])), ((qC 0), .inl (cI, 500, .inl g12))] H := hP
  have hD : va_D A [(aC, .inr (2, [.ref (qC 0), .int 20, .int 0, .int (-1), .int 0, .ref (qC 5), .ref (qC 6), .ref (qC 7), .ref (qC 8), .ref (qC 9), .ref (qC 10)])), ((qC 0), .inl (cI, 500, .inl g12))] := hD
  refine lv_iinc (v := (-8)) (lv' := [(2, .int (-8)), (0, .ref aC), (1, .int y0)]) hx hb dX2_takeFour_33 hl (k := 0) rfl (by decide +kernel) (by decide) rfl (fun ls hl => ?_)
  refine lv_goto (tgt := 3) hx hb dX2_takeFour_36 (by decide) ?_
  refine lv_iload_n hx hb dX2_takeFour_3 rfl (lv_at hl 0 rfl) ?_
  refine lv_if_lt (tgt := 39) hx hb dX2_takeFour_4 (by decide) (fun _ => ?_) (fun c9 => absurd c9 (by decide +kernel))
  exact g_vret g12 hF hr hlocks (hP.sub [0, 1] rfl) (hD.sub [0, 1] rfl rfl) hS trivial dX2_takeFour_39 (Nat.le_of_ble_eq_true rfl) (Nat.le_of_ble_eq_true rfl)
set_option maxHeartbeats 8000000 in
set_option maxRecDepth 100000 in
theorem c_X2_takeBytes {l : Launch} {D : va_G} {cI cB cS cZ cW : ClassId} {aC : Nat} {y0 : Int32} {y1 : Int32} {y2 : Int32} {y3 : Int32} {y4 : Int32} {qC : Nat → Nat}  {sz : Nat} : MI l D (gT cI cB cS cZ cW) yX2_takeBytes (wG yX2_takeBytes cX2_takeBytes 6 (some .int)) { frames := 1, cells := 0, slots := 0, locals := 22 } [.ref aC, .int y0, .int y1, .int y2, .int y3, .int y4] [(aC, .inr (2, [.ref (qC 0), .int 0, .int 0, .int (-1), .int 0, .ref (qC 5), .ref (qC 6), .ref (qC 7), .ref (qC 8), .ref (qC 9), .ref (qC 10)])), ((qC 0), .inl (cI, 500, .inl (fun _ => 0)))] sz (fun (r : Int32) (u : Unit) => r = 20) (fun (u : Unit) => [] : (Unit) → va_W) 0 0 := by
  refine g_enter (y := yX2_takeBytes) (w := (wG yX2_takeBytes cX2_takeBytes 6 (some .int))) (As := [.ref aC, .int y0, .int y1, .int y2, .int y3, .int y4]) (D := D) (T := gT cI cB cS cZ cW) (ws := [(aC, .inr (2, [.ref (qC 0), .int 0, .int 0, .int (-1), .int 0, .ref (qC 5), .ref (qC 6), .ref (qC 7), .ref (qC 8), .ref (qC 9), .ref (qC 10)])), ((qC 0), .inl (cI, 500, .inl (fun _ => 0)))]) (gQi D (fun (r : Int32) (u : Unit) => r = 20) (fun (u : Unit) => [] : (Unit) → va_W)) (cc := cX2_takeBytes) (maxL := 6) (ret := (some .int)) (by decide) rfl (Nat.le_of_ble_eq_true rfl) ?_
  intro p e s m below meth c A ls hF hr hlocks hname hsz hE hA hP hD hS hl
  have hF : CallFix p m c cX2_takeBytes 6 s ([.ref aC, .int y0, .int y1, .int y2, .int y3, .int y4] : List Value).toArray (wG yX2_takeBytes cX2_takeBytes 6 (some .int)) RX2 := hF
  obtain ⟨hx, hb, hml, hown, hts⟩ := id hF
  have htg : ∀ w ∈ GL, w.before ([.ref aC, .int y0, .int y1, .int y2, .int y3, .int y4] : List Value).toArray s = true := fun w h => hts w (List.mem_cons_of_mem _ h)
  have hl : lv_has ls 6 [(0, .ref aC), (1, .int y0), (2, .int y1), (3, .int y2), (4, .int y3), (5, .int y4)] := hl
  have z20 := t_20
  have z500 := t_500
  refine lv_aload_n hx hb dX2_takeBytes_0 rfl (lv_at hl 0 rfl) ?_
  refine va_get (D := D) (ci := 2) (v := .int 0) (C := RX2) (T := TX2) (N := 11) hx hb htg iwG_2 hown hE.1 hP 0 rfl rfl 1 (by decide) (htg _ wm_35) (fun _ h9 => h9) rfl dX2_takeBytes_1 ?_
  refine lv_bipush (v := 20) hx hb dX2_takeBytes_4 (by decide +kernel) ?_
  refine lv_iadd hx hb dX2_takeBytes_6 ?_
  refine g_top 20 (by decide +kernel) ?_
  refine lv_sipush (v := 500) hx hb dX2_takeBytes_7 (by decide +kernel) ?_
  refine lv_icmp_le (tgt := 15) hx hb dX2_takeBytes_10 (by decide) (fun _ => ?_) (fun c9 => absurd c9 (by decide +kernel))
  refine lv_aload_n hx hb dX2_takeBytes_15 rfl (lv_at hl 0 rfl) ?_
  refine lv_iload_n hx hb dX2_takeBytes_16 rfl (lv_at hl 1 rfl) ?_
  refine g_av (D := D) (wc := [(aC, .inr (2, [.ref (qC 0), .int 0, .int 0, .int (-1), .int 0, .ref (qC 5), .ref (qC 6), .ref (qC 7), .ref (qC 8), .ref (qC 9), .ref (qC 10)])), ((qC 0), .inl (cI, 500, .inl (fun _ => 0)))]) (wr := []) hP hD hS hA [0, 1] [] rfl rfl rfl rfl (by decide) (fun hPc hDc => va_runV (As := [.int y0]) (rest := []) hF (c_X2_takeFour_0 (l := l) (D := D) (cI := cI) (cB := cB) (cS := cS) (cZ := cZ) (cW := cW) (aC := aC) (y0 := y0) (qC := qC) (g := (fun _ => 0))) (cwV 1 hts (gGV (fun _ h => List.mem_cons_of_mem _ h) wm_169 wm_170 wm_171 wm_88 wm_172) rfl rfl rfl (by decide +kernel) ⟨Nat.le_of_ble_eq_true rfl, Nat.le_of_ble_eq_true rfl⟩) (g_preV (q := (RX2, TX2, 11)) (ci := 2) (q0 := 0) hE hPc hDc rfl rfl) rfl rfl hl.1 rfl (lv_room (Nat.le_of_ble_eq_true rfl)) dX2_takeBytes_17 ⟨Nat.le_of_ble_eq_true rfl, Nat.le_of_ble_eq_true rfl⟩) (fun u2 H locs p3 hP hD hS => ?_)
  obtain ⟨g4, rfl⟩ : ∃ z, z = u2 := ⟨_, rfl⟩
  have hP : va_P D vwCl [(aC, .inr (2, [.ref (qC 0), .int 4, .int 0, .int (-1), .int 0, .ref (qC 5), .ref (qC 6), .ref (qC 7), .ref (qC 8), .ref (qC 9), .ref (qC 10)])), ((qC 0), .inl (cI, 500, .inl g4))] H := hP
  have hD : va_D A [(aC, .inr (2, [.ref (qC 0), .int 4, .int 0, .int (-1), .int 0, .ref (qC 5), .ref (qC 6), .ref (qC 7), .ref (qC 8), .ref (qC 9), .ref (qC 10)])), ((qC 0), .inl (cI, 500, .inl g4))] := hD
  refine lv_aload_n hx hb dX2_takeBytes_20 rfl (lv_at hl 0 rfl) ?_
  refine lv_iload_n hx hb dX2_takeBytes_21 rfl (lv_at hl 2 rfl) ?_
  refine g_av (D := D) (wc := [(aC, .inr (2, [.ref (qC 0), .int 4, .int 0, .int (-1), .int 0, .ref (qC 5), .ref (qC 6), .ref (qC 7), .ref (qC 8), .ref (qC 9), .ref (qC 10)])), ((qC 0), .inl (cI, 500, .inl g4))]) (wr := []) hP hD hS hA [0, 1] [] rfl rfl rfl rfl (by decide) (fun hPc hDc => va_runV (As := [.int y1]) (rest := []) hF (c_X2_takeFour_4 (l := l) (D := D) (cI := cI) (cB := cB) (cS := cS) (cZ := cZ) (cW := cW) (aC := aC) (y0 := y1) (qC := qC) (g := g4)) (cwV 1 hts (gGV (fun _ h => List.mem_cons_of_mem _ h) wm_169 wm_170 wm_171 wm_88 wm_172) rfl rfl rfl (by decide +kernel) ⟨Nat.le_of_ble_eq_true rfl, Nat.le_of_ble_eq_true rfl⟩) (g_preV (q := (RX2, TX2, 11)) (ci := 2) (q0 := 0) hE hPc hDc rfl rfl) rfl rfl hl.1 rfl (lv_room (Nat.le_of_ble_eq_true rfl)) dX2_takeBytes_22 ⟨Nat.le_of_ble_eq_true rfl, Nat.le_of_ble_eq_true rfl⟩) (fun u6 H locs p7 hP hD hS => ?_)
  obtain ⟨g8, rfl⟩ : ∃ z, z = u6 := ⟨_, rfl⟩
  have hP : va_P D vwCl [(aC, .inr (2, [.ref (qC 0), .int 8, .int 0, .int (-1), .int 0, .ref (qC 5), .ref (qC 6), .ref (qC 7), .ref (qC 8), .ref (qC 9), .ref (qC 10)])), ((qC 0), .inl (cI, 500, .inl g8))] H := hP
  have hD : va_D A [(aC, .inr (2, [.ref (qC 0), .int 8, .int 0, .int (-1), .int 0, .ref (qC 5), .ref (qC 6), .ref (qC 7), .ref (qC 8), .ref (qC 9), .ref (qC 10)])), ((qC 0), .inl (cI, 500, .inl g8))] := hD
  refine lv_aload_n hx hb dX2_takeBytes_25 rfl (lv_at hl 0 rfl) ?_
  refine lv_iload_n hx hb dX2_takeBytes_26 rfl (lv_at hl 3 rfl) ?_
  refine g_av (D := D) (wc := [(aC, .inr (2, [.ref (qC 0), .int 8, .int 0, .int (-1), .int 0, .ref (qC 5), .ref (qC 6), .ref (qC 7), .ref (qC 8), .ref (qC 9), .ref (qC 10)])), ((qC 0), .inl (cI, 500, .inl g8))]) (wr := []) hP hD hS hA [0, 1] [] rfl rfl rfl rfl (by decide) (fun hPc hDc => va_runV (As := [.int y2]) (rest := []) hF (c_X2_takeFour_8 (l := l) (D := D) (cI := cI) (cB := cB) (cS := cS) (cZ := cZ) (cW := cW) (aC := aC) (y0 := y2) (qC := qC) (g := g8)) (cwV 1 hts (gGV (fun _ h => List.mem_cons_of_mem _ h) wm_169 wm_170 wm_171 wm_88 wm_172) rfl rfl rfl (by decide +kernel) ⟨Nat.le_of_ble_eq_true rfl, Nat.le_of_ble_eq_true rfl⟩) (g_preV (q := (RX2, TX2, 11)) (ci := 2) (q0 := 0) hE hPc hDc rfl rfl) rfl rfl hl.1 rfl (lv_room (Nat.le_of_ble_eq_true rfl)) dX2_takeBytes_27 ⟨Nat.le_of_ble_eq_true rfl, Nat.le_of_ble_eq_true rfl⟩) (fun u10 H locs p11 hP hD hS => ?_)
  obtain ⟨g12, rfl⟩ : ∃ z, z = u10 := ⟨_, rfl⟩
  have hP : va_P D vwCl [(aC, .inr (2, [.ref (qC 0), .int 12, .int 0, .int (-1), .int 0, .ref (qC 5), .ref (qC 6), .ref (qC 7), .ref (qC 8), .ref (qC 9), .ref (qC 10)])), ((qC 0), .inl (cI, 500, .inl g12))] H := hP
  have hD : va_D A [(aC, .inr (2, [.ref (qC 0), .int 12, .int 0, .int (-1), .int 0, .ref (qC 5), .ref (qC 6), .ref (qC 7), .ref (qC 8), .ref (qC 9), .ref (qC 10)])), ((qC 0), .inl (cI, 500, .inl g12))] := hD
  refine lv_aload_n hx hb dX2_takeBytes_30 rfl (lv_at hl 0 rfl) ?_
  refine lv_iload hx hb dX2_takeBytes_31 (lv_at hl 4 rfl) ?_
  refine g_av (D := D) (wc := [(aC, .inr (2, [.ref (qC 0), .int 12, .int 0, .int (-1), .int 0, .ref (qC 5), .ref (qC 6), .ref (qC 7), .ref (qC 8), .ref (qC 9), .ref (qC 10)])), ((qC 0), .inl (cI, 500, .inl g12))]) (wr := []) hP hD hS hA [0, 1] [] rfl rfl rfl rfl (by decide) (fun hPc hDc => va_runV (As := [.int y3]) (rest := []) hF (c_X2_takeFour_12 (l := l) (D := D) (cI := cI) (cB := cB) (cS := cS) (cZ := cZ) (cW := cW) (aC := aC) (y0 := y3) (qC := qC) (g := g12)) (cwV 1 hts (gGV (fun _ h => List.mem_cons_of_mem _ h) wm_169 wm_170 wm_171 wm_88 wm_172) rfl rfl rfl (by decide +kernel) ⟨Nat.le_of_ble_eq_true rfl, Nat.le_of_ble_eq_true rfl⟩) (g_preV (q := (RX2, TX2, 11)) (ci := 2) (q0 := 0) hE hPc hDc rfl rfl) rfl rfl hl.1 rfl (lv_room (Nat.le_of_ble_eq_true rfl)) dX2_takeBytes_33 ⟨Nat.le_of_ble_eq_true rfl, Nat.le_of_ble_eq_true rfl⟩) (fun u14 H locs p15 hP hD hS => ?_)
  obtain ⟨g16, rfl⟩ : ∃ z, z = u14 := ⟨_, rfl⟩
  have hP : va_P D vwCl [(aC, .inr (2, [.ref (qC 0), .int 16, .int 0, .int (-1), .int 0, .ref (qC 5), .ref (qC 6), .ref (qC 7), .ref (qC 8), .ref (qC 9), .ref (qC 10)])), ((qC 0), .inl (cI, 500, .inl g16))] H := hP
  have hD : va_D A [(aC, .inr (2, [.ref (qC 0), .int 16, .int 0, .int (-1), .int 0, .ref (qC 5), .ref (qC 6), .ref (qC 7), .ref (qC 8), .ref (qC 9), .ref (qC 10)])), ((qC 0), .inl (cI, 500, .inl g16))] := hD
  refine lv_aload_n hx hb dX2_takeBytes_36 rfl (lv_at hl 0 rfl) ?_
  refine lv_iload hx hb dX2_takeBytes_37 (lv_at hl 5 rfl) ?_
  refine g_av (D := D) (wc := [(aC, .inr (2, [.ref (qC 0), .int 16, .int 0, .int (-1), .int 0, .ref (qC 5), .ref (qC 6), .ref (qC 7), .ref (qC 8), .ref (qC 9), .ref (qC 10)])), ((qC 0), .inl (cI, 500, .inl g16))]) (wr := []) hP hD hS hA [0, 1] [] rfl rfl rfl rfl (by decide) (fun hPc hDc => va_runV (As := [.int y4]) (rest := []) hF (c_X2_takeFour_16 (l := l) (D := D) (cI := cI) (cB := cB) (cS := cS) (cZ := cZ) (cW := cW) (aC := aC) (y0 := y4) (qC := qC) (g := g16)) (cwV 1 hts (gGV (fun _ h => List.mem_cons_of_mem _ h) wm_169 wm_170 wm_171 wm_88 wm_172) rfl rfl rfl (by decide +kernel) ⟨Nat.le_of_ble_eq_true rfl, Nat.le_of_ble_eq_true rfl⟩) (g_preV (q := (RX2, TX2, 11)) (ci := 2) (q0 := 0) hE hPc hDc rfl rfl) rfl rfl hl.1 rfl (lv_room (Nat.le_of_ble_eq_true rfl)) dX2_takeBytes_39 ⟨Nat.le_of_ble_eq_true rfl, Nat.le_of_ble_eq_true rfl⟩) (fun u18 H locs p19 hP hD hS => ?_)
  obtain ⟨g20, rfl⟩ : ∃ z, z = u18 := ⟨_, rfl⟩
  have hP : va_P D vwCl [(aC, .inr (2, [.ref (qC 0), .int 20, .int 0, .int (-1), .int 0, .ref (qC 5), .ref (qC 6), .ref (qC 7), .ref (qC 8), .ref (qC 9), .ref (qC 10)])), ((qC 0), .inl (cI, 500, .inl g20))] H := hP
  have hD : va_D A [(aC, .inr (2, [.ref (qC 0), .int 20, .int 0, .int (-1), .int 0, .ref (qC 5), .ref (qC 6), .ref (qC 7), .ref (qC 8), .ref (qC 9), .ref (qC 10)])), ((qC 0), .inl (cI, 500, .inl g20))] := hD
  refine lv_aload_n hx hb dX2_takeBytes_42 rfl (lv_at hl 0 rfl) ?_
  refine va_get (D := D) (ci := 2) (v := .int 20) (C := RX2) (T := TX2) (N := 11) hx hb htg iwG_2 hown hE.1 hP 0 rfl rfl 1 (by decide) (htg _ wm_35) (fun _ h9 => h9) rfl dX2_takeBytes_43 ?_
  exact g_iret () hF hr rfl hlocks (hP.sub [] rfl) (hD.sub [] rfl rfl) hS rfl dX2_takeBytes_46 (Nat.le_of_ble_eq_true rfl) (Nat.le_of_ble_eq_true rfl)
set_option maxHeartbeats 8000000 in
set_option maxRecDepth 100000 in
theorem c_X2_cutTo {l : Launch} {D : va_G} {cI cB cS cZ cW : ClassId} {aC : Nat} {y0 : Int32} {qC : Nat → Nat}  {sz : Nat} : MI l D (gT cI cB cS cZ cW) yX2_cutTo (wG yX2_cutTo cX2_cutTo 2 (some .int)) { frames := 0, cells := 0, slots := 0, locals := 0 } [.ref aC, .int y0] [(aC, .inr (2, [.ref (qC 0), .int 0, .int 0, .int (-1), .int 0, .ref (qC 5), .ref (qC 6), .ref (qC 7), .ref (qC 8), .ref (qC 9), .ref (qC 10)]))] sz (fun (r : Int32) (u : Unit) => r = S_end y0) (fun (u : Unit) => [] : (Unit) → va_W) 0 0 := by
  refine g_enter (y := yX2_cutTo) (w := (wG yX2_cutTo cX2_cutTo 2 (some .int))) (As := [.ref aC, .int y0]) (D := D) (T := gT cI cB cS cZ cW) (ws := [(aC, .inr (2, [.ref (qC 0), .int 0, .int 0, .int (-1), .int 0, .ref (qC 5), .ref (qC 6), .ref (qC 7), .ref (qC 8), .ref (qC 9), .ref (qC 10)]))]) (gQi D (fun (r : Int32) (u : Unit) => r = S_end y0) (fun (u : Unit) => [] : (Unit) → va_W)) (cc := cX2_cutTo) (maxL := 2) (ret := (some .int)) (by decide) rfl (Nat.le_of_ble_eq_true rfl) ?_
  intro p e s m below meth c A ls hF hr hlocks hname hsz hE hA hP hD hS hl
  have hF : CallFix p m c cX2_cutTo 2 s ([.ref aC, .int y0] : List Value).toArray (wG yX2_cutTo cX2_cutTo 2 (some .int)) RX2 := hF
  obtain ⟨hx, hb, hml, hown, hts⟩ := id hF
  have htg : ∀ w ∈ GL, w.before ([.ref aC, .int y0] : List Value).toArray s = true := fun w h => hts w (List.mem_cons_of_mem _ h)
  have hl : lv_has ls 2 [(0, .ref aC), (1, .int y0)] := hl
  have zm1 := tm_1
  have z0 := t_0
  refine lv_iload_n hx hb dX2_cutTo_0 rfl (lv_at hl 1 rfl) ?_
  refine lv_if_lt (tgt := 12) hx hb dX2_cutTo_1 (by decide) (fun c1 => ?_) (fun c1 => ?_)
  · rw [i_lt] at c1
    refine lv_iconst (v := (-1)) hx hb dX2_cutTo_12 (by decide +kernel) ?_
    exact g_iret () hF hr rfl hlocks (hP.sub [] rfl) (hD.sub [] rfl rfl) hS (by show (_ : Int32) = _; unfold S_end; (repeat' split) <;> first | rfl | (exfalso; omega) | omega) dX2_cutTo_13 (Nat.le_of_ble_eq_true rfl) (Nat.le_of_ble_eq_true rfl)
  · rw [i_lt] at c1
    refine lv_iload_n hx hb dX2_cutTo_4 rfl (lv_at hl 1 rfl) ?_
    refine lv_aload_n hx hb dX2_cutTo_5 rfl (lv_at hl 0 rfl) ?_
    refine va_get (D := D) (ci := 2) (v := .int 0) (C := RX2) (T := TX2) (N := 11) hx hb htg iwG_2 hown hE.1 hP 0 rfl rfl 1 (by decide) (htg _ wm_35) (fun _ h9 => h9) rfl dX2_cutTo_6 ?_
    refine lv_icmp_le (tgt := 14) hx hb dX2_cutTo_9 (by decide) (fun c2 => ?_) (fun c2 => ?_)
    · rw [i_le] at c2
      refine lv_aload_n hx hb dX2_cutTo_14 rfl (lv_at hl 0 rfl) ?_
      refine lv_iload_n hx hb dX2_cutTo_15 rfl (lv_at hl 1 rfl) ?_
      refine va_put (D := D) (ci := 2) (v := .int y0) (ty := tyX2 1) (C := RX2) (T := TX2) (N := 11) hx hb htg iwG_2 tyX2 tyX2_ok nmX2 hown hE.1 hP hD hS 0 rfl rfl 1 (by decide) (htg _ wm_35) (fun _ h9 => h9) rfl (by decide +kernel) rfl rfl (Nat.le_of_ble_eq_true rfl) dX2_cutTo_16 (fun H locs hP hD hS => ?_)
      have hP : va_P D vwCl [(aC, .inr (2, [.ref (qC 0), .int y0, .int 0, .int (-1), .int 0, .ref (qC 5), .ref (qC 6), .ref (qC 7), .ref (qC 8), .ref (qC 9), .ref (qC 10)]))] H := hP
      have hD : va_D A [(aC, .inr (2, [.ref (qC 0), .int y0, .int 0, .int (-1), .int 0, .ref (qC 5), .ref (qC 6), .ref (qC 7), .ref (qC 8), .ref (qC 9), .ref (qC 10)]))] := hD
      refine lv_iload_n hx hb dX2_cutTo_19 rfl (lv_at hl 1 rfl) ?_
      exact g_iret () hF hr rfl hlocks (hP.sub [] rfl) (hD.sub [] rfl rfl) hS (by show (_ : Int32) = _; unfold S_end; (repeat' split) <;> first | rfl | (exfalso; omega) | omega) dX2_cutTo_20 (Nat.le_of_ble_eq_true rfl) (Nat.le_of_ble_eq_true rfl)
    · rw [i_le] at c2
      refine lv_iconst (v := (-1)) hx hb dX2_cutTo_12 (by decide +kernel) ?_
      exact g_iret () hF hr rfl hlocks (hP.sub [] rfl) (hD.sub [] rfl rfl) hS (by show (_ : Int32) = _; unfold S_end; (repeat' split) <;> first | rfl | (exfalso; omega) | omega) dX2_cutTo_13 (Nat.le_of_ble_eq_true rfl) (Nat.le_of_ble_eq_true rfl)
set_option maxHeartbeats 8000000 in
set_option maxRecDepth 100000 in
theorem c_X2_faultFact {l : Launch} {D : va_G} {cI cB cS cZ cW : ClassId} {aC : Nat} {y0 : Int32} {qC : Nat → Nat}  {sz : Nat} : MI l D (gT cI cB cS cZ cW) yX2_faultFact (wG yX2_faultFact cX2_faultFact 2 (some .int)) { frames := 0, cells := 0, slots := 0, locals := 0 } [.ref aC, .int y0] [(aC, .inr (2, [.ref (qC 0), .int 0, .int 0, .int (-1), .int 0, .ref (qC 5), .ref (qC 6), .ref (qC 7), .ref (qC 8), .ref (qC 9), .ref (qC 10)]))] sz (fun (r : Int32) (u : Unit) => r = S_fault y0) (fun (u : Unit) => [] : (Unit) → va_W) 0 0 := by
  refine g_enter (y := yX2_faultFact) (w := (wG yX2_faultFact cX2_faultFact 2 (some .int))) (As := [.ref aC, .int y0]) (D := D) (T := gT cI cB cS cZ cW) (ws := [(aC, .inr (2, [.ref (qC 0), .int 0, .int 0, .int (-1), .int 0, .ref (qC 5), .ref (qC 6), .ref (qC 7), .ref (qC 8), .ref (qC 9), .ref (qC 10)]))]) (gQi D (fun (r : Int32) (u : Unit) => r = S_fault y0) (fun (u : Unit) => [] : (Unit) → va_W)) (cc := cX2_faultFact) (maxL := 2) (ret := (some .int)) (by decide) rfl (Nat.le_of_ble_eq_true rfl) ?_
  intro p e s m below meth c A ls hF hr hlocks hname hsz hE hA hP hD hS hl
  have hF : CallFix p m c cX2_faultFact 2 s ([.ref aC, .int y0] : List Value).toArray (wG yX2_faultFact cX2_faultFact 2 (some .int)) RX2 := hF
  obtain ⟨hx, hb, hml, hown, hts⟩ := id hF
  have htg : ∀ w ∈ GL, w.before ([.ref aC, .int y0] : List Value).toArray s = true := fun w h => hts w (List.mem_cons_of_mem _ h)
  have hl : lv_has ls 2 [(0, .ref aC), (1, .int y0)] := hl
  have zm1 := tm_1
  have z0 := t_0
  have z1 := t_1
  refine lv_iload_n hx hb dX2_faultFact_0 rfl (lv_at hl 1 rfl) ?_
  by_cases c1 : y0 = 0
  · subst c1
    refine lv_lookup (off := 27) (tgt := 28) hx hb dX2_faultFact_1 (by decide +kernel) (by decide +kernel) (by decide) ?_
    refine lv_aload_n hx hb dX2_faultFact_28 rfl (lv_at hl 0 rfl) ?_
    refine va_get (D := D) (ci := 2) (v := .int 0) (C := RX2) (T := TX2) (N := 11) hx hb htg iwG_2 hown hE.1 hP 0 rfl rfl 2 (by decide) (htg _ wm_36) (fun _ h9 => h9) rfl dX2_faultFact_29 ?_
    exact g_iret () hF hr rfl hlocks (hP.sub [] rfl) (hD.sub [] rfl rfl) hS (by show (_ : Int32) = _; unfold S_fault; (repeat' split) <;> first | rfl | (exfalso; omega) | omega) dX2_faultFact_32 (Nat.le_of_ble_eq_true rfl) (Nat.le_of_ble_eq_true rfl)
  rw [i_eq] at c1
  by_cases c2 : y0 = 1
  · subst c2
    refine lv_lookup (off := 32) (tgt := 33) hx hb dX2_faultFact_1 (by decide +kernel) (by decide +kernel) (by decide) ?_
    refine lv_aload_n hx hb dX2_faultFact_33 rfl (lv_at hl 0 rfl) ?_
    refine va_get (D := D) (ci := 2) (v := .int (-1)) (C := RX2) (T := TX2) (N := 11) hx hb htg iwG_2 hown hE.1 hP 0 rfl rfl 3 (by decide) (htg _ wm_37) (fun _ h9 => h9) rfl dX2_faultFact_34 ?_
    exact g_iret () hF hr rfl hlocks (hP.sub [] rfl) (hD.sub [] rfl rfl) hS (by show (_ : Int32) = _; unfold S_fault; (repeat' split) <;> first | rfl | (exfalso; omega) | omega) dX2_faultFact_37 (Nat.le_of_ble_eq_true rfl) (Nat.le_of_ble_eq_true rfl)
  rw [i_eq] at c2
  refine lv_lookup (off := 37) (tgt := 38) hx hb dX2_faultFact_1 (by decide +kernel) (by simp only [Op.lookupswitch.offset]; rw [if_neg (by omega), if_neg (by omega)]) (by decide) ?_
  refine lv_iconst (v := (-1)) hx hb dX2_faultFact_38 (by decide +kernel) ?_
  exact g_iret () hF hr rfl hlocks (hP.sub [] rfl) (hD.sub [] rfl rfl) hS (by show (_ : Int32) = _; unfold S_fault; (repeat' split) <;> first | rfl | (exfalso; omega) | omega) dX2_faultFact_39 (Nat.le_of_ble_eq_true rfl) (Nat.le_of_ble_eq_true rfl)
set_option maxHeartbeats 8000000 in
set_option maxRecDepth 100000 in
theorem c_X2_inForce {l : Launch} {D : va_G} {cI cB cS cZ cW : ClassId} {aC : Nat} {qC : Nat → Nat}  {sz : Nat} : MI l D (gT cI cB cS cZ cW) yX2_inForce (wG yX2_inForce cX2_inForce 3 (some .int)) { frames := 0, cells := 0, slots := 0, locals := 0 } [.ref aC, .int 0] [(aC, .inr (2, [.ref (qC 0), .int 0, .int 0, .int (-1), .int 0, .ref (qC 5), .ref (qC 6), .ref (qC 7), .ref (qC 8), .ref (qC 9), .ref (qC 10)]))] sz (fun (r : Int32) (u : Unit) => r = (-1)) (fun (u : Unit) => [(aC, .inr (2, [.ref (qC 0), .int 0, .int 0, .int (-1), .int 0, .ref (qC 5), .ref (qC 6), .ref (qC 7), .ref (qC 8), .ref (qC 9), .ref (qC 10)]))] : (Unit) → va_W) 0 0 := by
  refine g_enter (y := yX2_inForce) (w := (wG yX2_inForce cX2_inForce 3 (some .int))) (As := [.ref aC, .int 0]) (D := D) (T := gT cI cB cS cZ cW) (ws := [(aC, .inr (2, [.ref (qC 0), .int 0, .int 0, .int (-1), .int 0, .ref (qC 5), .ref (qC 6), .ref (qC 7), .ref (qC 8), .ref (qC 9), .ref (qC 10)]))]) (gQi D (fun (r : Int32) (u : Unit) => r = (-1)) (fun (u : Unit) => [(aC, .inr (2, [.ref (qC 0), .int 0, .int 0, .int (-1), .int 0, .ref (qC 5), .ref (qC 6), .ref (qC 7), .ref (qC 8), .ref (qC 9), .ref (qC 10)]))] : (Unit) → va_W)) (cc := cX2_inForce) (maxL := 3) (ret := (some .int)) (by decide) rfl (Nat.le_of_ble_eq_true rfl) ?_
  intro p e s m below meth c A ls hF hr hlocks hname hsz hE hA hP hD hS hl
  have hF : CallFix p m c cX2_inForce 3 s ([.ref aC, .int 0] : List Value).toArray (wG yX2_inForce cX2_inForce 3 (some .int)) RX2 := hF
  obtain ⟨hx, hb, hml, hown, hts⟩ := id hF
  have htg : ∀ w ∈ GL, w.before ([.ref aC, .int 0] : List Value).toArray s = true := fun w h => hts w (List.mem_cons_of_mem _ h)
  have hl : lv_has ls 3 [(0, .ref aC), (1, .int 0)] := hl
  have zm1 := tm_1
  have z0 := t_0
  have z1 := t_1
  refine lv_aload_n hx hb dX2_inForce_0 rfl (lv_at hl 0 rfl) ?_
  refine va_get (D := D) (ci := 2) (v := .int 0) (C := RX2) (T := TX2) (N := 11) hx hb htg iwG_2 hown hE.1 hP 0 rfl rfl 4 (by decide) (htg _ wm_38) (fun _ h9 => h9) rfl dX2_inForce_1 ?_
  refine lv_iconst (v := 1) hx hb dX2_inForce_4 (by decide +kernel) ?_
  refine lv_isub hx hb dX2_inForce_5 ?_
  refine g_top (-1) (by decide +kernel) ?_
  refine lv_istore_n (lv' := [(2, .int (-1)), (0, .ref aC), (1, .int 0)]) hx hb dX2_inForce_6 rfl hl (by decide) rfl (fun ls hl => ?_)
  refine lv_iload_n hx hb dX2_inForce_7 rfl (lv_at hl 0 rfl) ?_
  refine lv_if_lt (tgt := 29) hx hb dX2_inForce_8 (by decide) (fun _ => ?_) (fun c9 => absurd c9 (by decide +kernel))
  refine lv_iconst (v := (-1)) hx hb dX2_inForce_29 (by decide +kernel) ?_
  exact g_iret () hF hr rfl hlocks (hP.sub [0] rfl) (hD.sub [0] rfl rfl) hS rfl dX2_inForce_30 (Nat.le_of_ble_eq_true rfl) (Nat.le_of_ble_eq_true rfl)
set_option maxHeartbeats 8000000 in
set_option maxRecDepth 100000 in
theorem c_X7_byteAt {l : Launch} {D : va_G} {cI cB cS cZ cW : ClassId} {aR : Nat} {aC : Nat} {qC : Nat → Nat} {qR : Nat → Nat}  {sz : Nat} : MI l D (gT cI cB cS cZ cW) yX7_byteAt (wG yX7_byteAt cX7_byteAt 2 (some .int)) { frames := 0, cells := 0, slots := 0, locals := 0 } [.ref aR, .int 0] [(aC, .inr (2, [.ref (qC 0), .int 0, .int 0, .int (-1), .int 0, .ref (qC 5), .ref (qC 6), .ref (qC 7), .ref (qC 8), .ref (qC 9), .ref (qC 10)])), (aR, .inr (7, [.ref aC, .ref (qR 1), .ref (qR 2), .int 0, .int 0, .int (-1), .int (-1)]))] sz (fun (r : Int32) (u : Unit) => r = (-1)) (fun (u : Unit) => [(aC, .inr (2, [.ref (qC 0), .int 0, .int 0, .int (-1), .int 0, .ref (qC 5), .ref (qC 6), .ref (qC 7), .ref (qC 8), .ref (qC 9), .ref (qC 10)])), (aR, .inr (7, [.ref aC, .ref (qR 1), .ref (qR 2), .int 0, .int 0, .int (-1), .int (-1)]))] : (Unit) → va_W) 0 0 := by
  refine g_enter (y := yX7_byteAt) (w := (wG yX7_byteAt cX7_byteAt 2 (some .int))) (As := [.ref aR, .int 0]) (D := D) (T := gT cI cB cS cZ cW) (ws := [(aC, .inr (2, [.ref (qC 0), .int 0, .int 0, .int (-1), .int 0, .ref (qC 5), .ref (qC 6), .ref (qC 7), .ref (qC 8), .ref (qC 9), .ref (qC 10)])), (aR, .inr (7, [.ref aC, .ref (qR 1), .ref (qR 2), .int 0, .int 0, .int (-1), .int (-1)]))]) (gQi D (fun (r : Int32) (u : Unit) => r = (-1)) (fun (u : Unit) => [(aC, .inr (2, [.ref (qC 0), .int 0, .int 0, .int (-1), .int 0, .ref (qC 5), .ref (qC 6), .ref (qC 7), .ref (qC 8), .ref (qC 9), .ref (qC 10)])), (aR, .inr (7, [.ref aC, .ref (qR 1), .ref (qR 2), .int 0, .int 0, .int (-1), .int (-1)]))] : (Unit) → va_W)) (cc := cX7_byteAt) (maxL := 2) (ret := (some .int)) (by decide) rfl (Nat.le_of_ble_eq_true rfl) ?_
  intro p e s m below meth c A ls hF hr hlocks hname hsz hE hA hP hD hS hl
  have hF : CallFix p m c cX7_byteAt 2 s ([.ref aR, .int 0] : List Value).toArray (wG yX7_byteAt cX7_byteAt 2 (some .int)) RX7 := hF
  obtain ⟨hx, hb, hml, hown, hts⟩ := id hF
  have htg : ∀ w ∈ GL, w.before ([.ref aR, .int 0] : List Value).toArray s = true := fun w h => hts w (List.mem_cons_of_mem _ h)
  have hl : lv_has ls 2 [(0, .ref aR), (1, .int 0)] := hl
  have zm1 := tm_1
  have z0 := t_0
  refine lv_iload_n hx hb dX7_byteAt_0 rfl (lv_at hl 1 rfl) ?_
  refine lv_if_lt (tgt := 27) hx hb dX7_byteAt_1 (by decide) (fun c9 => absurd c9 (by decide +kernel)) (fun _ => ?_)
  refine lv_iload_n hx hb dX7_byteAt_4 rfl (lv_at hl 1 rfl) ?_
  refine lv_aload_n hx hb dX7_byteAt_5 rfl (lv_at hl 0 rfl) ?_
  refine va_get (D := D) (ci := 7) (v := .ref aC) (C := RX7) (T := TX7) (N := 7) hx hb htg iwG_7 hown hE.1 hP 1 rfl rfl 0 (by decide) (htg _ wm_129) (fun _ h9 => h9) rfl dX7_byteAt_6 ?_
  refine va_get (D := D) (ci := 2) (v := .int 0) (C := RX2) (T := TX2) (N := 11) hx hb htg iwG_2 hown hE.1 hP 0 rfl rfl 1 (by decide) (htg _ wm_173) (fun _ h9 => h9) rfl dX7_byteAt_9 ?_
  refine lv_icmp_ge (tgt := 27) hx hb dX7_byteAt_12 (by decide) (fun _ => ?_) (fun c9 => absurd c9 (by decide +kernel))
  refine lv_iconst (v := (-1)) hx hb dX7_byteAt_27 (by decide +kernel) ?_
  exact g_iret () hF hr rfl hlocks (hP.sub [0, 1] rfl) (hD.sub [0, 1] rfl rfl) hS rfl dX7_byteAt_28 (Nat.le_of_ble_eq_true rfl) (Nat.le_of_ble_eq_true rfl)
set_option maxHeartbeats 8000000 in
set_option maxRecDepth 100000 in
theorem c_X7_isBlank {l : Launch} {D : va_G} {cI cB cS cZ cW : ClassId}   {sz : Nat} : MI l D (gT cI cB cS cZ cW) yX7_isBlank (wG yX7_isBlank cX7_isBlank 1 (some .boolean)) { frames := 0, cells := 0, slots := 0, locals := 0 } [.int (-1)] [] sz (fun (r : Int32) (u : Unit) => r = 0) (fun (u : Unit) => [] : (Unit) → va_W) 0 0 := by
  refine g_enter (y := yX7_isBlank) (w := (wG yX7_isBlank cX7_isBlank 1 (some .boolean))) (As := [.int (-1)]) (D := D) (T := gT cI cB cS cZ cW) (ws := []) (gQi D (fun (r : Int32) (u : Unit) => r = 0) (fun (u : Unit) => [] : (Unit) → va_W)) (cc := cX7_isBlank) (maxL := 1) (ret := (some .boolean)) (by decide) rfl (Nat.le_of_ble_eq_true rfl) ?_
  intro p e s m below meth c A ls hF hr hlocks hname hsz hE hA hP hD hS hl
  have hF : CallFix p m c cX7_isBlank 1 s ([.int (-1)] : List Value).toArray (wG yX7_isBlank cX7_isBlank 1 (some .boolean)) RX7 := hF
  obtain ⟨hx, hb, hml, hown, hts⟩ := id hF
  have htg : ∀ w ∈ GL, w.before ([.int (-1)] : List Value).toArray s = true := fun w h => hts w (List.mem_cons_of_mem _ h)
  have hl : lv_has ls 1 [(0, .int (-1))] := hl
  have zm1 := tm_1
  have z0 := t_0
  have z10 := t_10
  have z32 := t_32
  refine lv_iload_n hx hb dX7_isBlank_0 rfl (lv_at hl 0 rfl) ?_
  refine lv_bipush (v := 10) hx hb dX7_isBlank_1 (by decide +kernel) ?_
  refine lv_icmp_eq (tgt := 12) hx hb dX7_isBlank_3 (by decide) (fun c9 => absurd c9 (by decide +kernel)) (fun _ => ?_)
  refine lv_iload_n hx hb dX7_isBlank_6 rfl (lv_at hl 0 rfl) ?_
  refine lv_bipush (v := 32) hx hb dX7_isBlank_7 (by decide +kernel) ?_
  refine lv_icmp_ne (tgt := 16) hx hb dX7_isBlank_9 (by decide) (fun _ => ?_) (fun c9 => absurd c9 (by decide +kernel))
  refine lv_iconst (v := 0) hx hb dX7_isBlank_16 (by decide +kernel) ?_
  exact g_iret () hF hr rfl hlocks (hP.sub [] rfl) (hD.sub [] rfl rfl) hS rfl dX7_isBlank_17 (Nat.le_of_ble_eq_true rfl) (Nat.le_of_ble_eq_true rfl)
set_option maxHeartbeats 8000000 in
set_option maxRecDepth 100000 in
theorem c_X7_isLetter {l : Launch} {D : va_G} {cI cB cS cZ cW : ClassId}   {sz : Nat} : MI l D (gT cI cB cS cZ cW) yX7_isLetter (wG yX7_isLetter cX7_isLetter 1 (some .boolean)) { frames := 0, cells := 0, slots := 0, locals := 0 } [.int (-1)] [] sz (fun (r : Int32) (u : Unit) => r = 0) (fun (u : Unit) => [] : (Unit) → va_W) 0 0 := by
  refine g_enter (y := yX7_isLetter) (w := (wG yX7_isLetter cX7_isLetter 1 (some .boolean))) (As := [.int (-1)]) (D := D) (T := gT cI cB cS cZ cW) (ws := []) (gQi D (fun (r : Int32) (u : Unit) => r = 0) (fun (u : Unit) => [] : (Unit) → va_W)) (cc := cX7_isLetter) (maxL := 1) (ret := (some .boolean)) (by decide) rfl (Nat.le_of_ble_eq_true rfl) ?_
  intro p e s m below meth c A ls hF hr hlocks hname hsz hE hA hP hD hS hl
  have hF : CallFix p m c cX7_isLetter 1 s ([.int (-1)] : List Value).toArray (wG yX7_isLetter cX7_isLetter 1 (some .boolean)) RX7 := hF
  obtain ⟨hx, hb, hml, hown, hts⟩ := id hF
  have htg : ∀ w ∈ GL, w.before ([.int (-1)] : List Value).toArray s = true := fun w h => hts w (List.mem_cons_of_mem _ h)
  have hl : lv_has ls 1 [(0, .int (-1))] := hl
  have zm1 := tm_1
  have z0 := t_0
  have z97 := t_97
  refine lv_iload_n hx hb dX7_isLetter_0 rfl (lv_at hl 0 rfl) ?_
  refine lv_bipush (v := 97) hx hb dX7_isLetter_1 (by decide +kernel) ?_
  refine lv_icmp_lt (tgt := 16) hx hb dX7_isLetter_3 (by decide) (fun _ => ?_) (fun c9 => absurd c9 (by decide +kernel))
  refine lv_iconst (v := 0) hx hb dX7_isLetter_16 (by decide +kernel) ?_
  exact g_iret () hF hr rfl hlocks (hP.sub [] rfl) (hD.sub [] rfl rfl) hS rfl dX7_isLetter_17 (Nat.le_of_ble_eq_true rfl) (Nat.le_of_ble_eq_true rfl)
set_option maxHeartbeats 8000000 in
set_option maxRecDepth 100000 in
theorem c_X7_isDigit {l : Launch} {D : va_G} {cI cB cS cZ cW : ClassId}   {sz : Nat} : MI l D (gT cI cB cS cZ cW) yX7_isDigit (wG yX7_isDigit cX7_isDigit 1 (some .boolean)) { frames := 0, cells := 0, slots := 0, locals := 0 } [.int (-1)] [] sz (fun (r : Int32) (u : Unit) => r = 0) (fun (u : Unit) => [] : (Unit) → va_W) 0 0 := by
  refine g_enter (y := yX7_isDigit) (w := (wG yX7_isDigit cX7_isDigit 1 (some .boolean))) (As := [.int (-1)]) (D := D) (T := gT cI cB cS cZ cW) (ws := []) (gQi D (fun (r : Int32) (u : Unit) => r = 0) (fun (u : Unit) => [] : (Unit) → va_W)) (cc := cX7_isDigit) (maxL := 1) (ret := (some .boolean)) (by decide) rfl (Nat.le_of_ble_eq_true rfl) ?_
  intro p e s m below meth c A ls hF hr hlocks hname hsz hE hA hP hD hS hl
  have hF : CallFix p m c cX7_isDigit 1 s ([.int (-1)] : List Value).toArray (wG yX7_isDigit cX7_isDigit 1 (some .boolean)) RX7 := hF
  obtain ⟨hx, hb, hml, hown, hts⟩ := id hF
  have htg : ∀ w ∈ GL, w.before ([.int (-1)] : List Value).toArray s = true := fun w h => hts w (List.mem_cons_of_mem _ h)
  have hl : lv_has ls 1 [(0, .int (-1))] := hl
  have zm1 := tm_1
  have z0 := t_0
  have z48 := t_48
  refine lv_iload_n hx hb dX7_isDigit_0 rfl (lv_at hl 0 rfl) ?_
  refine lv_bipush (v := 48) hx hb dX7_isDigit_1 (by decide +kernel) ?_
  refine lv_icmp_lt (tgt := 16) hx hb dX7_isDigit_3 (by decide) (fun _ => ?_) (fun c9 => absurd c9 (by decide +kernel))
  refine lv_iconst (v := 0) hx hb dX7_isDigit_16 (by decide +kernel) ?_
  exact g_iret () hF hr rfl hlocks (hP.sub [] rfl) (hD.sub [] rfl rfl) hS rfl dX7_isDigit_17 (Nat.le_of_ble_eq_true rfl) (Nat.le_of_ble_eq_true rfl)
set_option maxHeartbeats 8000000 in
set_option maxRecDepth 100000 in
theorem c_X7_stopOf {l : Launch} {D : va_G} {cI cB cS cZ cW : ClassId} {aR : Nat} {aC : Nat} {qC : Nat → Nat} {qR : Nat → Nat}  {sz : Nat} : MI l D (gT cI cB cS cZ cW) yX7_stopOf (wG yX7_stopOf cX7_stopOf 3 (some .int)) { frames := 1, cells := 0, slots := 0, locals := 40 } [.ref aR, .int 0] [(aC, .inr (2, [.ref (qC 0), .int 0, .int 0, .int (-1), .int 0, .ref (qC 5), .ref (qC 6), .ref (qC 7), .ref (qC 8), .ref (qC 9), .ref (qC 10)])), (aR, .inr (7, [.ref aC, .ref (qR 1), .ref (qR 2), .int 0, .int 0, .int (-1), .int (-1)]))] sz (fun (r : Int32) (u : Unit) => r = 0) (fun (u : Unit) => [(aC, .inr (2, [.ref (qC 0), .int 0, .int 0, .int (-1), .int 0, .ref (qC 5), .ref (qC 6), .ref (qC 7), .ref (qC 8), .ref (qC 9), .ref (qC 10)])), (aR, .inr (7, [.ref aC, .ref (qR 1), .ref (qR 2), .int 0, .int 0, .int (-1), .int (-1)]))] : (Unit) → va_W) 0 0 := by
  refine g_enter (y := yX7_stopOf) (w := (wG yX7_stopOf cX7_stopOf 3 (some .int))) (As := [.ref aR, .int 0]) (D := D) (T := gT cI cB cS cZ cW) (ws := [(aC, .inr (2, [.ref (qC 0), .int 0, .int 0, .int (-1), .int 0, .ref (qC 5), .ref (qC 6), .ref (qC 7), .ref (qC 8), .ref (qC 9), .ref (qC 10)])), (aR, .inr (7, [.ref aC, .ref (qR 1), .ref (qR 2), .int 0, .int 0, .int (-1), .int (-1)]))]) (gQi D (fun (r : Int32) (u : Unit) => r = 0) (fun (u : Unit) => [(aC, .inr (2, [.ref (qC 0), .int 0, .int 0, .int (-1), .int 0, .ref (qC 5), .ref (qC 6), .ref (qC 7), .ref (qC 8), .ref (qC 9), .ref (qC 10)])), (aR, .inr (7, [.ref aC, .ref (qR 1), .ref (qR 2), .int 0, .int 0, .int (-1), .int (-1)]))] : (Unit) → va_W)) (cc := cX7_stopOf) (maxL := 3) (ret := (some .int)) (by decide) rfl (Nat.le_of_ble_eq_true rfl) ?_
  intro p e s m below meth c A ls hF hr hlocks hname hsz hE hA hP hD hS hl
  have hF : CallFix p m c cX7_stopOf 3 s ([.ref aR, .int 0] : List Value).toArray (wG yX7_stopOf cX7_stopOf 3 (some .int)) RX7 := hF
  obtain ⟨hx, hb, hml, hown, hts⟩ := id hF
  have htg : ∀ w ∈ GL, w.before ([.ref aR, .int 0] : List Value).toArray s = true := fun w h => hts w (List.mem_cons_of_mem _ h)
  have hl : lv_has ls 3 [(0, .ref aR), (1, .int 0)] := hl
  have zm1 := tm_1
  have z0 := t_0
  have z1 := t_1
  refine lv_iload_n hx hb dX7_stopOf_0 rfl (lv_at hl 1 rfl) ?_
  refine lv_istore_n (lv' := [(2, .int 0), (0, .ref aR), (1, .int 0)]) hx hb dX7_stopOf_1 rfl hl (by decide) rfl (fun ls hl => ?_)
  refine lv_aload_n hx hb dX7_stopOf_2 rfl (lv_at hl 1 rfl) ?_
  refine lv_iload_n hx hb dX7_stopOf_3 rfl (lv_at hl 2 rfl) ?_
  refine g_ai (D := D) (wc := [(aC, .inr (2, [.ref (qC 0), .int 0, .int 0, .int (-1), .int 0, .ref (qC 5), .ref (qC 6), .ref (qC 7), .ref (qC 8), .ref (qC 9), .ref (qC 10)])), (aR, .inr (7, [.ref aC, .ref (qR 1), .ref (qR 2), .int 0, .int 0, .int (-1), .int (-1)]))]) (wr := []) hP hD hS hA [0, 1] [] rfl rfl rfl rfl (by decide) (fun hPc hDc => va_runV (As := [.int 0]) (rest := []) hF (c_X7_byteAt (l := l) (D := D) (cI := cI) (cB := cB) (cS := cS) (cZ := cZ) (cW := cW) (aR := aR) (aC := aC) (qC := qC) (qR := qR)) (cwV 1 hts (gGV (fun _ h => List.mem_cons_of_mem _ h) wm_174 wm_175 wm_176 wm_177 wm_178) rfl rfl rfl (by decide +kernel) ⟨Nat.le_of_ble_eq_true rfl, Nat.le_of_ble_eq_true rfl⟩) (g_preV (q := (RX7, TX7, 7)) (ci := 7) (q0 := 1) hE hPc hDc rfl rfl) rfl rfl hl.1 rfl (lv_room (Nat.le_of_ble_eq_true rfl)) dX7_stopOf_4 ⟨Nat.le_of_ble_eq_true rfl, Nat.le_of_ble_eq_true rfl⟩) (fun r1 u2 H locs p3 hP hD hS => ?_)
  have hP : va_P D vwCl [(aC, .inr (2, [.ref (qC 0), .int 0, .int 0, .int (-1), .int 0, .ref (qC 5), .ref (qC 6), .ref (qC 7), .ref (qC 8), .ref (qC 9), .ref (qC 10)])), (aR, .inr (7, [.ref aC, .ref (qR 1), .ref (qR 2), .int 0, .int 0, .int (-1), .int (-1)]))] H := hP
  have hD : va_D A [(aC, .inr (2, [.ref (qC 0), .int 0, .int 0, .int (-1), .int 0, .ref (qC 5), .ref (qC 6), .ref (qC 7), .ref (qC 8), .ref (qC 9), .ref (qC 10)])), (aR, .inr (7, [.ref aC, .ref (qR 1), .ref (qR 2), .int 0, .int 0, .int (-1), .int (-1)]))] := hD
  obtain rfl := p3
  refine g_ai (D := D) (wc := []) (wr := [(aC, .inr (2, [.ref (qC 0), .int 0, .int 0, .int (-1), .int 0, .ref (qC 5), .ref (qC 6), .ref (qC 7), .ref (qC 8), .ref (qC 9), .ref (qC 10)])), (aR, .inr (7, [.ref aC, .ref (qR 1), .ref (qR 2), .int 0, .int 0, .int (-1), .int (-1)]))]) hP hD hS hA [] [0, 1] rfl rfl rfl rfl (by decide) (fun hPc hDc => va_runS (As := [.int (-1)]) (rest := []) hF (c_X7_isLetter (l := l) (D := D) (cI := cI) (cB := cB) (cS := cS) (cZ := cZ) (cW := cW) ) (va_cwS 1 hts (gGS (fun _ h => List.mem_cons_of_mem _ h) wm_179 wm_180 wm_177 wm_181) rfl rfl rfl (by decide +kernel) ⟨Nat.le_of_ble_eq_true rfl, Nat.le_of_ble_eq_true rfl⟩) (g_preS hE hPc hDc) rfl rfl hl.1 rfl (lv_room (Nat.le_of_ble_eq_true rfl)) dX7_stopOf_7 ⟨Nat.le_of_ble_eq_true rfl, Nat.le_of_ble_eq_true rfl⟩) (fun r4 u5 H locs p6 hP hD hS => ?_)
  have hP : va_P D vwCl [(aC, .inr (2, [.ref (qC 0), .int 0, .int 0, .int (-1), .int 0, .ref (qC 5), .ref (qC 6), .ref (qC 7), .ref (qC 8), .ref (qC 9), .ref (qC 10)])), (aR, .inr (7, [.ref aC, .ref (qR 1), .ref (qR 2), .int 0, .int 0, .int (-1), .int (-1)]))] H := hP
  have hD : va_D A [(aC, .inr (2, [.ref (qC 0), .int 0, .int 0, .int (-1), .int 0, .ref (qC 5), .ref (qC 6), .ref (qC 7), .ref (qC 8), .ref (qC 9), .ref (qC 10)])), (aR, .inr (7, [.ref aC, .ref (qR 1), .ref (qR 2), .int 0, .int 0, .int (-1), .int (-1)]))] := hD
  obtain rfl := p6
  refine lv_if_eq (tgt := 43) hx hb dX7_stopOf_10 (by decide) (fun _ => ?_) (fun c9 => absurd c9 (by decide +kernel))
  refine lv_iload_n hx hb dX7_stopOf_43 rfl (lv_at hl 0 rfl) ?_
  refine lv_aload_n hx hb dX7_stopOf_44 rfl (lv_at hl 1 rfl) ?_
  refine va_get (D := D) (ci := 7) (v := .ref aC) (C := RX7) (T := TX7) (N := 7) hx hb htg iwG_7 hown hE.1 hP 1 rfl rfl 0 (by decide) (htg _ wm_129) (fun _ h9 => h9) rfl dX7_stopOf_45 ?_
  refine va_get (D := D) (ci := 2) (v := .int 0) (C := RX2) (T := TX2) (N := 11) hx hb htg iwG_2 hown hE.1 hP 0 rfl rfl 1 (by decide) (htg _ wm_173) (fun _ h9 => h9) rfl dX7_stopOf_48 ?_
  refine lv_icmp_ge (tgt := 71) hx hb dX7_stopOf_51 (by decide) (fun _ => ?_) (fun c9 => absurd c9 (by decide +kernel))
  refine lv_iload_n hx hb dX7_stopOf_71 rfl (lv_at hl 0 rfl) ?_
  refine lv_iload_n hx hb dX7_stopOf_72 rfl (lv_at hl 2 rfl) ?_
  refine lv_iconst (v := 1) hx hb dX7_stopOf_73 (by decide +kernel) ?_
  refine lv_iadd hx hb dX7_stopOf_74 ?_
  refine g_top 1 (by decide +kernel) ?_
  refine va_mmax hx hb (by rw [hml]; exact hl.1.symm) hown (htg _ wm_182) (htg _ wm_183) (htg _ wm_184) (htg _ wm_185) (Nat.le_of_ble_eq_true rfl) (Nat.le_of_ble_eq_true rfl) (Nat.le_of_ble_eq_true rfl) (Nat.le_of_ble_eq_true rfl) dX7_stopOf_75 ?_
  refine g_top 1 (by decide +kernel) ?_
  refine lv_aload_n hx hb dX7_stopOf_78 rfl (lv_at hl 1 rfl) ?_
  refine va_get (D := D) (ci := 7) (v := .ref aC) (C := RX7) (T := TX7) (N := 7) hx hb htg iwG_7 hown hE.1 hP 1 rfl rfl 0 (by decide) (htg _ wm_129) (fun _ h9 => h9) rfl dX7_stopOf_79 ?_
  refine va_get (D := D) (ci := 2) (v := .int 0) (C := RX2) (T := TX2) (N := 11) hx hb htg iwG_2 hown hE.1 hP 0 rfl rfl 1 (by decide) (htg _ wm_173) (fun _ h9 => h9) rfl dX7_stopOf_82 ?_
  refine va_mmin hx hb (by rw [hml]; exact hl.1.symm) hown (htg _ wm_186) (htg _ wm_187) (htg _ wm_184) (htg _ wm_188) (Nat.le_of_ble_eq_true rfl) (Nat.le_of_ble_eq_true rfl) (Nat.le_of_ble_eq_true rfl) (Nat.le_of_ble_eq_true rfl) dX7_stopOf_85 ?_
  refine g_top 0 (by decide +kernel) ?_
  exact g_iret () hF hr rfl hlocks (hP.sub [0, 1] rfl) (hD.sub [0, 1] rfl rfl) hS rfl dX7_stopOf_88 (Nat.le_of_ble_eq_true rfl) (Nat.le_of_ble_eq_true rfl)
set_option maxHeartbeats 8000000 in
set_option maxRecDepth 100000 in
theorem c_X7_tokenOf {l : Launch} {D : va_G} {cI cB cS cZ cW : ClassId} {aR : Nat} {aC : Nat} {qC : Nat → Nat} {qR : Nat → Nat}  {sz : Nat} : MI l D (gT cI cB cS cZ cW) yX7_tokenOf (wG yX7_tokenOf cX7_tokenOf 5 (some .int)) { frames := 1, cells := 0, slots := 0, locals := 21 } [.ref aR, .int 0, .int 0] [(aC, .inr (2, [.ref (qC 0), .int 0, .int 0, .int (-1), .int 0, .ref (qC 5), .ref (qC 6), .ref (qC 7), .ref (qC 8), .ref (qC 9), .ref (qC 10)])), (aR, .inr (7, [.ref aC, .ref (qR 1), .ref (qR 2), .int 0, .int 0, .int (-1), .int (-1)]))] sz (fun (r : Int32) (u : Unit) => r = 50) (fun (u : Unit) => [(aC, .inr (2, [.ref (qC 0), .int 0, .int 0, .int (-1), .int 0, .ref (qC 5), .ref (qC 6), .ref (qC 7), .ref (qC 8), .ref (qC 9), .ref (qC 10)])), (aR, .inr (7, [.ref aC, .ref (qR 1), .ref (qR 2), .int 0, .int 0, .int (-1), .int (-1)]))] : (Unit) → va_W) 0 0 := by
  refine g_enter (y := yX7_tokenOf) (w := (wG yX7_tokenOf cX7_tokenOf 5 (some .int))) (As := [.ref aR, .int 0, .int 0]) (D := D) (T := gT cI cB cS cZ cW) (ws := [(aC, .inr (2, [.ref (qC 0), .int 0, .int 0, .int (-1), .int 0, .ref (qC 5), .ref (qC 6), .ref (qC 7), .ref (qC 8), .ref (qC 9), .ref (qC 10)])), (aR, .inr (7, [.ref aC, .ref (qR 1), .ref (qR 2), .int 0, .int 0, .int (-1), .int (-1)]))]) (gQi D (fun (r : Int32) (u : Unit) => r = 50) (fun (u : Unit) => [(aC, .inr (2, [.ref (qC 0), .int 0, .int 0, .int (-1), .int 0, .ref (qC 5), .ref (qC 6), .ref (qC 7), .ref (qC 8), .ref (qC 9), .ref (qC 10)])), (aR, .inr (7, [.ref aC, .ref (qR 1), .ref (qR 2), .int 0, .int 0, .int (-1), .int (-1)]))] : (Unit) → va_W)) (cc := cX7_tokenOf) (maxL := 5) (ret := (some .int)) (by decide) rfl (Nat.le_of_ble_eq_true rfl) ?_
  intro p e s m below meth c A ls hF hr hlocks hname hsz hE hA hP hD hS hl
  have hF : CallFix p m c cX7_tokenOf 5 s ([.ref aR, .int 0, .int 0] : List Value).toArray (wG yX7_tokenOf cX7_tokenOf 5 (some .int)) RX7 := hF
  obtain ⟨hx, hb, hml, hown, hts⟩ := id hF
  have htg : ∀ w ∈ GL, w.before ([.ref aR, .int 0, .int 0] : List Value).toArray s = true := fun w h => hts w (List.mem_cons_of_mem _ h)
  have hl : lv_has ls 5 [(0, .ref aR), (1, .int 0), (2, .int 0)] := hl
  have zm1 := tm_1
  have z0 := t_0
  have z50 := t_50
  refine lv_aload_n hx hb dX7_tokenOf_0 rfl (lv_at hl 0 rfl) ?_
  refine lv_iload_n hx hb dX7_tokenOf_1 rfl (lv_at hl 1 rfl) ?_
  refine g_ai (D := D) (wc := [(aC, .inr (2, [.ref (qC 0), .int 0, .int 0, .int (-1), .int 0, .ref (qC 5), .ref (qC 6), .ref (qC 7), .ref (qC 8), .ref (qC 9), .ref (qC 10)])), (aR, .inr (7, [.ref aC, .ref (qR 1), .ref (qR 2), .int 0, .int 0, .int (-1), .int (-1)]))]) (wr := []) hP hD hS hA [0, 1] [] rfl rfl rfl rfl (by decide) (fun hPc hDc => va_runV (As := [.int 0]) (rest := []) hF (c_X7_byteAt (l := l) (D := D) (cI := cI) (cB := cB) (cS := cS) (cZ := cZ) (cW := cW) (aR := aR) (aC := aC) (qC := qC) (qR := qR)) (cwV 1 hts (gGV (fun _ h => List.mem_cons_of_mem _ h) wm_174 wm_175 wm_176 wm_177 wm_178) rfl rfl rfl (by decide +kernel) ⟨Nat.le_of_ble_eq_true rfl, Nat.le_of_ble_eq_true rfl⟩) (g_preV (q := (RX7, TX7, 7)) (ci := 7) (q0 := 1) hE hPc hDc rfl rfl) rfl rfl hl.1 rfl (lv_room (Nat.le_of_ble_eq_true rfl)) dX7_tokenOf_2 ⟨Nat.le_of_ble_eq_true rfl, Nat.le_of_ble_eq_true rfl⟩) (fun r1 u2 H locs p3 hP hD hS => ?_)
  have hP : va_P D vwCl [(aC, .inr (2, [.ref (qC 0), .int 0, .int 0, .int (-1), .int 0, .ref (qC 5), .ref (qC 6), .ref (qC 7), .ref (qC 8), .ref (qC 9), .ref (qC 10)])), (aR, .inr (7, [.ref aC, .ref (qR 1), .ref (qR 2), .int 0, .int 0, .int (-1), .int (-1)]))] H := hP
  have hD : va_D A [(aC, .inr (2, [.ref (qC 0), .int 0, .int 0, .int (-1), .int 0, .ref (qC 5), .ref (qC 6), .ref (qC 7), .ref (qC 8), .ref (qC 9), .ref (qC 10)])), (aR, .inr (7, [.ref aC, .ref (qR 1), .ref (qR 2), .int 0, .int 0, .int (-1), .int (-1)]))] := hD
  obtain rfl := p3
  refine lv_istore_n (lv' := [(3, .int (-1)), (0, .ref aR), (1, .int 0), (2, .int 0)]) hx hb dX7_tokenOf_5 rfl hl (by decide) rfl (fun ls hl => ?_)
  refine lv_iload_n hx hb dX7_tokenOf_6 rfl (lv_at hl 2 rfl) ?_
  refine lv_aload_n hx hb dX7_tokenOf_7 rfl (lv_at hl 1 rfl) ?_
  refine va_get (D := D) (ci := 7) (v := .ref aC) (C := RX7) (T := TX7) (N := 7) hx hb htg iwG_7 hown hE.1 hP 1 rfl rfl 0 (by decide) (htg _ wm_129) (fun _ h9 => h9) rfl dX7_tokenOf_8 ?_
  refine va_get (D := D) (ci := 2) (v := .int 0) (C := RX2) (T := TX2) (N := 11) hx hb htg iwG_2 hown hE.1 hP 0 rfl rfl 1 (by decide) (htg _ wm_173) (fun _ h9 => h9) rfl dX7_tokenOf_11 ?_
  refine lv_icmp_lt (tgt := 20) hx hb dX7_tokenOf_14 (by decide) (fun c9 => absurd c9 (by decide +kernel)) (fun _ => ?_)
  refine lv_bipush (v := 50) hx hb dX7_tokenOf_17 (by decide +kernel) ?_
  exact g_iret () hF hr rfl hlocks (hP.sub [0, 1] rfl) (hD.sub [0, 1] rfl rfl) hS rfl dX7_tokenOf_19 (Nat.le_of_ble_eq_true rfl) (Nat.le_of_ble_eq_true rfl)
set_option maxHeartbeats 8000000 in
set_option maxRecDepth 100000 in
theorem c_X7_split {l : Launch} {D : va_G} {cI cB cS cZ cW : ClassId} {aR : Nat} {aC : Nat} {qC : Nat → Nat} {qR : Nat → Nat}  {sz : Nat} : MV l D (gT cI cB cS cZ cW) yX7_split (wG yX7_split cX7_split 6 none) { frames := 2, cells := 0, slots := 0, locals := 62 } [.ref aR] [(aC, .inr (2, [.ref (qC 0), .int 0, .int 0, .int (-1), .int 0, .ref (qC 5), .ref (qC 6), .ref (qC 7), .ref (qC 8), .ref (qC 9), .ref (qC 10)])), (aR, .inr (7, [.ref aC, .ref (qR 1), .ref (qR 2), .int 0, .int 0, .int (-1), .int (-1)])), ((qR 1), .inl (cI, 501, .inl (fun _ => 0))), ((qR 2), .inl (cI, 501, .inl (fun _ => 0)))] sz (fun (u : (Nat → Int32) × (Nat → Int32)) => u.1 (0 : Int32).toNatClampNeg = 50) (fun (u : (Nat → Int32) × (Nat → Int32)) => [(aC, .inr (2, [.ref (qC 0), .int 0, .int 0, .int (-1), .int 0, .ref (qC 5), .ref (qC 6), .ref (qC 7), .ref (qC 8), .ref (qC 9), .ref (qC 10)])), (aR, .inr (7, [.ref aC, .ref (qR 1), .ref (qR 2), .int 0, .int 0, .int (-1), .int (-1)])), ((qR 1), .inl (cI, 501, .inl u.1)), ((qR 2), .inl (cI, 501, .inl u.2))] : ((Nat → Int32) × (Nat → Int32)) → va_W) 0 0 := by
  refine g_enter (y := yX7_split) (w := (wG yX7_split cX7_split 6 none)) (As := [.ref aR]) (D := D) (T := gT cI cB cS cZ cW) (ws := [(aC, .inr (2, [.ref (qC 0), .int 0, .int 0, .int (-1), .int 0, .ref (qC 5), .ref (qC 6), .ref (qC 7), .ref (qC 8), .ref (qC 9), .ref (qC 10)])), (aR, .inr (7, [.ref aC, .ref (qR 1), .ref (qR 2), .int 0, .int 0, .int (-1), .int (-1)])), ((qR 1), .inl (cI, 501, .inl (fun _ => 0))), ((qR 2), .inl (cI, 501, .inl (fun _ => 0)))]) (gQv D (fun (u : (Nat → Int32) × (Nat → Int32)) => u.1 (0 : Int32).toNatClampNeg = 50) (fun (u : (Nat → Int32) × (Nat → Int32)) => [(aC, .inr (2, [.ref (qC 0), .int 0, .int 0, .int (-1), .int 0, .ref (qC 5), .ref (qC 6), .ref (qC 7), .ref (qC 8), .ref (qC 9), .ref (qC 10)])), (aR, .inr (7, [.ref aC, .ref (qR 1), .ref (qR 2), .int 0, .int 0, .int (-1), .int (-1)])), ((qR 1), .inl (cI, 501, .inl u.1)), ((qR 2), .inl (cI, 501, .inl u.2))] : ((Nat → Int32) × (Nat → Int32)) → va_W)) (cc := cX7_split) (maxL := 6) (ret := none) (by decide) rfl (Nat.le_of_ble_eq_true rfl) ?_
  intro p e s m below meth c A ls hF hr hlocks hname hsz hE hA hP hD hS hl
  have hF : CallFix p m c cX7_split 6 s ([.ref aR] : List Value).toArray (wG yX7_split cX7_split 6 none) RX7 := hF
  obtain ⟨hx, hb, hml, hown, hts⟩ := id hF
  have htg : ∀ w ∈ GL, w.before ([.ref aR] : List Value).toArray s = true := fun w h => hts w (List.mem_cons_of_mem _ h)
  have hl : lv_has ls 6 [(0, .ref aR)] := hl
  have z0 := t_0
  have z1 := t_1
  have z50 := t_50
  have z500 := t_500
  refine lv_iconst (v := 0) hx hb dX7_split_0 (by decide +kernel) ?_
  refine lv_istore_n (lv' := [(1, .int 0), (0, .ref aR)]) hx hb dX7_split_1 rfl hl (by decide) rfl (fun ls hl => ?_)
  refine lv_iconst (v := 0) hx hb dX7_split_2 (by decide +kernel) ?_
  refine lv_istore_n (lv' := [(2, .int 0), (1, .int 0), (0, .ref aR)]) hx hb dX7_split_3 rfl hl (by decide) rfl (fun ls hl => ?_)
  refine lv_iconst (v := 1) hx hb dX7_split_4 (by decide +kernel) ?_
  refine lv_istore_n (lv' := [(3, .int 1), (2, .int 0), (1, .int 0), (0, .ref aR)]) hx hb dX7_split_5 rfl hl (by decide) rfl (fun ls hl => ?_)
  refine lv_iconst (v := 0) hx hb dX7_split_6 (by decide +kernel) ?_
  refine lv_istore (lv' := [(4, .int 0), (3, .int 1), (2, .int 0), (1, .int 0), (0, .ref aR)]) hx hb dX7_split_7 hl (by decide) rfl (fun ls hl => ?_)
  refine lv_iload hx hb dX7_split_9 (lv_at hl 0 rfl) ?_
  refine lv_sipush (v := 500) hx hb dX7_split_11 (by decide +kernel) ?_
  refine lv_icmp_gt (tgt := 116) hx hb dX7_split_14 (by decide) (fun c9 => absurd c9 (by decide +kernel)) (fun _ => ?_)
  refine lv_iload_n hx hb dX7_split_17 rfl (lv_at hl 1 rfl) ?_
  refine lv_if_eq (tgt := 116) hx hb dX7_split_18 (by decide) (fun c9 => absurd c9 (by decide +kernel)) (fun _ => ?_)
  refine lv_iload_n hx hb dX7_split_21 rfl (lv_at hl 3 rfl) ?_
  refine lv_aload_n hx hb dX7_split_22 rfl (lv_at hl 4 rfl) ?_
  refine va_get (D := D) (ci := 7) (v := .ref aC) (C := RX7) (T := TX7) (N := 7) hx hb htg iwG_7 hown hE.1 hP 1 rfl rfl 0 (by decide) (htg _ wm_129) (fun _ h9 => h9) rfl dX7_split_23 ?_
  refine va_get (D := D) (ci := 2) (v := .int 0) (C := RX2) (T := TX2) (N := 11) hx hb htg iwG_2 hown hE.1 hP 0 rfl rfl 1 (by decide) (htg _ wm_173) (fun _ h9 => h9) rfl dX7_split_26 ?_
  refine lv_icmp_ge (tgt := 49) hx hb dX7_split_29 (by decide) (fun _ => ?_) (fun c9 => absurd c9 (by decide +kernel))
  refine lv_aload_n hx hb dX7_split_49 rfl (lv_at hl 4 rfl) ?_
  refine lv_iload_n hx hb dX7_split_50 rfl (lv_at hl 3 rfl) ?_
  refine g_ai (D := D) (wc := [(aC, .inr (2, [.ref (qC 0), .int 0, .int 0, .int (-1), .int 0, .ref (qC 5), .ref (qC 6), .ref (qC 7), .ref (qC 8), .ref (qC 9), .ref (qC 10)])), (aR, .inr (7, [.ref aC, .ref (qR 1), .ref (qR 2), .int 0, .int 0, .int (-1), .int (-1)]))]) (wr := [((qR 1), .inl (cI, 501, .inl (fun _ => 0))), ((qR 2), .inl (cI, 501, .inl (fun _ => 0)))]) hP hD hS hA [0, 1] [2, 3] rfl rfl rfl rfl (by decide) (fun hPc hDc => va_runV (As := [.int 0]) (rest := []) hF (c_X7_stopOf (l := l) (D := D) (cI := cI) (cB := cB) (cS := cS) (cZ := cZ) (cW := cW) (aR := aR) (aC := aC) (qC := qC) (qR := qR)) (cwV 1 hts (gGV (fun _ h => List.mem_cons_of_mem _ h) wm_189 wm_190 wm_191 wm_177 wm_192) rfl rfl rfl (by decide +kernel) ⟨Nat.le_of_ble_eq_true rfl, Nat.le_of_ble_eq_true rfl⟩) (g_preV (q := (RX7, TX7, 7)) (ci := 7) (q0 := 1) hE hPc hDc rfl rfl) rfl rfl hl.1 rfl (lv_room (Nat.le_of_ble_eq_true rfl)) dX7_split_51 ⟨Nat.le_of_ble_eq_true rfl, Nat.le_of_ble_eq_true rfl⟩) (fun r1 u2 H locs p3 hP hD hS => ?_)
  have hP : va_P D vwCl [((qR 1), .inl (cI, 501, .inl (fun _ => 0))), ((qR 2), .inl (cI, 501, .inl (fun _ => 0))), (aC, .inr (2, [.ref (qC 0), .int 0, .int 0, .int (-1), .int 0, .ref (qC 5), .ref (qC 6), .ref (qC 7), .ref (qC 8), .ref (qC 9), .ref (qC 10)])), (aR, .inr (7, [.ref aC, .ref (qR 1), .ref (qR 2), .int 0, .int 0, .int (-1), .int (-1)]))] H := hP
  have hD : va_D A [((qR 1), .inl (cI, 501, .inl (fun _ => 0))), ((qR 2), .inl (cI, 501, .inl (fun _ => 0))), (aC, .inr (2, [.ref (qC 0), .int 0, .int 0, .int (-1), .int 0, .ref (qC 5), .ref (qC 6), .ref (qC 7), .ref (qC 8), .ref (qC 9), .ref (qC 10)])), (aR, .inr (7, [.ref aC, .ref (qR 1), .ref (qR 2), .int 0, .int 0, .int (-1), .int (-1)]))] := hD
  obtain rfl := p3
  refine lv_istore (lv' := [(5, .int 0), (4, .int 0), (3, .int 1), (2, .int 0), (1, .int 0), (0, .ref aR)]) hx hb dX7_split_54 hl (by decide) rfl (fun ls hl => ?_)
  refine lv_aload_n hx hb dX7_split_56 rfl (lv_at hl 5 rfl) ?_
  refine va_get (D := D) (ci := 7) (v := .ref (qR 2)) (C := RX7) (T := TX7) (N := 7) hx hb htg iwG_7 hown hE.1 hP 3 rfl rfl 2 (by decide) (htg _ wm_124) (fun _ h9 => h9) rfl dX7_split_57 ?_
  refine lv_iload_n hx hb dX7_split_60 rfl (lv_at hl 3 rfl) ?_
  refine lv_iload_n hx hb dX7_split_61 rfl (lv_at hl 4 rfl) ?_
  refine va_iast hx hb hE.1 hP hD hS 1 0 rfl rfl (vp_in_iff.mpr ⟨by decide +kernel, by decide +kernel⟩) dX7_split_62 (fun H locs hP hD hS => ?_)
  obtain ⟨g4, eg4, fg4⟩ : ∃ gz : Nat → Int32, gz = upd (fun _ => 0) (0 : Int32).toNatClampNeg 0 ∧ gz (0 : Int32).toNatClampNeg = 0 := ⟨_, rfl, pk_us⟩
  have hP : va_P D vwCl [((qR 1), .inl (cI, 501, .inl (fun _ => 0))), ((qR 2), .inl (cI, 501, .inl g4)), (aC, .inr (2, [.ref (qC 0), .int 0, .int 0, .int (-1), .int 0, .ref (qC 5), .ref (qC 6), .ref (qC 7), .ref (qC 8), .ref (qC 9), .ref (qC 10)])), (aR, .inr (7, [.ref aC, .ref (qR 1), .ref (qR 2), .int 0, .int 0, .int (-1), .int (-1)]))] H := by rw [eg4]; exact hP
  have hD : va_D A [((qR 1), .inl (cI, 501, .inl (fun _ => 0))), ((qR 2), .inl (cI, 501, .inl g4)), (aC, .inr (2, [.ref (qC 0), .int 0, .int 0, .int (-1), .int 0, .ref (qC 5), .ref (qC 6), .ref (qC 7), .ref (qC 8), .ref (qC 9), .ref (qC 10)])), (aR, .inr (7, [.ref aC, .ref (qR 1), .ref (qR 2), .int 0, .int 0, .int (-1), .int (-1)]))] := by rw [eg4]; exact hD
  refine lv_aload_n hx hb dX7_split_63 rfl (lv_at hl 5 rfl) ?_
  refine va_get (D := D) (ci := 7) (v := .ref (qR 1)) (C := RX7) (T := TX7) (N := 7) hx hb htg iwG_7 hown hE.1 hP 3 rfl rfl 1 (by decide) (htg _ wm_123) (fun _ h9 => h9) rfl dX7_split_64 ?_
  refine lv_iload_n hx hb dX7_split_67 rfl (lv_at hl 3 rfl) ?_
  refine lv_aload_n hx hb dX7_split_68 rfl (lv_at hl 5 rfl) ?_
  refine lv_iload_n hx hb dX7_split_69 rfl (lv_at hl 4 rfl) ?_
  refine lv_iload hx hb dX7_split_70 (lv_at hl 0 rfl) ?_
  refine g_ai (D := D) (wc := [(aC, .inr (2, [.ref (qC 0), .int 0, .int 0, .int (-1), .int 0, .ref (qC 5), .ref (qC 6), .ref (qC 7), .ref (qC 8), .ref (qC 9), .ref (qC 10)])), (aR, .inr (7, [.ref aC, .ref (qR 1), .ref (qR 2), .int 0, .int 0, .int (-1), .int (-1)]))]) (wr := [((qR 1), .inl (cI, 501, .inl (fun _ => 0))), ((qR 2), .inl (cI, 501, .inl g4))]) hP hD hS hA [2, 3] [0, 1] rfl rfl rfl rfl (by decide) (fun hPc hDc => va_runV (As := [.int 0, .int 0]) (rest := [.int 0, .ref (qR 1)]) hF (c_X7_tokenOf (l := l) (D := D) (cI := cI) (cB := cB) (cS := cS) (cZ := cZ) (cW := cW) (aR := aR) (aC := aC) (qC := qC) (qR := qR)) (cwV 2 hts (gGV (fun _ h => List.mem_cons_of_mem _ h) wm_193 wm_194 wm_195 wm_177 wm_196) rfl rfl rfl (by decide +kernel) ⟨Nat.le_of_ble_eq_true rfl, Nat.le_of_ble_eq_true rfl⟩) (g_preV (q := (RX7, TX7, 7)) (ci := 7) (q0 := 1) hE hPc hDc rfl rfl) rfl rfl hl.1 rfl (lv_room (Nat.le_of_ble_eq_true rfl)) dX7_split_72 ⟨Nat.le_of_ble_eq_true rfl, Nat.le_of_ble_eq_true rfl⟩) (fun r5 u6 H locs p7 hP hD hS => ?_)
  have hP : va_P D vwCl [((qR 1), .inl (cI, 501, .inl (fun _ => 0))), ((qR 2), .inl (cI, 501, .inl g4)), (aC, .inr (2, [.ref (qC 0), .int 0, .int 0, .int (-1), .int 0, .ref (qC 5), .ref (qC 6), .ref (qC 7), .ref (qC 8), .ref (qC 9), .ref (qC 10)])), (aR, .inr (7, [.ref aC, .ref (qR 1), .ref (qR 2), .int 0, .int 0, .int (-1), .int (-1)]))] H := hP
  have hD : va_D A [((qR 1), .inl (cI, 501, .inl (fun _ => 0))), ((qR 2), .inl (cI, 501, .inl g4)), (aC, .inr (2, [.ref (qC 0), .int 0, .int 0, .int (-1), .int 0, .ref (qC 5), .ref (qC 6), .ref (qC 7), .ref (qC 8), .ref (qC 9), .ref (qC 10)])), (aR, .inr (7, [.ref aC, .ref (qR 1), .ref (qR 2), .int 0, .int 0, .int (-1), .int (-1)]))] := hD
  obtain rfl := p7
  refine va_iast hx hb hE.1 hP hD hS 0 0 rfl rfl (vp_in_iff.mpr ⟨by decide +kernel, by decide +kernel⟩) dX7_split_75 (fun H locs hP hD hS => ?_)
  obtain ⟨g8, eg8, fg8⟩ : ∃ gz : Nat → Int32, gz = upd (fun _ => 0) (0 : Int32).toNatClampNeg 50 ∧ gz (0 : Int32).toNatClampNeg = 50 := ⟨_, rfl, pk_us⟩
  have hP : va_P D vwCl [((qR 1), .inl (cI, 501, .inl g8)), ((qR 2), .inl (cI, 501, .inl g4)), (aC, .inr (2, [.ref (qC 0), .int 0, .int 0, .int (-1), .int 0, .ref (qC 5), .ref (qC 6), .ref (qC 7), .ref (qC 8), .ref (qC 9), .ref (qC 10)])), (aR, .inr (7, [.ref aC, .ref (qR 1), .ref (qR 2), .int 0, .int 0, .int (-1), .int (-1)]))] H := by rw [eg8]; exact hP
  have hD : va_D A [((qR 1), .inl (cI, 501, .inl g8)), ((qR 2), .inl (cI, 501, .inl g4)), (aC, .inr (2, [.ref (qC 0), .int 0, .int 0, .int (-1), .int 0, .ref (qC 5), .ref (qC 6), .ref (qC 7), .ref (qC 8), .ref (qC 9), .ref (qC 10)])), (aR, .inr (7, [.ref aC, .ref (qR 1), .ref (qR 2), .int 0, .int 0, .int (-1), .int (-1)]))] := by rw [eg8]; exact hD
  refine lv_aload_n hx hb dX7_split_76 rfl (lv_at hl 5 rfl) ?_
  refine va_get (D := D) (ci := 7) (v := .ref (qR 1)) (C := RX7) (T := TX7) (N := 7) hx hb htg iwG_7 hown hE.1 hP 3 rfl rfl 1 (by decide) (htg _ wm_123) (fun _ h9 => h9) rfl dX7_split_77 ?_
  refine lv_iload_n hx hb dX7_split_80 rfl (lv_at hl 3 rfl) ?_
  refine va_iald hx hb hE.1 hP 0 0 rfl rfl (vp_in_iff.mpr ⟨by decide +kernel, by decide +kernel⟩) dX7_split_81 ?_
  refine g_top 50 fg8 ?_
  refine lv_bipush (v := 50) hx hb dX7_split_82 (by decide +kernel) ?_
  refine lv_icmp_eq (tgt := 102) hx hb dX7_split_84 (by decide) (fun _ => ?_) (fun c9 => absurd c9 (by decide +kernel))
  refine lv_iconst (v := 0) hx hb dX7_split_102 (by decide +kernel) ?_
  refine lv_istore_n (lv' := [(3, .int 0), (5, .int 0), (4, .int 0), (2, .int 0), (1, .int 0), (0, .ref aR)]) hx hb dX7_split_103 rfl hl (by decide) rfl (fun ls hl => ?_)
  refine lv_iinc (v := 1) (lv' := [(2, .int 1), (3, .int 0), (5, .int 0), (4, .int 0), (1, .int 0), (0, .ref aR)]) hx hb dX7_split_104 hl (k := 3) rfl (by decide +kernel) (by decide) rfl (fun ls hl => ?_)
  refine lv_iload hx hb dX7_split_107 (lv_at hl 2 rfl) ?_
  refine lv_istore_n (lv' := [(1, .int 0), (2, .int 1), (3, .int 0), (5, .int 0), (4, .int 0), (0, .ref aR)]) hx hb dX7_split_109 rfl hl (by decide) rfl (fun ls hl => ?_)
  refine lv_iinc (v := 1) (lv' := [(4, .int 1), (1, .int 0), (2, .int 1), (3, .int 0), (5, .int 0), (0, .ref aR)]) hx hb dX7_split_110 hl (k := 4) rfl (by decide +kernel) (by decide) rfl (fun ls hl => ?_)
  refine lv_goto (tgt := 9) hx hb dX7_split_113 (by decide) ?_
  refine lv_iload hx hb dX7_split_9 (lv_at hl 0 rfl) ?_
  refine lv_sipush (v := 500) hx hb dX7_split_11 (by decide +kernel) ?_
  refine lv_icmp_gt (tgt := 116) hx hb dX7_split_14 (by decide) (fun c9 => absurd c9 (by decide +kernel)) (fun _ => ?_)
  refine lv_iload_n hx hb dX7_split_17 rfl (lv_at hl 3 rfl) ?_
  refine lv_if_eq (tgt := 116) hx hb dX7_split_18 (by decide) (fun _ => ?_) (fun c9 => absurd c9 (by decide +kernel))
  exact g_vret (g8, g4) hF hr hlocks (hP.sub [2, 3, 0, 1] rfl) (hD.sub [2, 3, 0, 1] rfl rfl) hS fg8 dX7_split_116 (Nat.le_of_ble_eq_true rfl) (Nat.le_of_ble_eq_true rfl)
set_option maxHeartbeats 8000000 in
set_option maxRecDepth 100000 in
theorem c_X7_readText {l : Launch} {D : va_G} {cI cB cS cZ cW : ClassId} {aR : Nat} {aC : Nat} {qC : Nat → Nat} {qR : Nat → Nat} {g : Nat → Int32} (hg : g (0 : Int32).toNatClampNeg = 50) {sz : Nat} : MI l D (gT cI cB cS cZ cW) yX7_readText (wG yX7_readText cX7_readText 3 (some .int)) { frames := 0, cells := 0, slots := 0, locals := 0 } [.ref aR, .int 0] [(aC, .inr (2, [.ref (qC 0), .int 0, .int 0, .int (-1), .int 0, .ref (qC 5), .ref (qC 6), .ref (qC 7), .ref (qC 8), .ref (qC 9), .ref (qC 10)])), ((qC 6), .inl (cI, 4, .inl (fun _ => 0))), (aR, .inr (7, [.ref aC, .ref (qR 1), .ref (qR 2), .int 0, .int 0, .int (-1), .int (-1)])), ((qR 1), .inl (cI, 501, .inl g))] sz (fun (r : Int32) (u : Nat → Int32) => r = 0) (fun (u : Nat → Int32) => [(aC, .inr (2, [.ref (qC 0), .int 0, .int 0, .int (-1), .int 0, .ref (qC 5), .ref (qC 6), .ref (qC 7), .ref (qC 8), .ref (qC 9), .ref (qC 10)])), ((qC 6), .inl (cI, 4, .inl u)), (aR, .inr (7, [.ref aC, .ref (qR 1), .ref (qR 2), .int 0, .int 0, .int (-1), .int (-1)])), ((qR 1), .inl (cI, 501, .inl g))] : (Nat → Int32) → va_W) 0 0 := by
  refine g_enter (y := yX7_readText) (w := (wG yX7_readText cX7_readText 3 (some .int))) (As := [.ref aR, .int 0]) (D := D) (T := gT cI cB cS cZ cW) (ws := [(aC, .inr (2, [.ref (qC 0), .int 0, .int 0, .int (-1), .int 0, .ref (qC 5), .ref (qC 6), .ref (qC 7), .ref (qC 8), .ref (qC 9), .ref (qC 10)])), ((qC 6), .inl (cI, 4, .inl (fun _ => 0))), (aR, .inr (7, [.ref aC, .ref (qR 1), .ref (qR 2), .int 0, .int 0, .int (-1), .int (-1)])), ((qR 1), .inl (cI, 501, .inl g))]) (gQi D (fun (r : Int32) (u : Nat → Int32) => r = 0) (fun (u : Nat → Int32) => [(aC, .inr (2, [.ref (qC 0), .int 0, .int 0, .int (-1), .int 0, .ref (qC 5), .ref (qC 6), .ref (qC 7), .ref (qC 8), .ref (qC 9), .ref (qC 10)])), ((qC 6), .inl (cI, 4, .inl u)), (aR, .inr (7, [.ref aC, .ref (qR 1), .ref (qR 2), .int 0, .int 0, .int (-1), .int (-1)])), ((qR 1), .inl (cI, 501, .inl g))] : (Nat → Int32) → va_W)) (cc := cX7_readText) (maxL := 3) (ret := (some .int)) (by decide) rfl (Nat.le_of_ble_eq_true rfl) ?_
  intro p e s m below meth c A ls hF hr hlocks hname hsz hE hA hP hD hS hl
  have hF : CallFix p m c cX7_readText 3 s ([.ref aR, .int 0] : List Value).toArray (wG yX7_readText cX7_readText 3 (some .int)) RX7 := hF
  obtain ⟨hx, hb, hml, hown, hts⟩ := id hF
  have htg : ∀ w ∈ GL, w.before ([.ref aR, .int 0] : List Value).toArray s = true := fun w h => hts w (List.mem_cons_of_mem _ h)
  have hl : lv_has ls 3 [(0, .ref aR), (1, .int 0)] := hl
  have zm1 := tm_1
  have z0 := t_0
  have z50 := t_50
  have z500 := t_500
  refine lv_aload_n hx hb dX7_readText_0 rfl (lv_at hl 0 rfl) ?_
  refine lv_iload_n hx hb dX7_readText_1 rfl (lv_at hl 1 rfl) ?_
  refine va_put (D := D) (ci := 7) (v := .int 0) (ty := tyX7 4) (C := RX7) (T := TX7) (N := 7) hx hb htg iwG_7 tyX7 tyX7_ok nmX7 hown hE.1 hP hD hS 2 rfl rfl 4 (by decide) (htg _ wm_126) (fun _ h9 => h9) rfl (by decide +kernel) rfl rfl (Nat.le_of_ble_eq_true rfl) dX7_readText_2 (fun H locs hP hD hS => ?_)
  have hP : va_P D vwCl [(aC, .inr (2, [.ref (qC 0), .int 0, .int 0, .int (-1), .int 0, .ref (qC 5), .ref (qC 6), .ref (qC 7), .ref (qC 8), .ref (qC 9), .ref (qC 10)])), ((qC 6), .inl (cI, 4, .inl (fun _ => 0))), (aR, .inr (7, [.ref aC, .ref (qR 1), .ref (qR 2), .int 0, .int 0, .int (-1), .int (-1)])), ((qR 1), .inl (cI, 501, .inl g))] H := hP
  have hD : va_D A [(aC, .inr (2, [.ref (qC 0), .int 0, .int 0, .int (-1), .int 0, .ref (qC 5), .ref (qC 6), .ref (qC 7), .ref (qC 8), .ref (qC 9), .ref (qC 10)])), ((qC 6), .inl (cI, 4, .inl (fun _ => 0))), (aR, .inr (7, [.ref aC, .ref (qR 1), .ref (qR 2), .int 0, .int 0, .int (-1), .int (-1)])), ((qR 1), .inl (cI, 501, .inl g))] := hD
  refine lv_aload_n hx hb dX7_readText_5 rfl (lv_at hl 0 rfl) ?_
  refine lv_iconst (v := 0) hx hb dX7_readText_6 (by decide +kernel) ?_
  refine va_put (D := D) (ci := 7) (v := .int 0) (ty := tyX7 3) (C := RX7) (T := TX7) (N := 7) hx hb htg iwG_7 tyX7 tyX7_ok nmX7 hown hE.1 hP hD hS 2 rfl rfl 3 (by decide) (htg _ wm_125) (fun _ h9 => h9) rfl (by decide +kernel) rfl rfl (Nat.le_of_ble_eq_true rfl) dX7_readText_7 (fun H locs hP hD hS => ?_)
  have hP : va_P D vwCl [(aC, .inr (2, [.ref (qC 0), .int 0, .int 0, .int (-1), .int 0, .ref (qC 5), .ref (qC 6), .ref (qC 7), .ref (qC 8), .ref (qC 9), .ref (qC 10)])), ((qC 6), .inl (cI, 4, .inl (fun _ => 0))), (aR, .inr (7, [.ref aC, .ref (qR 1), .ref (qR 2), .int 0, .int 0, .int (-1), .int (-1)])), ((qR 1), .inl (cI, 501, .inl g))] H := hP
  have hD : va_D A [(aC, .inr (2, [.ref (qC 0), .int 0, .int 0, .int (-1), .int 0, .ref (qC 5), .ref (qC 6), .ref (qC 7), .ref (qC 8), .ref (qC 9), .ref (qC 10)])), ((qC 6), .inl (cI, 4, .inl (fun _ => 0))), (aR, .inr (7, [.ref aC, .ref (qR 1), .ref (qR 2), .int 0, .int 0, .int (-1), .int (-1)])), ((qR 1), .inl (cI, 501, .inl g))] := hD
  refine lv_aload_n hx hb dX7_readText_10 rfl (lv_at hl 0 rfl) ?_
  refine lv_iconst (v := (-1)) hx hb dX7_readText_11 (by decide +kernel) ?_
  refine va_put (D := D) (ci := 7) (v := .int (-1)) (ty := tyX7 6) (C := RX7) (T := TX7) (N := 7) hx hb htg iwG_7 tyX7 tyX7_ok nmX7 hown hE.1 hP hD hS 2 rfl rfl 6 (by decide) (htg _ wm_128) (fun _ h9 => h9) rfl (by decide +kernel) rfl rfl (Nat.le_of_ble_eq_true rfl) dX7_readText_12 (fun H locs hP hD hS => ?_)
  have hP : va_P D vwCl [(aC, .inr (2, [.ref (qC 0), .int 0, .int 0, .int (-1), .int 0, .ref (qC 5), .ref (qC 6), .ref (qC 7), .ref (qC 8), .ref (qC 9), .ref (qC 10)])), ((qC 6), .inl (cI, 4, .inl (fun _ => 0))), (aR, .inr (7, [.ref aC, .ref (qR 1), .ref (qR 2), .int 0, .int 0, .int (-1), .int (-1)])), ((qR 1), .inl (cI, 501, .inl g))] H := hP
  have hD : va_D A [(aC, .inr (2, [.ref (qC 0), .int 0, .int 0, .int (-1), .int 0, .ref (qC 5), .ref (qC 6), .ref (qC 7), .ref (qC 8), .ref (qC 9), .ref (qC 10)])), ((qC 6), .inl (cI, 4, .inl (fun _ => 0))), (aR, .inr (7, [.ref aC, .ref (qR 1), .ref (qR 2), .int 0, .int 0, .int (-1), .int (-1)])), ((qR 1), .inl (cI, 501, .inl g))] := hD
  refine lv_aload_n hx hb dX7_readText_15 rfl (lv_at hl 0 rfl) ?_
  refine va_get (D := D) (ci := 7) (v := .ref aC) (C := RX7) (T := TX7) (N := 7) hx hb htg iwG_7 hown hE.1 hP 2 rfl rfl 0 (by decide) (htg _ wm_129) (fun _ h9 => h9) rfl dX7_readText_16 ?_
  refine va_get (D := D) (ci := 2) (v := .ref (qC 6)) (C := RX2) (T := TX2) (N := 11) hx hb htg iwG_2 hown hE.1 hP 0 rfl rfl 6 (by decide) (htg _ wm_197) (fun _ h9 => h9) rfl dX7_readText_19 ?_
  refine lv_iload_n hx hb dX7_readText_22 rfl (lv_at hl 1 rfl) ?_
  refine lv_iconst (v := 0) hx hb dX7_readText_23 (by decide +kernel) ?_
  refine va_iast hx hb hE.1 hP hD hS 1 0 rfl rfl (vp_in_iff.mpr ⟨by decide +kernel, by decide +kernel⟩) dX7_readText_24 (fun H locs hP hD hS => ?_)
  obtain ⟨g1, eg1, fg1⟩ : ∃ gz : Nat → Int32, gz = upd (fun _ => 0) (0 : Int32).toNatClampNeg 0 ∧ gz (0 : Int32).toNatClampNeg = 0 := ⟨_, rfl, pk_us⟩
  have hP : va_P D vwCl [(aC, .inr (2, [.ref (qC 0), .int 0, .int 0, .int (-1), .int 0, .ref (qC 5), .ref (qC 6), .ref (qC 7), .ref (qC 8), .ref (qC 9), .ref (qC 10)])), ((qC 6), .inl (cI, 4, .inl g1)), (aR, .inr (7, [.ref aC, .ref (qR 1), .ref (qR 2), .int 0, .int 0, .int (-1), .int (-1)])), ((qR 1), .inl (cI, 501, .inl g))] H := by rw [eg1]; exact hP
  have hD : va_D A [(aC, .inr (2, [.ref (qC 0), .int 0, .int 0, .int (-1), .int 0, .ref (qC 5), .ref (qC 6), .ref (qC 7), .ref (qC 8), .ref (qC 9), .ref (qC 10)])), ((qC 6), .inl (cI, 4, .inl g1)), (aR, .inr (7, [.ref aC, .ref (qR 1), .ref (qR 2), .int 0, .int 0, .int (-1), .int (-1)])), ((qR 1), .inl (cI, 501, .inl g))] := by rw [eg1]; exact hD
  refine lv_iconst (v := 0) hx hb dX7_readText_25 (by decide +kernel) ?_
  refine lv_istore_n (lv' := [(2, .int 0), (0, .ref aR), (1, .int 0)]) hx hb dX7_readText_26 rfl hl (by decide) rfl (fun ls hl => ?_)
  refine lv_iload_n hx hb dX7_readText_27 rfl (lv_at hl 0 rfl) ?_
  refine lv_sipush (v := 500) hx hb dX7_readText_28 (by decide +kernel) ?_
  refine lv_icmp_ge (tgt := 87) hx hb dX7_readText_31 (by decide) (fun c9 => absurd c9 (by decide +kernel)) (fun _ => ?_)
  refine lv_aload_n hx hb dX7_readText_34 rfl (lv_at hl 1 rfl) ?_
  refine va_get (D := D) (ci := 7) (v := .ref (qR 1)) (C := RX7) (T := TX7) (N := 7) hx hb htg iwG_7 hown hE.1 hP 2 rfl rfl 1 (by decide) (htg _ wm_123) (fun _ h9 => h9) rfl dX7_readText_35 ?_
  refine lv_aload_n hx hb dX7_readText_38 rfl (lv_at hl 1 rfl) ?_
  refine va_get (D := D) (ci := 7) (v := .int 0) (C := RX7) (T := TX7) (N := 7) hx hb htg iwG_7 hown hE.1 hP 2 rfl rfl 3 (by decide) (htg _ wm_125) (fun _ h9 => h9) rfl dX7_readText_39 ?_
  refine va_iald hx hb hE.1 hP 3 0 rfl rfl (vp_in_iff.mpr ⟨by decide +kernel, by decide +kernel⟩) dX7_readText_42 ?_
  refine g_top 50 hg ?_
  refine lv_bipush (v := 50) hx hb dX7_readText_43 (by decide +kernel) ?_
  refine lv_icmp_eq (tgt := 87) hx hb dX7_readText_45 (by decide) (fun _ => ?_) (fun c9 => absurd c9 (by decide +kernel))
  refine lv_aload_n hx hb dX7_readText_87 rfl (lv_at hl 1 rfl) ?_
  refine lv_aload_n hx hb dX7_readText_88 rfl (lv_at hl 1 rfl) ?_
  refine va_get (D := D) (ci := 7) (v := .int (-1)) (C := RX7) (T := TX7) (N := 7) hx hb htg iwG_7 hown hE.1 hP 2 rfl rfl 6 (by decide) (htg _ wm_128) (fun _ h9 => h9) rfl dX7_readText_89 ?_
  refine va_put (D := D) (ci := 7) (v := .int (-1)) (ty := tyX7 5) (C := RX7) (T := TX7) (N := 7) hx hb htg iwG_7 tyX7 tyX7_ok nmX7 hown hE.1 hP hD hS 2 rfl rfl 5 (by decide) (htg _ wm_127) (fun _ h9 => h9) rfl (by decide +kernel) rfl rfl (Nat.le_of_ble_eq_true rfl) dX7_readText_92 (fun H locs hP hD hS => ?_)
  have hP : va_P D vwCl [(aC, .inr (2, [.ref (qC 0), .int 0, .int 0, .int (-1), .int 0, .ref (qC 5), .ref (qC 6), .ref (qC 7), .ref (qC 8), .ref (qC 9), .ref (qC 10)])), ((qC 6), .inl (cI, 4, .inl g1)), (aR, .inr (7, [.ref aC, .ref (qR 1), .ref (qR 2), .int 0, .int 0, .int (-1), .int (-1)])), ((qR 1), .inl (cI, 501, .inl g))] H := hP
  have hD : va_D A [(aC, .inr (2, [.ref (qC 0), .int 0, .int 0, .int (-1), .int 0, .ref (qC 5), .ref (qC 6), .ref (qC 7), .ref (qC 8), .ref (qC 9), .ref (qC 10)])), ((qC 6), .inl (cI, 4, .inl g1)), (aR, .inr (7, [.ref aC, .ref (qR 1), .ref (qR 2), .int 0, .int 0, .int (-1), .int (-1)])), ((qR 1), .inl (cI, 501, .inl g))] := hD
  refine lv_aload_n hx hb dX7_readText_95 rfl (lv_at hl 1 rfl) ?_
  refine va_get (D := D) (ci := 7) (v := .int (-1)) (C := RX7) (T := TX7) (N := 7) hx hb htg iwG_7 hown hE.1 hP 2 rfl rfl 6 (by decide) (htg _ wm_128) (fun _ h9 => h9) rfl dX7_readText_96 ?_
  refine lv_iconst (v := (-1)) hx hb dX7_readText_99 (by decide +kernel) ?_
  refine lv_icmp_ne (tgt := 107) hx hb dX7_readText_100 (by decide) (fun c9 => absurd c9 (by decide +kernel)) (fun _ => ?_)
  refine lv_iconst (v := 0) hx hb dX7_readText_103 (by decide +kernel) ?_
  refine lv_goto (tgt := 108) hx hb dX7_readText_104 (by decide) ?_
  exact g_iret g1 hF hr rfl hlocks (hP.sub [0, 1, 2, 3] rfl) (hD.sub [0, 1, 2, 3] rfl rfl) hS rfl dX7_readText_108 (Nat.le_of_ble_eq_true rfl) (Nat.le_of_ble_eq_true rfl)
