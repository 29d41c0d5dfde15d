set_option maxHeartbeats 8000000 in
set_option maxRecDepth 100000 in
theorem c_X2_takeFour_4 {l : Launch} {D : va_G} {cI cB cS cZ cW : ClassId} {aC : Nat} {y0 : Int32} {qC : Nat → Nat} {g : Nat → Int32}  {sz : Nat} : MV l D (gT cI cB cS cZ cW) yX2_takeFour (wG yX2_takeFour cX2_takeFour 3 none) { frames := 0, cells := 0, slots := 0, locals := 0 } [.ref aC, .int y0] [(aC, .inr (2, [.ref (qC 0), .int 4, .int 0, .int (-1), .int 0, .ref (qC 5), .ref (qC 6), .ref (qC 7), .ref (qC 8), .ref (qC 9), .ref (qC 10)])), ((qC 0), .inl (cI, 500, .inl g))] sz (fun (u : Nat → Int32) => True) (fun (u : Nat → Int32) => [(aC, .inr (2, [.ref (qC 0), .int 8, .int 0, .int (-1), .int 0, .ref (qC 5), .ref (qC 6), .ref (qC 7), .ref (qC 8), .ref (qC 9), .ref (qC 10)])), ((qC 0), .inl (cI, 500, .inl u))] : (Nat → Int32) → va_W) 0 0 := by
  refine g_enter (y := yX2_takeFour) (w := (wG yX2_takeFour cX2_takeFour 3 none)) (As := [.ref aC, .int y0]) (D := D) (T := gT cI cB cS cZ cW) (ws := [(aC, .inr (2, [.ref (qC 0), .int 4, .int 0, .int (-1), .int 0, .ref (qC 5), .ref (qC 6), .ref (qC 7), .ref (qC 8), .ref (qC 9), .ref (qC 10)])), ((qC 0), .inl (cI, 500, .inl g))]) (gQv D (fun (u : Nat → Int32) => True) (fun (u : Nat → Int32) => [(aC, .inr (2, [.ref (qC 0), .int 8, .int 0, .int (-1), .int 0, .ref (qC 5), .ref (qC 6), .ref (qC 7), .ref (qC 8), .ref (qC 9), .ref (qC 10)])), ((qC 0), .inl (cI, 500, .inl u))] : (Nat → Int32) → va_W)) (cc := cX2_takeFour) (maxL := 3) (ret := none) (by decide) rfl (Nat.le_of_ble_eq_true rfl) ?_
  intro p e s m below meth c A ls hF hr hlocks hname hsz hE hA hP hD hS hl
  have hF : CallFix p m c cX2_takeFour 3 s ([.ref aC, .int y0] : List Value).toArray (wG yX2_takeFour cX2_takeFour 3 none) RX2 := hF
  obtain ⟨hx, hb, hml, hown, hts⟩ := id hF
  have htg : ∀ w ∈ GL, w.before ([.ref aC, .int y0] : List Value).toArray s = true := fun w h => hts w (List.mem_cons_of_mem _ h)
  have hl : lv_has ls 3 [(0, .ref aC), (1, .int y0)] := hl
  have zm8 := tm_8
  have z0 := t_0
  have z1 := t_1
  have z5 := t_5
  have z6 := t_6
  have z7 := t_7
  have z8 := t_8
  have z16 := t_16
  have z24 := t_24
  have z255 := t_255
  refine lv_bipush (v := 24) hx hb dX2_takeFour_0 (by decide +kernel) ?_
  refine lv_istore_n (lv' := [(2, .int 24), (0, .ref aC), (1, .int y0)]) hx hb dX2_takeFour_2 rfl hl (by decide) rfl (fun ls hl => ?_)
  refine lv_iload_n hx hb dX2_takeFour_3 rfl (lv_at hl 0 rfl) ?_
  refine lv_if_lt (tgt := 39) hx hb dX2_takeFour_4 (by decide) (fun c9 => absurd c9 (by decide +kernel)) (fun _ => ?_)
  refine lv_aload_n hx hb dX2_takeFour_7 rfl (lv_at hl 1 rfl) ?_
  refine va_get (D := D) (ci := 2) (v := .ref (qC 0)) (C := RX2) (T := TX2) (N := 11) hx hb htg iwG_2 hown hE.1 hP 0 rfl rfl 0 (by decide) (htg _ wm_34) (fun _ h9 => h9) rfl dX2_takeFour_8 ?_
  refine lv_aload_n hx hb dX2_takeFour_11 rfl (lv_at hl 1 rfl) ?_
  refine va_get (D := D) (ci := 2) (v := .int 4) (C := RX2) (T := TX2) (N := 11) hx hb htg iwG_2 hown hE.1 hP 0 rfl rfl 1 (by decide) (htg _ wm_35) (fun _ h9 => h9) rfl dX2_takeFour_12 ?_
  refine lv_iload_n hx hb dX2_takeFour_15 rfl (lv_at hl 2 rfl) ?_
  refine lv_iload_n hx hb dX2_takeFour_16 rfl (lv_at hl 0 rfl) ?_
  refine lv_ishr hx hb dX2_takeFour_17 ?_
  refine lv_topi (fun v1 ev1 => ?_)
  refine lv_sipush (v := 255) hx hb dX2_takeFour_18 (by decide +kernel) ?_
  refine lv_iand hx hb dX2_takeFour_21 ?_
  refine lv_topi (fun v2 ev2 => ?_)
  refine va_iast hx hb hE.1 hP hD hS 1 0 rfl rfl (vp_in_iff.mpr ⟨by decide +kernel, by decide +kernel⟩) dX2_takeFour_22 (fun H locs hP hD hS => ?_)
  obtain ⟨g3, eg3⟩ : ∃ gz : Nat → Int32, gz = upd g (4 : Int32).toNatClampNeg v2 := ⟨_, rfl⟩
  have hP : va_P D vwCl [(aC, .inr (2, [.ref (qC 0), .int 4, .int 0, .int (-1), .int 0, .ref (qC 5), .ref (qC 6), .ref (qC 7), .ref (qC 8), .ref (qC 9), .ref (qC 10)])), ((qC 0), .inl (cI, 500, .inl g3))] H := by rw [eg3]; exact hP
  have hD : va_D A [(aC, .inr (2, [.ref (qC 0), .int 4, .int 0, .int (-1), .int 0, .ref (qC 5), .ref (qC 6), .ref (qC 7), .ref (qC 8), .ref (qC 9), .ref (qC 10)])), ((qC 0), .inl (cI, 500, .inl g3))] := by rw [eg3]; exact hD
  refine lv_aload_n hx hb dX2_takeFour_23 rfl (lv_at hl 1 rfl) ?_
  refine lv_dup hx hb dX2_takeFour_24 rfl ?_
  refine va_get (D := D) (ci := 2) (v := .int 4) (C := RX2) (T := TX2) (N := 11) hx hb htg iwG_2 hown hE.1 hP 0 rfl rfl 1 (by decide) (htg _ wm_35) (fun _ h9 => h9) rfl dX2_takeFour_25 ?_
  refine lv_iconst (v := 1) hx hb dX2_takeFour_28 (by decide +kernel) ?_
  refine lv_iadd hx hb dX2_takeFour_29 ?_
  refine g_top 5 (by decide +kernel) ?_
  refine va_put (D := D) (ci := 2) (v := .int 5) (ty := tyX2 1) (C := RX2) (T := TX2) (N := 11) hx hb htg iwG_2 tyX2 tyX2_ok nmX2 hown hE.1 hP hD hS 0 rfl rfl 1 (by decide) (htg _ wm_35) (fun _ h9 => h9) rfl (by decide +kernel) rfl rfl (Nat.le_of_ble_eq_true rfl) dX2_takeFour_30 (fun H locs hP hD hS => ?_)
  have hP : va_P D vwCl [(aC, .inr (2, [.ref (qC 0), .int 5, .int 0, .int (-1), .int 0, .ref (qC 5), .ref (qC 6), .ref (qC 7), .ref (qC 8), .ref (qC 9), .ref (qC 10)])), ((qC 0), .inl (cI, 500, .inl g3))] H := hP
  have hD : va_D A [(aC, .inr (2, [.ref (qC 0), .int 5, .int 0, .int (-1), .int 0, .ref (qC 5), .ref (qC 6), .ref (qC 7), .ref (qC 8), .ref (qC 9), .ref (qC 10)])), ((qC 0), .inl (cI, 500, .inl g3))] := hD
  refine lv_iinc (v := 16) (lv' := [(2, .int 16), (0, .ref aC), (1, .int y0)]) hx hb dX2_takeFour_33 hl (k := 0) rfl (by decide +kernel) (by decide) rfl (fun ls hl => ?_)
  refine lv_goto (tgt := 3) hx hb dX2_takeFour_36 (by decide) ?_
  refine lv_iload_n hx hb dX2_takeFour_3 rfl (lv_at hl 0 rfl) ?_
  refine lv_if_lt (tgt := 39) hx hb dX2_takeFour_4 (by decide) (fun c9 => absurd c9 (by decide +kernel)) (fun _ => ?_)
  refine lv_aload_n hx hb dX2_takeFour_7 rfl (lv_at hl 1 rfl) ?_
  refine va_get (D := D) (ci := 2) (v := .ref (qC 0)) (C := RX2) (T := TX2) (N := 11) hx hb htg iwG_2 hown hE.1 hP 0 rfl rfl 0 (by decide) (htg _ wm_34) (fun _ h9 => h9) rfl dX2_takeFour_8 ?_
  refine lv_aload_n hx hb dX2_takeFour_11 rfl (lv_at hl 1 rfl) ?_
  refine va_get (D := D) (ci := 2) (v := .int 5) (C := RX2) (T := TX2) (N := 11) hx hb htg iwG_2 hown hE.1 hP 0 rfl rfl 1 (by decide) (htg _ wm_35) (fun _ h9 => h9) rfl dX2_takeFour_12 ?_
  refine lv_iload_n hx hb dX2_takeFour_15 rfl (lv_at hl 2 rfl) ?_
  refine lv_iload_n hx hb dX2_takeFour_16 rfl (lv_at hl 0 rfl) ?_
  refine lv_ishr hx hb dX2_takeFour_17 ?_
  refine lv_topi (fun v4 ev4 => ?_)
  refine lv_sipush (v := 255) hx hb dX2_takeFour_18 (by decide +kernel) ?_
  refine lv_iand hx hb dX2_takeFour_21 ?_
  refine lv_topi (fun v5 ev5 => ?_)
  refine va_iast hx hb hE.1 hP hD hS 1 0 rfl rfl (vp_in_iff.mpr ⟨by decide +kernel, by decide +kernel⟩) dX2_takeFour_22 (fun H locs hP hD hS => ?_)
  obtain ⟨g6, eg6⟩ : ∃ gz : Nat → Int32, gz = upd g3 (5 : Int32).toNatClampNeg v5 := ⟨_, rfl⟩
  have hP : va_P D vwCl [(aC, .inr (2, [.ref (qC 0), .int 5, .int 0, .int (-1), .int 0, .ref (qC 5), .ref (qC 6), .ref (qC 7), .ref (qC 8), .ref (qC 9), .ref (qC 10)])), ((qC 0), .inl (cI, 500, .inl g6))] H := by rw [eg6]; exact hP
  have hD : va_D A [(aC, .inr (2, [.ref (qC 0), .int 5, .int 0, .int (-1), .int 0, .ref (qC 5), .ref (qC 6), .ref (qC 7), .ref (qC 8), .ref (qC 9), .ref (qC 10)])), ((qC 0), .inl (cI, 500, .inl g6))] := by rw [eg6]; exact hD
  refine lv_aload_n hx hb dX2_takeFour_23 rfl (lv_at hl 1 rfl) ?_
  refine lv_dup hx hb dX2_takeFour_24 rfl ?_
  refine va_get (D := D) (ci := 2) (v := .int 5) (C := RX2) (T := TX2) (N := 11) hx hb htg iwG_2 hown hE.1 hP 0 rfl rfl 1 (by decide) (htg _ wm_35) (fun _ h9 => h9) rfl dX2_takeFour_25 ?_
  refine lv_iconst (v := 1) hx hb dX2_takeFour_28 (by decide +kernel) ?_
  refine lv_iadd hx hb dX2_takeFour_29 ?_
  refine g_top 6 (by decide +kernel) ?_
  refine va_put (D := D) (ci := 2) (v := .int 6) (ty := tyX2 1) (C := RX2) (T := TX2) (N := 11) hx hb htg iwG_2 tyX2 tyX2_ok nmX2 hown hE.1 hP hD hS 0 rfl rfl 1 (by decide) (htg _ wm_35) (fun _ h9 => h9) rfl (by decide +kernel) rfl rfl (Nat.le_of_ble_eq_true rfl) dX2_takeFour_30 (fun H locs hP hD hS => ?_)
  have hP : va_P D vwCl [(aC, .inr (2, [.ref (qC 0), .int 6, .int 0, .int (-1), .int 0, .ref (qC 5), .ref (qC 6), .ref (qC 7), .ref (qC 8), .ref (qC 9), .ref (qC 10)])), ((qC 0), .inl (cI, 500, .inl g6))] H := hP
  have hD : va_D A [(aC, .inr (2, [.ref (qC 0), .int 6, .int 0, .int (-1), .int 0, .ref (qC 5), .ref (qC 6), .ref (qC 7), .ref (qC 8), .ref (qC 9), .ref (qC 10)])), ((qC 0), .inl (cI, 500, .inl g6))] := hD
  refine lv_iinc (v := 8) (lv' := [(2, .int 8), (0, .ref aC), (1, .int y0)]) hx hb dX2_takeFour_33 hl (k := 0) rfl (by decide +kernel) (by decide) rfl (fun ls hl => ?_)
  refine lv_goto (tgt := 3) hx hb dX2_takeFour_36 (by decide) ?_
  refine lv_iload_n hx hb dX2_takeFour_3 rfl (lv_at hl 0 rfl) ?_
  refine lv_if_lt (tgt := 39) hx hb dX2_takeFour_4 (by decide) (fun c9 => absurd c9 (by decide +kernel)) (fun _ => ?_)
  refine lv_aload_n hx hb dX2_takeFour_7 rfl (lv_at hl 1 rfl) ?_
  refine va_get (D := D) (ci := 2) (v := .ref (qC 0)) (C := RX2) (T := TX2) (N := 11) hx hb htg iwG_2 hown hE.1 hP 0 rfl rfl 0 (by decide) (htg _ wm_34) (fun _ h9 => h9) rfl dX2_takeFour_8 ?_
  refine lv_aload_n hx hb dX2_takeFour_11 rfl (lv_at hl 1 rfl) ?_
  refine va_get (D := D) (ci := 2) (v := .int 6) (C := RX2) (T := TX2) (N := 11) hx hb htg iwG_2 hown hE.1 hP 0 rfl rfl 1 (by decide) (htg _ wm_35) (fun _ h9 => h9) rfl dX2_takeFour_12 ?_
  refine lv_iload_n hx hb dX2_takeFour_15 rfl (lv_at hl 2 rfl) ?_
  refine lv_iload_n hx hb dX2_takeFour_16 rfl (lv_at hl 0 rfl) ?_
  refine lv_ishr hx hb dX2_takeFour_17 ?_
  refine lv_topi (fun v7 ev7 => ?_)
  refine lv_sipush (v := 255) hx hb dX2_takeFour_18 (by decide +kernel) ?_
  refine lv_iand hx hb dX2_takeFour_21 ?_
  refine lv_topi (fun v8 ev8 => ?_)
  refine va_iast hx hb hE.1 hP hD hS 1 0 rfl rfl (vp_in_iff.mpr ⟨by decide +kernel, by decide +kernel⟩) dX2_takeFour_22 (fun H locs hP hD hS => ?_)
  obtain ⟨g9, eg9⟩ : ∃ gz : Nat → Int32, gz = upd g6 (6 : Int32).toNatClampNeg v8 := ⟨_, rfl⟩
  have hP : va_P D vwCl [(aC, .inr (2, [.ref (qC 0), .int 6, .int 0, .int (-1), .int 0, .ref (qC 5), .ref (qC 6), .ref (qC 7), .ref (qC 8), .ref (qC 9), .ref (qC 10)])), ((qC 0), .inl (cI, 500, .inl g9))] H := by rw [eg9]; exact hP
  have hD : va_D A [(aC, .inr (2, [.ref (qC 0), .int 6, .int 0, .int (-1), .int 0, .ref (qC 5), .ref (qC 6), .ref (qC 7), .ref (qC 8), .ref (qC 9), .ref (qC 10)])), ((qC 0), .inl (cI, 500, .inl g9))] := by rw [eg9]; exact hD
  refine lv_aload_n hx hb dX2_takeFour_23 rfl (lv_at hl 1 rfl) ?_
  refine lv_dup hx hb dX2_takeFour_24 rfl ?_
  refine va_get (D := D) (ci := 2) (v := .int 6) (C := RX2) (T := TX2) (N := 11) hx hb htg iwG_2 hown hE.1 hP 0 rfl rfl 1 (by decide) (htg _ wm_35) (fun _ h9 => h9) rfl dX2_takeFour_25 ?_
  refine lv_iconst (v := 1) hx hb dX2_takeFour_28 (by decide +kernel) ?_
  refine lv_iadd hx hb dX2_takeFour_29 ?_
  refine g_top 7 (by decide +kernel) ?_
  refine va_put (D := D) (ci := 2) (v := .int 7) (ty := tyX2 1) (C := RX2) (T := TX2) (N := 11) hx hb htg iwG_2 tyX2 tyX2_ok nmX2 hown hE.1 hP hD hS 0 rfl rfl 1 (by decide) (htg _ wm_35) (fun _ h9 => h9) rfl (by decide +kernel) rfl rfl (Nat.le_of_ble_eq_true rfl) dX2_takeFour_30 (fun H locs hP hD hS => ?_)
  have hP : va_P D vwCl [(aC, .inr (2, [.ref (qC 0), .int 7, .int 0, .int (-1), .int 0, .ref (qC 5), .ref (qC 6), .ref (qC 7), .ref (qC 8), .ref (qC 9), .ref (qC 10)])), ((qC 0), .inl (cI, 500, .inl g9))] H := hP
  have hD : va_D A [(aC, .inr (2, [.ref (qC 0), .int 7, .int 0, .int (-1), .int 0, .ref (qC 5), .ref (qC 6), .ref (qC 7), .ref (qC 8), .ref (qC 9), .ref (qC 10)])), ((qC 0), .inl (cI, 500, .inl g9))] := hD
  refine lv_iinc (v := 0) (lv' := [(2, .int 0), (0, .ref aC), (1, .int y0)]) hx hb dX2_takeFour_33 hl (k := 0) rfl (by decide +kernel) (by decide) rfl (fun ls hl => ?_)
  refine lv_goto (tgt := 3) hx hb dX2_takeFour_36 (by decide) ?_
  refine lv_iload_n hx hb dX2_takeFour_3 rfl (lv_at hl 0 rfl) ?_
  refine lv_if_lt (tgt := 39) hx hb dX2_takeFour_4 (by decide) (fun c9 => absurd c9 (by decide +kernel)) (fun _ => ?_)
  refine lv_aload_n hx hb dX2_takeFour_7 rfl (lv_at hl 1 rfl) ?_
  refine va_get (D := D) (ci := 2) (v := .ref (qC 0)) (C := RX2) (T := TX2) (N := 11) hx hb htg iwG_2 hown hE.1 hP 0 rfl rfl 0 (by decide) (htg _ wm_34) (fun _ h9 => h9) rfl dX2_takeFour_8 ?_
  refine lv_aload_n hx hb dX2_takeFour_11 rfl (lv_at hl 1 rfl) ?_
  refine va_get (D := D) (ci := 2) (v := .int 7) (C := RX2) (T := TX2) (N := 11) hx hb htg iwG_2 hown hE.1 hP 0 rfl rfl 1 (by decide) (htg _ wm_35) (fun _ h9 => h9) rfl dX2_takeFour_12 ?_
  refine lv_iload_n hx hb dX2_takeFour_15 rfl (lv_at hl 2 rfl) ?_
  refine lv_iload_n hx hb dX2_takeFour_16 rfl (lv_at hl 0 rfl) ?_
  refine lv_ishr hx hb dX2_takeFour_17 ?_
  refine lv_topi (fun v10 ev10 => ?_)
  refine lv_sipush (v := 255) hx hb dX2_takeFour_18 (by decide +kernel) ?_
  refine lv_iand hx hb dX2_takeFour_21 ?_
  refine lv_topi (fun v11 ev11 => ?_)
  refine va_iast hx hb hE.1 hP hD hS 1 0 rfl rfl (vp_in_iff.mpr ⟨by decide +kernel, by decide +kernel⟩) dX2_takeFour_22 (fun H locs hP hD hS => ?_)
  obtain ⟨g12, eg12⟩ : ∃ gz : Nat → Int32, gz = upd g9 (7 : Int32).toNatClampNeg v11 := ⟨_, rfl⟩
  have hP : va_P D vwCl [(aC, .inr (2, [.ref (qC 0), .int 7, .int 0, .int (-1), .int 0, .ref (qC 5), .ref (qC 6), .ref (qC 7), .ref (qC 8), .ref (qC 9), .ref (qC 10)])), ((qC 0), .inl (cI, 500, .inl g12))] H := by rw [eg12]; exact hP
  have hD : va_D A [(aC, .inr (2, [.ref (qC 0), .int 7, .int 0, .int (-1), .int 0, .ref (qC 5), .ref (qC 6), .ref (qC 7), .ref (qC 8), .ref (qC 9), .ref (qC 10)])), ((qC 0), .inl (cI, 500, .inl g12))] := by rw [eg12]; exact hD
  refine lv_aload_n hx hb dX2_takeFour_23 rfl (lv_at hl 1 rfl) ?_
  refine lv_dup hx hb dX2_takeFour_24 rfl ?_
  refine va_get (D := D) (ci := 2) (v := .int 7) (C := RX2) (T := TX2) (N := 11) hx hb htg iwG_2 hown hE.1 hP 0 rfl rfl 1 (by decide) (htg _ wm_35) (fun _ h9 => h9) rfl dX2_takeFour_25 ?_
  refine lv_iconst (v := 1) hx hb dX2_takeFour_28 (by decide +kernel) ?_
  refine lv_iadd hx hb dX2_takeFour_29 ?_
  refine g_top 8 (by decide +kernel) ?_
  refine va_put (D := D) (ci := 2) (v := .int 8) (ty := tyX2 1) (C := RX2) (T := TX2) (N := 11) hx hb htg iwG_2 tyX2 tyX2_ok nmX2 hown hE.1 hP hD hS 0 rfl rfl 1 (by decide) (htg _ wm_35) (fun _ h9 => h9) rfl (by decide +kernel) rfl rfl (Nat.le_of_ble_eq_true rfl) dX2_takeFour_30 (fun H locs hP hD hS => ?_)
  have hP : va_P D vwCl [(aC, .inr (2, [.ref (qC 0), .int 8, .int 0, .int (-1), .int 0, .ref (qC 5), .ref (qC 6), .ref (qC 7), .ref (qC 8), .ref (qC 9), .ref (qC 10)])), ((qC 0), .inl (cI, 500, .inl g12))] H := hP
  have hD : va_D A [(aC, .inr (2, [.ref (qC 0), .int 8, .int 0, .int (-1), .int 0, .ref (qC 5), .ref (qC 6), .ref (qC 7), .ref (qC 8), .ref (qC 9), .ref (qC 10)])), ((qC 0), .inl (cI, 500, .inl g12))] := hD
  refine lv_iinc (v := (-8)) (lv' := [(2, .int (-8)), (0, .ref aC), (1, .int y0)]) hx hb dX2_takeFour_33 hl (k := 0) rfl (by decide +kernel) (by decide) rfl (fun ls hl => ?_)
  refine lv_goto (tgt := 3) hx hb dX2_takeFour_36 (by decide) ?_
  refine lv_iload_n hx hb dX2_takeFour_3 rfl (lv_at hl 0 rfl) ?_
  refine lv_if_lt (tgt := 39) hx hb dX2_takeFour_4 (by decide) (fun _ => ?_) (fun c9 => absurd c9 (by decide +kernel))
  exact g_vret g12 hF hr hlocks (hP.sub [0, 1] rfl) (hD.sub [0, 1] rfl rfl) hS trivial dX2_takeFour_39 (Nat.le_of_ble_eq_true rfl) (Nat.le_of_ble_eq_true rfl)
set_option maxHeartbeats 8000000 in
set_option maxRecDepth 100000 in
theorem c_X2_takeFour_8 {l : Launch} {D : va_G} {cI cB cS cZ cW : ClassId} {aC : Nat} {y0 : Int32} {qC : Nat → Nat} {g : Nat → Int32}  {sz : Nat} : MV l D (gT cI cB cS cZ cW) yX2_takeFour (wG yX2_takeFour cX2_takeFour 3 none) { frames := 0, cells := 0, slots := 0, locals := 0 } [.ref aC, .int y0] [(aC, .inr (2, [.ref (qC 0), .int 8, .int 0, .int (-1), .int 0, .ref (qC 5), .ref (qC 6), .ref (qC 7), .ref (qC 8), .ref (qC 9), .ref (qC 10)])), ((qC 0), .inl (cI, 500, .inl g))] sz (fun (u : Nat → Int32) => True) (fun (u : Nat → Int32) => [(aC, .inr (2, [.ref (qC 0), .int 12, .int 0, .int (-1), .int 0, .ref (qC 5), .ref (qC 6), .ref (qC 7), .ref (qC 8), .ref (qC 9), .ref (qC 10)])), ((qC 0), .inl (cI, 500, .inl u))] : (Nat → Int32) → va_W) 0 0 := by
  refine g_enter (y := yX2_takeFour) (w := (wG yX2_takeFour cX2_takeFour 3 none)) (As := [.ref aC, .int y0]) (D := D) (T := gT cI cB cS cZ cW) (ws := [(aC, .inr (2, [.ref (qC 0), .int 8, .int 0, .int (-1), .int 0, .ref (qC 5), .ref (qC 6), .ref (qC 7), .ref (qC 8), .ref (qC 9), .ref (qC 10)])), ((qC 0), .inl (cI, 500, .inl g))]) (gQv D (fun (u : Nat → Int32) => True) (fun (u : Nat → Int32) => [(aC, .inr (2, [.ref (qC 0), .int 12, .int 0, .int (-1), .int 0, .ref (qC 5), .ref (qC 6), .ref (qC 7), .ref (qC 8), .ref (qC 9), .ref (qC 10)])), ((qC 0), .inl (cI, 500, .inl u))] : (Nat → Int32) → va_W)) (cc := cX2_takeFour) (maxL := 3) (ret := none) (by decide) rfl (Nat.le_of_ble_eq_true rfl) ?_
  intro p e s m below meth c A ls hF hr hlocks hname hsz hE hA hP hD hS hl
  have hF : CallFix p m c cX2_takeFour 3 s ([.ref aC, .int y0] : List Value).toArray (wG yX2_takeFour cX2_takeFour 3 none) RX2 := hF
  obtain ⟨hx, hb, hml, hown, hts⟩ := id hF
  have htg : ∀ w ∈ GL, w.before ([.ref aC, .int y0] : List Value).toArray s = true := fun w h => hts w (List.mem_cons_of_mem _ h)
  have hl : lv_has ls 3 [(0, .ref aC), (1, .int y0)] := hl
  have zm8 := tm_8
  have z0 := t_0
  have z1 := t_1
  have z8 := t_8
  have z9 := t_9
  have z10 := t_10
  have z11 := t_11
  have z12 := t_12
  have z16 := t_16
  have z24 := t_24
  have z255 := t_255
  refine lv_bipush (v := 24) hx hb dX2_takeFour_0 (by decide +kernel) ?_
  refine lv_istore_n (lv' := [(2, .int 24), (0, .ref aC), (1, .int y0)]) hx hb dX2_takeFour_2 rfl hl (by decide) rfl (fun ls hl => ?_)
  refine lv_iload_n hx hb dX2_takeFour_3 rfl (lv_at hl 0 rfl) ?_
  refine lv_if_lt (tgt := 39) hx hb dX2_takeFour_4 (by decide) (fun c9 => absurd c9 (by decide +kernel)) (fun _ => ?_)
  refine lv_aload_n hx hb dX2_takeFour_7 rfl (lv_at hl 1 rfl) ?_
  refine va_get (D := D) (ci := 2) (v := .ref (qC 0)) (C := RX2) (T := TX2) (N := 11) hx hb htg iwG_2 hown hE.1 hP 0 rfl rfl 0 (by decide) (htg _ wm_34) (fun _ h9 => h9) rfl dX2_takeFour_8 ?_
  refine lv_aload_n hx hb dX2_takeFour_11 rfl (lv_at hl 1 rfl) ?_
  refine va_get (D := D) (ci := 2) (v := .int 8) (C := RX2) (T := TX2) (N := 11) hx hb htg iwG_2 hown hE.1 hP 0 rfl rfl 1 (by decide) (htg _ wm_35) (fun _ h9 => h9) rfl dX2_takeFour_12 ?_
  refine lv_iload_n hx hb dX2_takeFour_15 rfl (lv_at hl 2 rfl) ?_
  refine lv_iload_n hx hb dX2_takeFour_16 rfl (lv_at hl 0 rfl) ?_
  refine lv_ishr hx hb dX2_takeFour_17 ?_
  refine lv_topi (fun v1 ev1 => ?_)
  refine lv_sipush (v := 255) hx hb dX2_takeFour_18 (by decide +kernel) ?_
  refine lv_iand hx hb dX2_takeFour_21 ?_
  refine lv_topi (fun v2 ev2 => ?_)
  refine va_iast hx hb hE.1 hP hD hS 1 0 rfl rfl (vp_in_iff.mpr ⟨by decide +kernel, by decide +kernel⟩) dX2_takeFour_22 (fun H locs hP hD hS => ?_)
  obtain ⟨g3, eg3⟩ : ∃ gz : Nat → Int32, gz = upd g (8 : Int32).toNatClampNeg v2 := ⟨_, rfl⟩
  have hP : va_P D vwCl [(aC, .inr (2, [.ref (qC 0), .int 8, .int 0, .int (-1), .int 0, .ref (qC 5), .ref (qC 6), .ref (qC 7), .ref (qC 8), .ref (qC 9), .ref (qC 10)])), ((qC 0), .inl (cI, 500, .inl g3))] H := by rw [eg3]; exact hP
  have hD : va_D A [(aC, .inr (2, [.ref (qC 0), .int 8, .int 0, .int (-1), .int 0, .ref (qC 5), .ref (qC 6), .ref (qC 7), .ref (qC 8), .ref (qC 9), .ref (qC 10)])), ((qC 0), .inl (cI, 500, .inl g3))] := by rw [eg3]; exact hD
  refine lv_aload_n hx hb dX2_takeFour_23 rfl (lv_at hl 1 rfl) ?_
  refine lv_dup hx hb dX2_takeFour_24 rfl ?_
  refine va_get (D := D) (ci := 2) (v := .int 8) (C := RX2) (T := TX2) (N := 11) hx hb htg iwG_2 hown hE.1 hP 0 rfl rfl 1 (by decide) (htg _ wm_35) (fun _ h9 => h9) rfl dX2_takeFour_25 ?_
  refine lv_iconst (v := 1) hx hb dX2_takeFour_28 (by decide +kernel) ?_
  refine lv_iadd hx hb dX2_takeFour_29 ?_
  refine g_top 9 (by decide +kernel) ?_
  refine va_put (D := D) (ci := 2) (v := .int 9) (ty := tyX2 1) (C := RX2) (T := TX2) (N := 11) hx hb htg iwG_2 tyX2 tyX2_ok nmX2 hown hE.1 hP hD hS 0 rfl rfl 1 (by decide) (htg _ wm_35) (fun _ h9 => h9) rfl (by decide +kernel) rfl rfl (Nat.le_of_ble_eq_true rfl) dX2_takeFour_30 (fun H locs hP hD hS => ?_)
  have hP : va_P D vwCl [(aC, .inr (2, [.ref (qC 0), .int 9, .int 0, .int (-1), .int 0, .ref (qC 5), .ref (qC 6), .ref (qC 7), .ref (qC 8), .ref (qC 9), .ref (qC 10)])), ((qC 0), .inl (cI, 500, .inl g3))] H := hP
  have hD : va_D A [(aC, .inr (2, [.ref (qC 0), .int 9, .int 0, .int (-1), .int 0, .ref (qC 5), .ref (qC 6), .ref (qC 7), .ref (qC 8), .ref (qC 9), .ref (qC 10)])), ((qC 0), .inl (cI, 500, .inl g3))] := hD
  refine lv_iinc (v := 16) (lv' := [(2, .int 16), (0, .ref aC), (1, .int y0)]) hx hb dX2_takeFour_33 hl (k := 0) rfl (by decide +kernel) (by decide) rfl (fun ls hl => ?_)
  refine lv_goto (tgt := 3) hx hb dX2_takeFour_36 (by decide) ?_
  refine lv_iload_n hx hb dX2_takeFour_3 rfl (lv_at hl 0 rfl) ?_
  refine lv_if_lt (tgt := 39) hx hb dX2_takeFour_4 (by decide) (fun c9 => absurd c9 (by decide +kernel)) (fun _ => ?_)
  refine lv_aload_n hx hb dX2_takeFour_7 rfl (lv_at hl 1 rfl) ?_
  refine va_get (D := D) (ci := 2) (v := .ref (qC 0)) (C := RX2) (T := TX2) (N := 11) hx hb htg iwG_2 hown hE.1 hP 0 rfl rfl 0 (by decide) (htg _ wm_34) (fun _ h9 => h9) rfl dX2_takeFour_8 ?_
  refine lv_aload_n hx hb dX2_takeFour_11 rfl (lv_at hl 1 rfl) ?_
  refine va_get (D := D) (ci := 2) (v := .int 9) (C := RX2) (T := TX2) (N := 11) hx hb htg iwG_2 hown hE.1 hP 0 rfl rfl 1 (by decide) (htg _ wm_35) (fun _ h9 => h9) rfl dX2_takeFour_12 ?_
  refine lv_iload_n hx hb dX2_takeFour_15 rfl (lv_at hl 2 rfl) ?_
  refine lv_iload_n hx hb dX2_takeFour_16 rfl (lv_at hl 0 rfl) ?_
  refine lv_ishr hx hb dX2_takeFour_17 ?_
  refine lv_topi (fun v4 ev4 => ?_)
  refine lv_sipush (v := 255) hx hb dX2_takeFour_18 (by decide +kernel) ?_
  refine lv_iand hx hb dX2_takeFour_21 ?_
  refine lv_topi (fun v5 ev5 => ?_)
  refine va_iast hx hb hE.1 hP hD hS 1 0 rfl rfl (vp_in_iff.mpr ⟨by decide +kernel, by decide +kernel⟩) dX2_takeFour_22 (fun H locs hP hD hS => ?_)
  obtain ⟨g6, eg6⟩ : ∃ gz : Nat → Int32, gz = upd g3 (9 : Int32).toNatClampNeg v5 := ⟨_, rfl⟩
  have hP : va_P D vwCl [(aC, .inr (2, [.ref (qC 0), .int 9, .int 0, .int (-1), .int 0, .ref (qC 5), .ref (qC 6), .ref (qC 7), .ref (qC 8), .ref (qC 9), .ref (qC 10)])), ((qC 0), .inl (cI, 500, .inl g6))] H := by rw [eg6]; exact hP
  have hD : va_D A [(aC, .inr (2, [.ref (qC 0), .int 9, .int 0, .int (-1), .int 0, .ref (qC 5), .ref (qC 6), .ref (qC 7), .ref (qC 8), .ref (qC 9), .ref (qC 10)])), ((qC 0), .inl (cI, 500, .inl g6))] := by rw [eg6]; exact hD
  refine lv_aload_n hx hb dX2_takeFour_23 rfl (lv_at hl 1 rfl) ?_
  refine lv_dup hx hb dX2_takeFour_24 rfl ?_
  refine va_get (D := D) (ci := 2) (v := .int 9) (C := RX2) (T := TX2) (N := 11) hx hb htg iwG_2 hown hE.1 hP 0 rfl rfl 1 (by decide) (htg _ wm_35) (fun _ h9 => h9) rfl dX2_takeFour_25 ?_
  refine lv_iconst (v := 1) hx hb dX2_takeFour_28 (by decide +kernel) ?_
  refine lv_iadd hx hb dX2_takeFour_29 ?_
  refine g_top 10 (by decide +kernel) ?_
  refine va_put (D := D) (ci := 2) (v := .int 10) (ty := tyX2 1) (C := RX2) (T := TX2) (N := 11) hx hb htg iwG_2 tyX2 tyX2_ok nmX2 hown hE.1 hP hD hS 0 rfl rfl 1 (by decide) (htg _ wm_35) (fun _ h9 => h9) rfl (by decide +kernel) rfl rfl (Nat.le_of_ble_eq_true rfl) dX2_takeFour_30 (fun H locs hP hD hS => ?_)
  have hP : va_P D vwCl [(aC, .inr (2, [.ref (qC 0), .int 10, .int 0, .int (-1), .int 0, .ref (qC 5), .ref (qC 6), .ref (qC 7), .ref (qC 8), .ref (qC 9), .ref (qC 10)])), ((qC 0), .inl (cI, 500, .inl g6))] H := hP
  have hD : va_D A [(aC, .inr (2, [.ref (qC 0), .int 10, .int 0, .int (-1), .int 0, .ref (qC 5), .ref (qC 6), .ref (qC 7), .ref (qC 8), .ref (qC 9), .ref (qC 10)])), ((qC 0), .inl (cI, 500, .inl g6))] := hD
  refine lv_iinc (v := 8) (lv' := [(2, .int 8), (0, .ref aC), (1, .int y0)]) hx hb dX2_takeFour_33 hl (k := 0) rfl (by decide +kernel) (by decide) rfl (fun ls hl => ?_)
  refine lv_goto (tgt := 3) hx hb dX2_takeFour_36 (by decide) ?_
  refine lv_iload_n hx hb dX2_takeFour_3 rfl (lv_at hl 0 rfl) ?_
  refine lv_if_lt (tgt := 39) hx hb dX2_takeFour_4 (by decide) (fun c9 => absurd c9 (by decide +kernel)) (fun _ => ?_)
  refine lv_aload_n hx hb dX2_takeFour_7 rfl (lv_at hl 1 rfl) ?_
  refine va_get (D := D) (ci := 2) (v := .ref (qC 0)) (C := RX2) (T := TX2) (N := 11) hx hb htg iwG_2 hown hE.1 hP 0 rfl rfl 0 (by decide) (htg _ wm_34) (fun _ h9 => h9) rfl dX2_takeFour_8 ?_
  refine lv_aload_n hx hb dX2_takeFour_11 rfl (lv_at hl 1 rfl) ?_
  refine va_get (D := D) (ci := 2) (v := .int 10) (C := RX2) (T := TX2) (N := 11) hx hb htg iwG_2 hown hE.1 hP 0 rfl rfl 1 (by decide) (htg _ wm_35) (fun _ h9 => h9) rfl dX2_takeFour_12 ?_
  refine lv_iload_n hx hb dX2_takeFour_15 rfl (lv_at hl 2 rfl) ?_
  refine lv_iload_n hx hb dX2_takeFour_16 rfl (lv_at hl 0 rfl) ?_
  refine lv_ishr hx hb dX2_takeFour_17 ?_
  refine lv_topi (fun v7 ev7 => ?_)
  refine lv_sipush (v := 255) hx hb dX2_takeFour_18 (by decide +kernel) ?_
  refine lv_iand hx hb dX2_takeFour_21 ?_
  refine lv_topi (fun v8 ev8 => ?_)
  refine va_iast hx hb hE.1 hP hD hS 1 0 rfl rfl (vp_in_iff.mpr ⟨by decide +kernel, by decide +kernel⟩) dX2_takeFour_22 (fun H locs hP hD hS => ?_)
  obtain ⟨g9, eg9⟩ : ∃ gz : Nat → Int32, gz = upd g6 (10 : Int32).toNatClampNeg v8 := ⟨_, rfl⟩
  have hP : va_P D vwCl [(aC, .inr (2, [.ref (qC 0), .int 10, .int 0, .int (-1), .int 0, .ref (qC 5), .ref (qC 6), .ref (qC 7), .ref (qC 8), .ref (qC 9), .ref (qC 10)])), ((qC 0), .inl (cI, 500, .inl g9))] H := by rw [eg9]; exact hP
  have hD : va_D A [(aC, .inr (2, [.ref (qC 0), .int 10, .int 0, .int (-1), .int 0, .ref (qC 5), .ref (qC 6), .ref (qC 7), .ref (qC 8), .ref (qC 9), .ref (qC 10)])), ((qC 0), .inl (cI, 500, .inl g9))] := by rw [eg9]; exact hD
  refine lv_aload_n hx hb dX2_takeFour_23 rfl (lv_at hl 1 rfl) ?_
  refine lv_dup hx hb dX2_takeFour_24 rfl ?_
  refine va_get (D := D) (ci := 2) (v := .int 10) (C := RX2) (T := TX2) (N := 11) hx hb htg iwG_2 hown hE.1 hP 0 rfl rfl 1 (by decide) (htg _ wm_35) (fun _ h9 => h9) rfl dX2_takeFour_25 ?_
  refine lv_iconst (v := 1) hx hb dX2_takeFour_28 (by decide +kernel) ?_
  refine lv_iadd hx hb dX2_takeFour_29 ?_
  refine g_top 11 (by decide +kernel) ?_
  refine va_put (D := D) (ci := 2) (v := .int 11) (ty := tyX2 1) (C := RX2) (T := TX2) (N := 11) hx hb htg iwG_2 tyX2 tyX2_ok nmX2 hown hE.1 hP hD hS 0 rfl rfl 1 (by decide) (htg _ wm_35) (fun _ h9 => h9) rfl (by decide +kernel) rfl rfl (Nat.le_of_ble_eq_true rfl) dX2_takeFour_30 (fun H locs hP hD hS => ?_)
  have hP : va_P D vwCl [(aC, .inr (2, [.ref (qC 0), .int 11, .int 0, .int (-1), .int 0, .ref (qC 5), .ref (qC 6), .ref (qC 7), .ref (qC 8), .ref (qC 9), .ref (qC 10)])), ((qC 0), .inl (cI, 500, .inl g9))] H := hP
  have hD : va_D A [(aC, .inr (2, [.ref (qC 0), .int 11, .int 0, .int (-1), .int 0, .ref (qC 5), .ref (qC 6), .ref (qC 7), .ref (qC 8), .ref (qC 9), .ref (qC 10)])), ((qC 0), .inl (cI, 500, .inl g9))] := hD
  refine lv_iinc (v := 0) (lv' := [(2, .int 0), (0, .ref aC), (1, .int y0)]) hx hb dX2_takeFour_33 hl (k := 0) rfl (by decide +kernel) (by decide) rfl (fun ls hl => ?_)
  refine lv_goto (tgt := 3) hx hb dX2_takeFour_36 (by decide) ?_
  refine lv_iload_n hx hb dX2_takeFour_3 rfl (lv_at hl 0 rfl) ?_
  refine lv_if_lt (tgt := 39) hx hb dX2_takeFour_4 (by decide) (fun c9 => absurd c9 (by decide +kernel)) (fun _ => ?_)
  refine lv_aload_n hx hb dX2_takeFour_7 rfl (lv_at hl 1 rfl) ?_
  refine va_get (D := D) (ci := 2) (v := .ref (qC 0)) (C := RX2) (T := TX2) (N := 11) hx hb htg iwG_2 hown hE.1 hP 0 rfl rfl 0 (by decide) (htg _ wm_34) (fun _ h9 => h9) rfl dX2_takeFour_8 ?_
  refine lv_aload_n hx hb dX2_takeFour_11 rfl (lv_at hl 1 rfl) ?_
  refine va_get (D := D) (ci := 2) (v := .int 11) (C := RX2) (T := TX2) (N := 11) hx hb htg iwG_2 hown hE.1 hP 0 rfl rfl 1 (by decide) (htg _ wm_35) (fun _ h9 => h9) rfl dX2_takeFour_12 ?_
  refine lv_iload_n hx hb dX2_takeFour_15 rfl (lv_at hl 2 rfl) ?_
  refine lv_iload_n hx hb dX2_takeFour_16 rfl (lv_at hl 0 rfl) ?_
  refine lv_ishr hx hb dX2_takeFour_17 ?_
  refine lv_topi (fun v10 ev10 => ?_)
  refine lv_sipush (v := 255) hx hb dX2_takeFour_18 (by decide +kernel) ?_
  refine lv_iand hx hb dX2_takeFour_21 ?_
  refine lv_topi (fun v11 ev11 => ?_)
  refine va_iast hx hb hE.1 hP hD hS 1 0 rfl rfl (vp_in_iff.mpr ⟨by decide +kernel, by decide +kernel⟩) dX2_takeFour_22 (fun H locs hP hD hS => ?_)
  obtain ⟨g12, eg12⟩ : ∃ gz : Nat → Int32, gz = upd g9 (11 : Int32).toNatClampNeg v11 := ⟨_, rfl⟩
  have hP : va_P D vwCl [(aC, .inr (2, [.ref (qC 0), .int 11, .int 0, .int (-1), .int 0, .ref (qC 5), .ref (qC 6), .ref (qC 7), .ref (qC 8), .ref (qC 9), .ref (qC 10)])), ((qC 0), .inl (cI, 500, .inl g12))] H := by rw [eg12]; exact hP
  have hD : va_D A [(aC, .inr (2, [.ref (qC 0), .int 11, .int 0, .int (-1), .int 0, .ref (qC 5), .ref (qC 6), .ref (qC 7), .ref (qC 8), .ref (qC 9), .ref (qC 10)])), ((qC 0), .inl (cI, 500, .inl g12))] := by rw [eg12]; exact hD
  refine lv_aload_n hx hb dX2_takeFour_23 rfl (lv_at hl 1 rfl) ?_
  refine lv_dup hx hb dX2_takeFour_24 rfl ?_
  refine va_get (D := D) (ci := 2) (v := .int 11) (C := RX2) (T := TX2) (N := 11) hx hb htg iwG_2 hown hE.1 hP 0 rfl rfl 1 (by decide) (htg _ wm_35) (fun _ h9 => h9) rfl dX2_takeFour_25 ?_
  refine lv_iconst (v := 1) hx hb dX2_takeFour_28 (by decide +kernel) ?_
  refine lv_iadd hx hb dX2_takeFour_29 ?_
  refine g_top 12 (by decide +kernel) ?_
  refine va_put (D := D) (ci := 2) (v := .int 12) (ty := tyX2 1) (C := RX2) (T := TX2) (N := 11) hx hb htg iwG_2 tyX2 tyX2_ok nmX2 hown hE.1 hP hD hS 0 rfl rfl 1 (by decide) (htg _ wm_35) (fun _ h9 => h9) rfl (by decide +kernel) rfl rfl (Nat.le_of_ble_eq_true rfl) dX2_takeFour_30 (fun H locs hP hD hS => ?_)
  have hP : va_P D vwCl [(aC, .inr (2, [.ref (qC 0), .int 12, .int 0, .int (-1), .int 0, .ref (qC 5), .ref (qC 6), .ref (qC 7), .ref (qC 8), .ref (qC 9), .ref (qC 10)])), ((qC 0), .inl (cI, 500, .inl g12))] H := hP
  have hD : va_D A [(aC, .inr (2, [.ref (qC 0), .int 12, .int 0, .int (-1), .int 0, .ref (qC 5), .ref (qC 6), .ref (qC 7), .ref (qC 8), .ref (qC 9), .ref (qC 10)])), ((qC 0), .inl (cI, 500, .inl g12))] := hD
  refine lv_iinc (v := (-8)) (lv' := [(2, .int (-8)), (0, .ref aC), (1, .int y0)]) hx hb dX2_takeFour_33 hl (k := 0) rfl (by decide +kernel) (by decide) rfl (fun ls hl => ?_)
  refine lv_goto (tgt := 3) hx hb dX2_takeFour_36 (by decide) ?_
  refine lv_iload_n hx hb dX2_takeFour_3 rfl (lv_at hl 0 rfl) ?_
  refine lv_if_lt (tgt := 39) hx hb dX2_takeFour_4 (by decide) (fun _ => ?_) (fun c9 => absurd c9 (by decide +kernel))
  exact g_vret g12 hF hr hlocks (hP.sub [0, 1] rfl) (hD.sub [0, 1] rfl rfl) hS trivial dX2_takeFour_39 (Nat.le_of_ble_eq_true rfl) (Nat.le_of_ble_eq_true rfl)
set_option maxHeartbeats 8000000 in
set_option maxRecDepth 100000 in
theorem c_X2_takeFour_12 {l : Launch} {D : va_G} {cI cB cS cZ cW : ClassId} {aC : Nat} {y0 : Int32} {qC : Nat → Nat} {g : Nat → Int32}  {sz : Nat} : MV l D (gT cI cB cS cZ cW) yX2_takeFour (wG yX2_takeFour cX2_takeFour 3 none) { frames := 0, cells := 0, slots := 0, locals := 0 } [.ref aC, .int y0] [(aC, .inr (2, [.ref (qC 0), .int 12, .int 0, .int (-1), .int 0, .ref (qC 5), .ref (qC 6), .ref (qC 7), .ref (qC 8), .ref (qC 9), .ref (qC 10)])), ((qC 0), .inl (cI, 500, .inl g))] sz (fun (u : Nat → Int32) => True) (fun (u : Nat → Int32) => [(aC, .inr (2, [.ref (qC 0), .int 16, .int 0, .int (-1), .int 0, .ref (qC 5), .ref (qC 6), .ref (qC 7), .ref (qC 8), .ref (qC 9), .ref (qC 10)])), ((qC 0), .inl (cI, 500, .inl u))] : (Nat → Int32) → va_W) 0 0 := by
  refine g_enter (y := yX2_takeFour) (w := (wG yX2_takeFour cX2_takeFour 3 none)) (As := [.ref aC, .int y0]) (D := D) (T := gT cI cB cS cZ cW) (ws := [(aC, .inr (2, [.ref (qC 0), .int 12, .int 0, .int (-1), .int 0, .ref (qC 5), .ref (qC 6), .ref (qC 7), .ref (qC 8), .ref (qC 9), .ref (qC 10)])), ((qC 0), .inl (cI, 500, .inl g))]) (gQv D (fun (u : Nat → Int32) => True) (fun (u : Nat → Int32) => [(aC, .inr (2, [.ref (qC 0), .int 16, .int 0, .int (-1), .int 0, .ref (qC 5), .ref (qC 6), .ref (qC 7), .ref (qC 8), .ref (qC 9), .ref (qC 10)])), ((qC 0), .inl (cI, 500, .inl u))] : (Nat → Int32) → va_W)) (cc := cX2_takeFour) (maxL := 3) (ret := none) (by decide) rfl (Nat.le_of_ble_eq_true rfl) ?_
  intro p e s m below meth c A ls hF hr hlocks hname hsz hE hA hP hD hS hl
  have hF : CallFix p m c cX2_takeFour 3 s ([.ref aC, .int y0] : List Value).toArray (wG yX2_takeFour cX2_takeFour 3 none) RX2 := hF
  obtain ⟨hx, hb, hml, hown, hts⟩ := id hF
  have htg : ∀ w ∈ GL, w.before ([.ref aC, .int y0] : List Value).toArray s = true := fun w h => hts w (List.mem_cons_of_mem _ h)
  have hl : lv_has ls 3 [(0, .ref aC), (1, .int y0)] := hl
  have zm8 := tm_8
  have z0 := t_0
  have z1 := t_1
  have z8 := t_8
  have z13 := t_13
  have z14 := t_14
  have z15 := t_15
  have z16 := t_16
  have z24 := t_24
  have z255 := t_255
  refine lv_bipush (v := 24) hx hb dX2_takeFour_0 (by decide +kernel) ?_
  refine lv_istore_n (lv' := [(2, .int 24), (0, .ref aC), (1, .int y0)]) hx hb dX2_takeFour_2 rfl hl (by decide) rfl (fun ls hl => ?_)
  refine lv_iload_n hx hb dX2_takeFour_3 rfl (lv_at hl 0 rfl) ?_
  refine lv_if_lt (tgt := 39) hx hb dX2_takeFour_4 (by decide) (fun c9 => absurd c9 (by decide +kernel)) (fun _ => ?_)
  refine lv_aload_n hx hb dX2_takeFour_7 rfl (lv_at hl 1 rfl) ?_
  refine va_get (D := D) (ci := 2) (v := .ref (qC 0)) (C := RX2) (T := TX2) (N := 11) hx hb htg iwG_2 hown hE.1 hP 0 rfl rfl 0 (by decide) (htg _ wm_34) (fun _ h9 => h9) rfl dX2_takeFour_8 ?_
  refine lv_aload_n hx hb dX2_takeFour_11 rfl (lv_at hl 1 rfl) ?_
  refine va_get (D := D) (ci := 2) (v := .int 12) (C := RX2) (T := TX2) (N := 11) hx hb htg iwG_2 hown hE.1 hP 0 rfl rfl 1 (by decide) (htg _ wm_35) (fun _ h9 => h9) rfl dX2_takeFour_12 ?_
  refine lv_iload_n hx hb dX2_takeFour_15 rfl (lv_at hl 2 rfl) ?_
  refine lv_iload_n hx hb dX2_takeFour_16 rfl (lv_at hl 0 rfl) ?_
  refine lv_ishr hx hb dX2_takeFour_17 ?_
  refine lv_topi (fun v1 ev1 => ?_)
  refine lv_sipush (v := 255) hx hb dX2_takeFour_18 (by decide +kernel) ?_
  refine lv_iand hx hb dX2_takeFour_21 ?_
  refine lv_topi (fun v2 ev2 => ?_)
  refine va_iast hx hb hE.1 hP hD hS 1 0 rfl rfl (vp_in_iff.mpr ⟨by decide +kernel, by decide +kernel⟩) dX2_takeFour_22 (fun H locs hP hD hS => ?_)
  obtain ⟨g3, eg3⟩ : ∃ gz : Nat → Int32, gz = upd g (12 : Int32).toNatClampNeg v2 := ⟨_, rfl⟩
  have hP : va_P D vwCl [(aC, .inr (2, [.ref (qC 0), .int 12, .int 0, .int (-1), .int 0, .ref (qC 5), .ref (qC 6), .ref (qC 7), .ref (qC 8), .ref (qC 9), .ref (qC 10)])), ((qC 0), .inl (cI, 500, .inl g3))] H := by rw [eg3]; exact hP
  have hD : va_D A [(aC, .inr (2, [.ref (qC 0), .int 12, .int 0, .int (-1), .int 0, .ref (qC 5), .ref (qC 6), .ref (qC 7), .ref (qC 8), .ref (qC 9), .ref (qC 10)])), ((qC 0), .inl (cI, 500, .inl g3))] := by rw [eg3]; exact hD
  refine lv_aload_n hx hb dX2_takeFour_23 rfl (lv_at hl 1 rfl) ?_
  refine lv_dup hx hb dX2_takeFour_24 rfl ?_
  refine va_get (D := D) (ci := 2) (v := .int 12) (C := RX2) (T := TX2) (N := 11) hx hb htg iwG_2 hown hE.1 hP 0 rfl rfl 1 (by decide) (htg _ wm_35) (fun _ h9 => h9) rfl dX2_takeFour_25 ?_
  refine lv_iconst (v := 1) hx hb dX2_takeFour_28 (by decide +kernel) ?_
  refine lv_iadd hx hb dX2_takeFour_29 ?_
  refine g_top 13 (by decide +kernel) ?_
  refine va_put (D := D) (ci := 2) (v := .int 13) (ty := tyX2 1) (C := RX2) (T := TX2) (N := 11) hx hb htg iwG_2 tyX2 tyX2_ok nmX2 hown hE.1 hP hD hS 0 rfl rfl 1 (by decide) (htg _ wm_35) (fun _ h9 => h9) rfl (by decide +kernel) rfl rfl (Nat.le_of_ble_eq_true rfl) dX2_takeFour_30 (fun H locs hP hD hS => ?_)
  have hP : va_P D vwCl [(aC, .inr (2, [.ref (qC 0), .int 13, .int 0, .int (-1), .int 0, .ref (qC 5), .ref (qC 6), .ref (qC 7), .ref (qC 8), .ref (qC 9), .ref (qC 10)])), ((qC 0), .inl (cI, 500, .inl g3))] H := hP
  have hD : va_D A [(aC, .inr (2, [.ref (qC 0), .int 13, .int 0, .int (-1), .int 0, .ref (qC 5), .ref (qC 6), .ref (qC 7), .ref (qC 8), .ref (qC 9), .ref (qC 10)])), ((qC 0), .inl (cI, 500, .inl g3))] := hD
  refine lv_iinc (v := 16) (lv' := [(2, .int 16), (0, .ref aC), (1, .int y0)]) hx hb dX2_takeFour_33 hl (k := 0) rfl (by decide +kernel) (by decide) rfl (fun ls hl => ?_)
  refine lv_goto (tgt := 3) hx hb dX2_takeFour_36 (by decide) ?_
  refine lv_iload_n hx hb dX2_takeFour_3 rfl (lv_at hl 0 rfl) ?_
  refine lv_if_lt (tgt := 39) hx hb dX2_takeFour_4 (by decide) (fun c9 => absurd c9 (by decide +kernel)) (fun _ => ?_)
  refine lv_aload_n hx hb dX2_takeFour_7 rfl (lv_at hl 1 rfl) ?_
  refine va_get (D := D) (ci := 2) (v := .ref (qC 0)) (C := RX2) (T := TX2) (N := 11) hx hb htg iwG_2 hown hE.1 hP 0 rfl rfl 0 (by decide) (htg _ wm_34) (fun _ h9 => h9) rfl dX2_takeFour_8 ?_
  refine lv_aload_n hx hb dX2_takeFour_11 rfl (lv_at hl 1 rfl) ?_
  refine va_get (D := D) (ci := 2) (v := .int 13) (C := RX2) (T := TX2) (N := 11) hx hb htg iwG_2 hown hE.1 hP 0 rfl rfl 1 (by decide) (htg _ wm_35) (fun _ h9 => h9) rfl dX2_takeFour_12 ?_
  refine lv_iload_n hx hb dX2_takeFour_15 rfl (lv_at hl 2 rfl) ?_
  refine lv_iload_n hx hb dX2_takeFour_16 rfl (lv_at hl 0 rfl) ?_
  refine lv_ishr hx hb dX2_takeFour_17 ?_
  refine lv_topi (fun v4 ev4 => ?_)
  refine lv_sipush (v := 255) hx hb dX2_takeFour_18 (by decide +kernel) ?_
  refine lv_iand hx hb dX2_takeFour_21 ?_
  refine lv_topi (fun v5 ev5 => ?_)
  refine va_iast hx hb hE.1 hP hD hS 1 0 rfl rfl (vp_in_iff.mpr ⟨by decide +kernel, by decide +kernel⟩) dX2_takeFour_22 (fun H locs hP hD hS => ?_)
  obtain ⟨g6, eg6⟩ : ∃ gz : Nat → Int32, gz = upd g3 (13 : Int32).toNatClampNeg v5 := ⟨_, rfl⟩
  have hP : va_P D vwCl [(aC, .inr (2, [.ref (qC 0), .int 13, .int 0, .int (-1), .int 0, .ref (qC 5), .ref (qC 6), .ref (qC 7), .ref (qC 8), .ref (qC 9), .ref (qC 10)])), ((qC 0), .inl (cI, 500, .inl g6))] H := by rw [eg6]; exact hP
  have hD : va_D A [(aC, .inr (2, [.ref (qC 0), .int 13, .int 0, .int (-1), .int 0, .ref (qC 5), .ref (qC 6), .ref (qC 7), .ref (qC 8), .ref (qC 9), .ref (qC 10)])), ((qC 0), .inl (cI, 500, .inl g6))] := by rw [eg6]; exact hD
  refine lv_aload_n hx hb dX2_takeFour_23 rfl (lv_at hl 1 rfl) ?_
  refine lv_dup hx hb dX2_takeFour_24 rfl ?_
  refine va_get (D := D) (ci := 2) (v := .int 13) (C := RX2) (T := TX2) (N := 11) hx hb htg iwG_2 hown hE.1 hP 0 rfl rfl 1 (by decide) (htg _ wm_35) (fun _ h9 => h9) rfl dX2_takeFour_25 ?_
  refine lv_iconst (v := 1) hx hb dX2_takeFour_28 (by decide +kernel) ?_
  refine lv_iadd hx hb dX2_takeFour_29 ?_
  refine g_top 14 (by decide +kernel) ?_
  refine va_put (D := D) (ci := 2) (v := .int 14) (ty := tyX2 1) (C := RX2) (T := TX2) (N := 11) hx hb htg iwG_2 tyX2 tyX2_ok nmX2 hown hE.1 hP hD hS 0 rfl rfl 1 (by decide) (htg _ wm_35) (fun _ h9 => h9) rfl (by decide +kernel) rfl rfl (Nat.le_of_ble_eq_true rfl) dX2_takeFour_30 (fun H locs hP hD hS => ?_)
  have hP : va_P D vwCl [(aC, .inr (2, [.ref (qC 0), .int 14, .int 0, .int (-1), .int 0, .ref (qC 5), .ref (qC 6), .ref (qC 7), .ref (qC 8), .ref (qC 9), .ref (qC 10)])), ((qC 0), .inl (cI, 500, .inl g6))] H := hP
  have hD : va_D A [(aC, .inr (2, [.ref (qC 0), .int 14, .int 0, .int (-1), .int 0, .ref (qC 5), .ref (qC 6), .ref (qC 7), .ref (qC 8), .ref (qC 9), .ref (qC 10)])), ((qC 0), .inl (cI, 500, .inl g6))] := hD
  refine lv_iinc (v := 8) (lv' := [(2, .int 8), (0, .ref aC), (1, .int y0)]) hx hb dX2_takeFour_33 hl (k := 0) rfl (by decide +kernel) (by decide) rfl (fun ls hl => ?_)
  refine lv_goto (tgt := 3) hx hb dX2_takeFour_36 (by decide) ?_
  refine lv_iload_n hx hb dX2_takeFour_3 rfl (lv_at hl 0 rfl) ?_
  refine lv_if_lt (tgt := 39) hx hb dX2_takeFour_4 (by decide) (fun c9 => absurd c9 (by decide +kernel)) (fun _ => ?_)
  refine lv_aload_n hx hb dX2_takeFour_7 rfl (lv_at hl 1 rfl) ?_
  refine va_get (D := D) (ci := 2) (v := .ref (qC 0)) (C := RX2) (T := TX2) (N := 11) hx hb htg iwG_2 hown hE.1 hP 0 rfl rfl 0 (by decide) (htg _ wm_34) (fun _ h9 => h9) rfl dX2_takeFour_8 ?_
  refine lv_aload_n hx hb dX2_takeFour_11 rfl (lv_at hl 1 rfl) ?_
  refine va_get (D := D) (ci := 2) (v := .int 14) (C := RX2) (T := TX2) (N := 11) hx hb htg iwG_2 hown hE.1 hP 0 rfl rfl 1 (by decide) (htg _ wm_35) (fun _ h9 => h9) rfl dX2_takeFour_12 ?_
  refine lv_iload_n hx hb dX2_takeFour_15 rfl (lv_at hl 2 rfl) ?_
  refine lv_iload_n hx hb dX2_takeFour_16 rfl (lv_at hl 0 rfl) ?_
  refine lv_ishr hx hb dX2_takeFour_17 ?_
  refine lv_topi (fun v7 ev7 => ?_)
  refine lv_sipush (v := 255) hx hb dX2_takeFour_18 (by decide +kernel) ?_
  refine lv_iand hx hb dX2_takeFour_21 ?_
  refine lv_topi (fun v8 ev8 => ?_)
  refine va_iast hx hb hE.1 hP hD hS 1 0 rfl rfl (vp_in_iff.mpr ⟨by decide +kernel, by decide +kernel⟩) dX2_takeFour_22 (fun H locs hP hD hS => ?_)
  obtain ⟨g9, eg9⟩ : ∃ gz : Nat → Int32, gz = upd g6 (14 : Int32).toNatClampNeg v8 := ⟨_, rfl⟩
  have hP : va_P D vwCl [(aC, .inr (2, [.ref (qC 0), .int 14, .int 0, .int (-1), .int 0, .ref (qC 5), .ref (qC 6), .ref (qC 7), .ref (qC 8), .ref (qC 9), .ref (qC 10)])), ((qC 0), .inl (cI, 500, .inl g9))] H := by rw [eg9]; exact hP
  have hD : va_D A [(aC, .inr (2, [.ref (qC 0), .int 14, .int 0, .int (-1), .int 0, .ref (qC 5), .ref (qC 6), .ref (qC 7), .ref (qC 8), .ref (qC 9), .ref (qC 10)])), ((qC 0), .inl (cI, 500, .inl g9))] := by rw [eg9]; exact hD
  refine lv_aload_n hx hb dX2_takeFour_23 rfl (lv_at hl 1 rfl) ?_
  refine lv_dup hx hb dX2_takeFour_24 rfl ?_
  refine va_get (D := D) (ci := 2) (v := .int 14) (C := RX2) (T := TX2) (N := 11) hx hb htg iwG_2 hown hE.1 hP 0 rfl rfl 1 (by decide) (htg _ wm_35) (fun _ h9 => h9) rfl dX2_takeFour_25 ?_
  refine lv_iconst (v := 1) hx hb dX2_takeFour_28 (by decide +kernel) ?_
  refine lv_iadd hx hb dX2_takeFour_29 ?_
  refine g_top 15 (by decide +kernel) ?_
  refine va_put (D := D) (ci := 2) (v := .int 15) (ty := tyX2 1) (C := RX2) (T := TX2) (N := 11) hx hb htg iwG_2 tyX2 tyX2_ok nmX2 hown hE.1 hP hD hS 0 rfl rfl 1 (by decide) (htg _ wm_35) (fun _ h9 => h9) rfl (by decide +kernel) rfl rfl (Nat.le_of_ble_eq_true rfl) dX2_takeFour_30 (fun H locs hP hD hS => ?_)
  have hP : va_P D vwCl [(aC, .inr (2, [.ref (qC 0), .int 15, .int 0, .int (-1), .int 0, .ref (qC 5), .ref (qC 6), .ref (qC 7), .ref (qC 8), .ref (qC 9), .ref (qC 10)])), ((qC 0), .inl (cI, 500, .inl g9))] H := hP
  have hD : va_D A [(aC, .inr (2, [.ref (qC 0), .int 15, .int 0, .int (-1), .int 0, .ref (qC 5), .ref (qC 6), .ref (qC 7), .ref (qC 8), .ref (qC 9), .ref (qC 10)])), ((qC 0), .inl (cI, 500, .inl g9))] := hD
  refine lv_iinc (v := 0) (lv' := [(2, .int 0), (0, .ref aC), (1, .int y0)]) hx hb dX2_takeFour_33 hl (k := 0) rfl (by decide +kernel) (by decide) rfl (fun ls hl => ?_)
  refine lv_goto (tgt := 3) hx hb dX2_takeFour_36 (by decide) ?_
  refine lv_iload_n hx hb dX2_takeFour_3 rfl (lv_at hl 0 rfl) ?_
  refine lv_if_lt (tgt := 39) hx hb dX2_takeFour_4 (by decide) (fun c9 => absurd c9 (by decide +kernel)) (fun _ => ?_)
  refine lv_aload_n hx hb dX2_takeFour_7 rfl (lv_at hl 1 rfl) ?_
  refine va_get (D := D) (ci := 2) (v := .ref (qC 0)) (C := RX2) (T := TX2) (N := 11) hx hb htg iwG_2 hown hE.1 hP 0 rfl rfl 0 (by decide) (htg _ wm_34) (fun _ h9 => h9) rfl dX2_takeFour_8 ?_
  refine lv_aload_n hx hb dX2_takeFour_11 rfl (lv_at hl 1 rfl) ?_
  refine va_get (D := D) (ci := 2) (v := .int 15) (C := RX2) (T := TX2) (N := 11) hx hb htg iwG_2 hown hE.1 hP 0 rfl rfl 1 (by decide) (htg _ wm_35) (fun _ h9 => h9) rfl dX2_takeFour_12 ?_
  refine lv_iload_n hx hb dX2_takeFour_15 rfl (lv_at hl 2 rfl) ?_
  refine lv_iload_n hx hb dX2_takeFour_16 rfl (lv_at hl 0 rfl) ?_
  refine lv_ishr hx hb dX2_takeFour_17 ?_
  refine lv_topi (fun v10 ev10 => ?_)
  refine lv_sipush (v := 255) hx hb dX2_takeFour_18 (by decide +kernel) ?_
  refine lv_iand hx hb dX2_takeFour_21 ?_
  refine lv_topi (fun v11 ev11 => ?_)
  refine va_iast hx hb hE.1 hP hD hS 1 0 rfl rfl (vp_in_iff.mpr ⟨by decide +kernel, by decide +kernel⟩) dX2_takeFour_22 (fun H locs hP hD hS => ?_)
  obtain ⟨g12, eg12⟩ : ∃ gz : Nat → Int32, gz = upd g9 (15 : Int32).toNatClampNeg v11 := ⟨_, rfl⟩
  have hP : va_P D vwCl [(aC, .inr (2, [.ref (qC 0), .int 15, .int 0, .int (-1), .int 0, .ref (qC 5), .ref (qC 6), .ref (qC 7), .ref (qC 8), .ref (qC 9), .ref (qC 10)])), ((qC 0), .inl (cI, 500, .inl g12))] H := by rw [eg12]; exact hP
  have hD : va_D A [(aC, .inr (2, [.ref (qC 0), .int 15, .int 0, .int (-1), .int 0, .ref (qC 5), .ref (qC 6), .ref (qC 7), .ref (qC 8), .ref (qC 9), .ref (qC 10)])), ((qC 0), .inl (cI, 500, .inl g12))] := by rw [eg12]; exact hD
  refine lv_aload_n hx hb dX2_takeFour_23 rfl (lv_at hl 1 rfl) ?_
  refine lv_dup hx hb dX2_takeFour_24 rfl ?_
  refine va_get (D := D) (ci := 2) (v := .int 15) (C := RX2) (T := TX2) (N := 11) hx hb htg iwG_2 hown hE.1 hP 0 rfl rfl 1 (by decide) (htg _ wm_35) (fun _ h9 => h9) rfl dX2_takeFour_25 ?_
  refine lv_iconst (v := 1) hx hb dX2_takeFour_28 (by decide +kernel) ?_
  refine lv_iadd hx hb dX2_takeFour_29 ?_
  refine g_top 16 (by decide +kernel) ?_
  refine va_put (D := D) (ci := 2) (v := .int 16) (ty := tyX2 1) (C := RX2) (T := TX2) (N := 11) hx hb htg iwG_2 tyX2 tyX2_ok nmX2 hown hE.1 hP hD hS 0 rfl rfl 1 (by decide) (htg _ wm_35) (fun _ h9 => h9) rfl (by decide +kernel) rfl rfl (Nat.le_of_ble_eq_true rfl) dX2_takeFour_30 (fun H locs hP hD hS => ?_)
  have hP : va_P D vwCl [(aC, .inr (2, [.ref (qC 0), .int 16, .int 0, .int (-1), .int 0, .ref (qC 5), .ref (qC 6), .ref (qC 7), .ref (qC 8), .ref (qC 9), .ref (qC 10)])), ((qC 0), .inl (cI, 500, .inl g12))] H := hP
  have hD : va_D A [(aC, .inr (2, [.ref (qC 0), .int 16, .int 0, .int (-1), .int 0, .ref (qC 5), .ref (qC 6), .ref (qC 7), .ref (qC 8), .ref (qC 9), .ref (qC 10)])), ((qC 0), .inl (cI, 500, .inl g12))] := hD
  refine lv_iinc (v := (-8)) (lv' := [(2, .int (-8)), (0, .ref aC), (1, .int y0)]) hx hb dX2_takeFour_33 hl (k := 0) rfl (by decide +kernel) (by decide) rfl (fun ls hl => ?_)
  refine lv_goto (tgt := 3) hx hb dX2_takeFour_36 (by decide) ?_
  refine lv_iload_n hx hb dX2_takeFour_3 rfl (lv_at hl 0 rfl) ?_
  refine lv_if_lt (tgt := 39) hx hb dX2_takeFour_4 (by decide) (fun _ => ?_) (fun c9 => absurd c9 (by decide +kernel))
  exact g_vret g12 hF hr hlocks (hP.sub [0, 1] rfl) (hD.sub [0, 1] rfl rfl) hS trivial dX2_takeFour_39 (Nat.le_of_ble_eq_true rfl) (Nat.le_of_ble_eq_true rfl)
