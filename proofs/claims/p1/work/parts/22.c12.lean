set_option maxHeartbeats 8000000 in
set_option maxRecDepth 100000 in
theorem c_X12_four_4 {l : Launch} {D : va_G} {cI cB cS cZ cW : ClassId} {aM : Nat} {y0 : Int32} {qM : Nat → Nat} {gb : Nat → Int32} {g : Nat → Int32} (hg : g (0 : Int32).toNatClampNeg = 4) {sz : Nat} : MV l D (gT cI cB cS cZ cW) yX12_four (wG yX12_four cX12_four 3 none) { frames := 0, cells := 0, slots := 0, locals := 0 } [.ref aM, .int y0] [(aM, oM qM 0 0 0 0 0 0 0 0 0 0 0 0 0 0 0 0 0 0), ((qM 1), .inl (cB, 2000, .inl gb)), ((qM 2), .inl (cI, 4, .inl g))] sz (fun (u : (Nat → Int32) × (Nat → Int32)) => u.1 (0 : Int32).toNatClampNeg = 8) (fun (u : (Nat → Int32) × (Nat → Int32)) => [(aM, oM qM 0 0 0 0 0 0 0 0 0 0 0 0 0 0 0 0 0 0), ((qM 1), .inl (cB, 2000, .inl u.2)), ((qM 2), .inl (cI, 4, .inl u.1))] : ((Nat → Int32) × (Nat → Int32)) → va_W) 0 0 := by
  refine g_enter (y := yX12_four) (w := (wG yX12_four cX12_four 3 none)) (As := [.ref aM, .int y0]) (D := D) (T := gT cI cB cS cZ cW) (ws := [(aM, oM qM 0 0 0 0 0 0 0 0 0 0 0 0 0 0 0 0 0 0), ((qM 1), .inl (cB, 2000, .inl gb)), ((qM 2), .inl (cI, 4, .inl g))]) (gQv D (fun (u : (Nat → Int32) × (Nat → Int32)) => u.1 (0 : Int32).toNatClampNeg = 8) (fun (u : (Nat → Int32) × (Nat → Int32)) => [(aM, oM qM 0 0 0 0 0 0 0 0 0 0 0 0 0 0 0 0 0 0), ((qM 1), .inl (cB, 2000, .inl u.2)), ((qM 2), .inl (cI, 4, .inl u.1))] : ((Nat → Int32) × (Nat → Int32)) → va_W)) (cc := cX12_four) (maxL := 3) (ret := none) (by decide) rfl (Nat.le_of_ble_eq_true rfl) ?_
  intro p e s m below meth c A ls hF hr hlocks hname hsz hE hA hP hD hS hl
  have hF : CallFix p m c cX12_four 3 s ([.ref aM, .int y0] : List Value).toArray (wG yX12_four cX12_four 3 none) RX12 := hF
  obtain ⟨hx, hb, hml, hown, hts⟩ := id hF
  have htg : ∀ w ∈ GL, w.before ([.ref aM, .int y0] : List Value).toArray s = true := fun w h => hts w (List.mem_cons_of_mem _ h)
  have hl : lv_has ls 3 [(0, .ref aM), (1, .int y0)] := hl
  have zm8 := tm_8
  have z0 := t_0
  have z1 := t_1
  have z4 := t_4
  have z5 := t_5
  have z6 := t_6
  have z7 := t_7
  have z8 := t_8
  have z16 := t_16
  have z24 := t_24
  refine lv_bipush (v := 24) hx hb dX12_four_0 (by decide +kernel) ?_
  refine lv_istore_n (lv' := [(2, .int 24), (0, .ref aM), (1, .int y0)]) hx hb dX12_four_2 rfl hl (by decide) rfl (fun ls hl => ?_)
  refine lv_iload_n hx hb dX12_four_3 rfl (lv_at hl 0 rfl) ?_
  refine lv_if_lt (tgt := 38) hx hb dX12_four_4 (by decide) (fun c9 => absurd c9 (by decide +kernel)) (fun _ => ?_)
  refine lv_aload_n hx hb dX12_four_7 rfl (lv_at hl 1 rfl) ?_
  refine va_get (D := D) (ci := 12) (v := .ref (qM 1)) (C := RX12) (T := TX12) (N := 97) hx hb htg iwG_12 hown hE.1 hP 0 rfl rfl 1 (by decide) (htg _ wm_467) (fun _ h9 => h9) rfl dX12_four_8 ?_
  refine lv_aload_n hx hb dX12_four_11 rfl (lv_at hl 1 rfl) ?_
  refine va_get (D := D) (ci := 12) (v := .ref (qM 2)) (C := RX12) (T := TX12) (N := 97) hx hb htg iwG_12 hown hE.1 hP 0 rfl rfl 2 (by decide) (htg _ wm_468) (fun _ h9 => h9) rfl dX12_four_12 ?_
  refine lv_iconst (v := 0) hx hb dX12_four_15 (by decide +kernel) ?_
  refine va_iald hx hb hE.1 hP 2 0 rfl rfl (vp_in_iff.mpr ⟨by decide +kernel, by decide +kernel⟩) dX12_four_16 ?_
  refine g_top 4 hg ?_
  refine lv_iload_n hx hb dX12_four_17 rfl (lv_at hl 2 rfl) ?_
  refine lv_iload_n hx hb dX12_four_18 rfl (lv_at hl 0 rfl) ?_
  refine lv_ishr hx hb dX12_four_19 ?_
  refine lv_topi (fun v1 ev1 => ?_)
  obtain ⟨v2, ev2⟩ : ∃ y : Int32, y = Int8.toInt32 (Int32.toInt8 v1) := ⟨_, rfl⟩
  refine lv_i2b (v := v2) hx hb dX12_four_20 ev2.symm ?_
  refine va_bast hx hb hE.1 hP hD hS 1 1 rfl rfl (vp_in_iff.mpr ⟨by decide +kernel, by decide +kernel⟩) dX12_four_21 (fun H locs hP hD hS => ?_)
  obtain ⟨g3, eg3⟩ : ∃ gz : Nat → Int32, gz = upd gb (4 : Int32).toNatClampNeg (vp_nar .byte v2) := ⟨_, rfl⟩
  have hP : va_P D vwCl [(aM, oM qM 0 0 0 0 0 0 0 0 0 0 0 0 0 0 0 0 0 0), ((qM 1), .inl (cB, 2000, .inl g3)), ((qM 2), .inl (cI, 4, .inl g))] H := by rw [eg3]; exact hP
  have hD : va_D A [(aM, oM qM 0 0 0 0 0 0 0 0 0 0 0 0 0 0 0 0 0 0), ((qM 1), .inl (cB, 2000, .inl g3)), ((qM 2), .inl (cI, 4, .inl g))] := by rw [eg3]; exact hD
  refine lv_aload_n hx hb dX12_four_22 rfl (lv_at hl 1 rfl) ?_
  refine va_get (D := D) (ci := 12) (v := .ref (qM 2)) (C := RX12) (T := TX12) (N := 97) hx hb htg iwG_12 hown hE.1 hP 0 rfl rfl 2 (by decide) (htg _ wm_468) (fun _ h9 => h9) rfl dX12_four_23 ?_
  refine lv_iconst (v := 0) hx hb dX12_four_26 (by decide +kernel) ?_
  refine lv_dup2_11 hx hb dX12_four_27 rfl rfl ?_
  refine va_iald hx hb hE.1 hP 2 0 rfl rfl (vp_in_iff.mpr ⟨by decide +kernel, by decide +kernel⟩) dX12_four_28 ?_
  refine g_top 4 hg ?_
  refine lv_iconst (v := 1) hx hb dX12_four_29 (by decide +kernel) ?_
  refine lv_iadd hx hb dX12_four_30 ?_
  refine g_top 5 (by decide +kernel) ?_
  refine va_iast hx hb hE.1 hP hD hS 2 0 rfl rfl (vp_in_iff.mpr ⟨by decide +kernel, by decide +kernel⟩) dX12_four_31 (fun H locs hP hD hS => ?_)
  obtain ⟨g4, eg4, fg4⟩ : ∃ gz : Nat → Int32, gz = upd g (0 : Int32).toNatClampNeg 5 ∧ gz (0 : Int32).toNatClampNeg = 5 := ⟨_, rfl, pk_us⟩
  have hP : va_P D vwCl [(aM, oM qM 0 0 0 0 0 0 0 0 0 0 0 0 0 0 0 0 0 0), ((qM 1), .inl (cB, 2000, .inl g3)), ((qM 2), .inl (cI, 4, .inl g4))] H := by rw [eg4]; exact hP
  have hD : va_D A [(aM, oM qM 0 0 0 0 0 0 0 0 0 0 0 0 0 0 0 0 0 0), ((qM 1), .inl (cB, 2000, .inl g3)), ((qM 2), .inl (cI, 4, .inl g4))] := by rw [eg4]; exact hD
  refine lv_iinc (v := 16) (lv' := [(2, .int 16), (0, .ref aM), (1, .int y0)]) hx hb dX12_four_32 hl (k := 0) rfl (by decide +kernel) (by decide) rfl (fun ls hl => ?_)
  refine lv_goto (tgt := 3) hx hb dX12_four_35 (by decide) ?_
  refine lv_iload_n hx hb dX12_four_3 rfl (lv_at hl 0 rfl) ?_
  refine lv_if_lt (tgt := 38) hx hb dX12_four_4 (by decide) (fun c9 => absurd c9 (by decide +kernel)) (fun _ => ?_)
  refine lv_aload_n hx hb dX12_four_7 rfl (lv_at hl 1 rfl) ?_
  refine va_get (D := D) (ci := 12) (v := .ref (qM 1)) (C := RX12) (T := TX12) (N := 97) hx hb htg iwG_12 hown hE.1 hP 0 rfl rfl 1 (by decide) (htg _ wm_467) (fun _ h9 => h9) rfl dX12_four_8 ?_
  refine lv_aload_n hx hb dX12_four_11 rfl (lv_at hl 1 rfl) ?_
  refine va_get (D := D) (ci := 12) (v := .ref (qM 2)) (C := RX12) (T := TX12) (N := 97) hx hb htg iwG_12 hown hE.1 hP 0 rfl rfl 2 (by decide) (htg _ wm_468) (fun _ h9 => h9) rfl dX12_four_12 ?_
  refine lv_iconst (v := 0) hx hb dX12_four_15 (by decide +kernel) ?_
  refine va_iald hx hb hE.1 hP 2 0 rfl rfl (vp_in_iff.mpr ⟨by decide +kernel, by decide +kernel⟩) dX12_four_16 ?_
  refine g_top 5 fg4 ?_
  refine lv_iload_n hx hb dX12_four_17 rfl (lv_at hl 2 rfl) ?_
  refine lv_iload_n hx hb dX12_four_18 rfl (lv_at hl 0 rfl) ?_
  refine lv_ishr hx hb dX12_four_19 ?_
  refine lv_topi (fun v5 ev5 => ?_)
  obtain ⟨v6, ev6⟩ : ∃ y : Int32, y = Int8.toInt32 (Int32.toInt8 v5) := ⟨_, rfl⟩
  refine lv_i2b (v := v6) hx hb dX12_four_20 ev6.symm ?_
  refine va_bast hx hb hE.1 hP hD hS 1 1 rfl rfl (vp_in_iff.mpr ⟨by decide +kernel, by decide +kernel⟩) dX12_four_21 (fun H locs hP hD hS => ?_)
  obtain ⟨g7, eg7⟩ : ∃ gz : Nat → Int32, gz = upd g3 (5 : Int32).toNatClampNeg (vp_nar .byte v6) := ⟨_, rfl⟩
  have hP : va_P D vwCl [(aM, oM qM 0 0 0 0 0 0 0 0 0 0 0 0 0 0 0 0 0 0), ((qM 1), .inl (cB, 2000, .inl g7)), ((qM 2), .inl (cI, 4, .inl g4))] H := by rw [eg7]; exact hP
  have hD : va_D A [(aM, oM qM 0 0 0 0 0 0 0 0 0 0 0 0 0 0 0 0 0 0), ((qM 1), .inl (cB, 2000, .inl g7)), ((qM 2), .inl (cI, 4, .inl g4))] := by rw [eg7]; exact hD
  refine lv_aload_n hx hb dX12_four_22 rfl (lv_at hl 1 rfl) ?_
  refine va_get (D := D) (ci := 12) (v := .ref (qM 2)) (C := RX12) (T := TX12) (N := 97) hx hb htg iwG_12 hown hE.1 hP 0 rfl rfl 2 (by decide) (htg _ wm_468) (fun _ h9 => h9) rfl dX12_four_23 ?_
  refine lv_iconst (v := 0) hx hb dX12_four_26 (by decide +kernel) ?_
  refine lv_dup2_11 hx hb dX12_four_27 rfl rfl ?_
  refine va_iald hx hb hE.1 hP 2 0 rfl rfl (vp_in_iff.mpr ⟨by decide +kernel, by decide +kernel⟩) dX12_four_28 ?_
  refine g_top 5 fg4 ?_
  refine lv_iconst (v := 1) hx hb dX12_four_29 (by decide +kernel) ?_
  refine lv_iadd hx hb dX12_four_30 ?_
  refine g_top 6 (by decide +kernel) ?_
  refine va_iast hx hb hE.1 hP hD hS 2 0 rfl rfl (vp_in_iff.mpr ⟨by decide +kernel, by decide +kernel⟩) dX12_four_31 (fun H locs hP hD hS => ?_)
  obtain ⟨g8, eg8, fg8⟩ : ∃ gz : Nat → Int32, gz = upd g4 (0 : Int32).toNatClampNeg 6 ∧ gz (0 : Int32).toNatClampNeg = 6 := ⟨_, rfl, pk_us⟩
  have hP : va_P D vwCl [(aM, oM qM 0 0 0 0 0 0 0 0 0 0 0 0 0 0 0 0 0 0), ((qM 1), .inl (cB, 2000, .inl g7)), ((qM 2), .inl (cI, 4, .inl g8))] H := by rw [eg8]; exact hP
  have hD : va_D A [(aM, oM qM 0 0 0 0 0 0 0 0 0 0 0 0 0 0 0 0 0 0), ((qM 1), .inl (cB, 2000, .inl g7)), ((qM 2), .inl (cI, 4, .inl g8))] := by rw [eg8]; exact hD
  refine lv_iinc (v := 8) (lv' := [(2, .int 8), (0, .ref aM), (1, .int y0)]) hx hb dX12_four_32 hl (k := 0) rfl (by decide +kernel) (by decide) rfl (fun ls hl => ?_)
  refine lv_goto (tgt := 3) hx hb dX12_four_35 (by decide) ?_
  refine lv_iload_n hx hb dX12_four_3 rfl (lv_at hl 0 rfl) ?_
  refine lv_if_lt (tgt := 38) hx hb dX12_four_4 (by decide) (fun c9 => absurd c9 (by decide +kernel)) (fun _ => ?_)
  refine lv_aload_n hx hb dX12_four_7 rfl (lv_at hl 1 rfl) ?_
  refine va_get (D := D) (ci := 12) (v := .ref (qM 1)) (C := RX12) (T := TX12) (N := 97) hx hb htg iwG_12 hown hE.1 hP 0 rfl rfl 1 (by decide) (htg _ wm_467) (fun _ h9 => h9) rfl dX12_four_8 ?_
  refine lv_aload_n hx hb dX12_four_11 rfl (lv_at hl 1 rfl) ?_
  refine va_get (D := D) (ci := 12) (v := .ref (qM 2)) (C := RX12) (T := TX12) (N := 97) hx hb htg iwG_12 hown hE.1 hP 0 rfl rfl 2 (by decide) (htg _ wm_468) (fun _ h9 => h9) rfl dX12_four_12 ?_
  refine lv_iconst (v := 0) hx hb dX12_four_15 (by decide +kernel) ?_
  refine va_iald hx hb hE.1 hP 2 0 rfl rfl (vp_in_iff.mpr ⟨by decide +kernel, by decide +kernel⟩) dX12_four_16 ?_
  refine g_top 6 fg8 ?_
  refine lv_iload_n hx hb dX12_four_17 rfl (lv_at hl 2 rfl) ?_
  refine lv_iload_n hx hb dX12_four_18 rfl (lv_at hl 0 rfl) ?_
  refine lv_ishr hx hb dX12_four_19 ?_
  refine lv_topi (fun v9 ev9 => ?_)
  obtain ⟨v10, ev10⟩ : ∃ y : Int32, y = Int8.toInt32 (Int32.toInt8 v9) := ⟨_, rfl⟩
  refine lv_i2b (v := v10) hx hb dX12_four_20 ev10.symm ?_
  refine va_bast hx hb hE.1 hP hD hS 1 1 rfl rfl (vp_in_iff.mpr ⟨by decide +kernel, by decide +kernel⟩) dX12_four_21 (fun H locs hP hD hS => ?_)
  obtain ⟨g11, eg11⟩ : ∃ gz : Nat → Int32, gz = upd g7 (6 : Int32).toNatClampNeg (vp_nar .byte v10) := ⟨_, rfl⟩
  have hP : va_P D vwCl [(aM, oM qM 0 0 0 0 0 0 0 0 0 0 0 0 0 0 0 0 0 0), ((qM 1), .inl (cB, 2000, .inl g11)), ((qM 2), .inl (cI, 4, .inl g8))] H := by rw [eg11]; exact hP
  have hD : va_D A [(aM, oM qM 0 0 0 0 0 0 0 0 0 0 0 0 0 0 0 0 0 0), ((qM 1), .inl (cB, 2000, .inl g11)), ((qM 2), .inl (cI, 4, .inl g8))] := by rw [eg11]; exact hD
  refine lv_aload_n hx hb dX12_four_22 rfl (lv_at hl 1 rfl) ?_
  refine va_get (D := D) (ci := 12) (v := .ref (qM 2)) (C := RX12) (T := TX12) (N := 97) hx hb htg iwG_12 hown hE.1 hP 0 rfl rfl 2 (by decide) (htg _ wm_468) (fun _ h9 => h9) rfl dX12_four_23 ?_
  refine lv_iconst (v := 0) hx hb dX12_four_26 (by decide +kernel) ?_
  refine lv_dup2_11 hx hb dX12_four_27 rfl rfl ?_
  refine va_iald hx hb hE.1 hP 2 0 rfl rfl (vp_in_iff.mpr ⟨by decide +kernel, by decide +kernel⟩) dX12_four_28 ?_
  refine g_top 6 fg8 ?_
  refine lv_iconst (v := 1) hx hb dX12_four_29 (by decide +kernel) ?_
  refine lv_iadd hx hb dX12_four_30 ?_
  refine g_top 7 (by decide +kernel) ?_
  refine va_iast hx hb hE.1 hP hD hS 2 0 rfl rfl (vp_in_iff.mpr ⟨by decide +kernel, by decide +kernel⟩) dX12_four_31 (fun H locs hP hD hS => ?_)
  obtain ⟨g12, eg12, fg12⟩ : ∃ gz : Nat → Int32, gz = upd g8 (0 : Int32).toNatClampNeg 7 ∧ gz (0 : Int32).toNatClampNeg = 7 := ⟨_, rfl, pk_us⟩
  have hP : va_P D vwCl [(aM, oM qM 0 0 0 0 0 0 0 0 0 0 0 0 0 0 0 0 0 0), ((qM 1), .inl (cB, 2000, .inl g11)), ((qM 2), .inl (cI, 4, .inl g12))] H := by rw [eg12]; exact hP
  have hD : va_D A [(aM, oM qM 0 0 0 0 0 0 0 0 0 0 0 0 0 0 0 0 0 0), ((qM 1), .inl (cB, 2000, .inl g11)), ((qM 2), .inl (cI, 4, .inl g12))] := by rw [eg12]; exact hD
  refine lv_iinc (v := 0) (lv' := [(2, .int 0), (0, .ref aM), (1, .int y0)]) hx hb dX12_four_32 hl (k := 0) rfl (by decide +kernel) (by decide) rfl (fun ls hl => ?_)
  refine lv_goto (tgt := 3) hx hb dX12_four_35 (by decide) ?_
  refine lv_iload_n hx hb dX12_four_3 rfl (lv_at hl 0 rfl) ?_
  refine lv_if_lt (tgt := 38) hx hb dX12_four_4 (by decide) (fun c9 => absurd c9 (by decide +kernel)) (fun _ => ?_)
  refine lv_aload_n hx hb dX12_four_7 rfl (lv_at hl 1 rfl) ?_
  refine va_get (D := D) (ci := 12) (v := .ref (qM 1)) (C := RX12) (T := TX12) (N := 97) hx hb htg iwG_12 hown hE.1 hP 0 rfl rfl 1 (by decide) (htg _ wm_467) (fun _ h9 => h9) rfl dX12_four_8 ?_
  refine lv_aload_n hx hb dX12_four_11 rfl (lv_at hl 1 rfl) ?_
  refine va_get (D := D) (ci := 12) (v := .ref (qM 2)) (C := RX12) (T := TX12) (N := 97) hx hb htg iwG_12 hown hE.1 hP 0 rfl rfl 2 (by decide) (htg _ wm_468) (fun _ h9 => h9) rfl dX12_four_12 ?_
  refine lv_iconst (v := 0) hx hb dX12_four_15 (by decide +kernel) ?_
  refine va_iald hx hb hE.1 hP 2 0 rfl rfl (vp_in_iff.mpr ⟨by decide +kernel, by decide +kernel⟩) dX12_four_16 ?_
  refine g_top 7 fg12 ?_
  refine lv_iload_n hx hb dX12_four_17 rfl (lv_at hl 2 rfl) ?_
  refine lv_iload_n hx hb dX12_four_18 rfl (lv_at hl 0 rfl) ?_
  refine lv_ishr hx hb dX12_four_19 ?_
  refine lv_topi (fun v13 ev13 => ?_)
  obtain ⟨v14, ev14⟩ : ∃ y : Int32, y = Int8.toInt32 (Int32.toInt8 v13) := ⟨_, rfl⟩
  refine lv_i2b (v := v14) hx hb dX12_four_20 ev14.symm ?_
  refine va_bast hx hb hE.1 hP hD hS 1 1 rfl rfl (vp_in_iff.mpr ⟨by decide +kernel, by decide +kernel⟩) dX12_four_21 (fun H locs hP hD hS => ?_)
  obtain ⟨g15, eg15⟩ : ∃ gz : Nat → Int32, gz = upd g11 (7 : Int32).toNatClampNeg (vp_nar .byte v14) := ⟨_, rfl⟩
  have hP : va_P D vwCl [(aM, oM qM 0 0 0 0 0 0 0 0 0 0 0 0 0 0 0 0 0 0), ((qM 1), .inl (cB, 2000, .inl g15)), ((qM 2), .inl (cI, 4, .inl g12))] H := by rw [eg15]; exact hP
  have hD : va_D A [(aM, oM qM 0 0 0 0 0 0 0 0 0 0 0 0 0 0 0 0 0 0), ((qM 1), .inl (cB, 2000, .inl g15)), ((qM 2), .inl (cI, 4, .inl g12))] := by rw [eg15]; exact hD
  refine lv_aload_n hx hb dX12_four_22 rfl (lv_at hl 1 rfl) ?_
  refine va_get (D := D) (ci := 12) (v := .ref (qM 2)) (C := RX12) (T := TX12) (N := 97) hx hb htg iwG_12 hown hE.1 hP 0 rfl rfl 2 (by decide) (htg _ wm_468) (fun _ h9 => h9) rfl dX12_four_23 ?_
  refine lv_iconst (v := 0) hx hb dX12_four_26 (by decide +kernel) ?_
  refine lv_dup2_11 hx hb dX12_four_27 rfl rfl ?_
  refine va_iald hx hb hE.1 hP 2 0 rfl rfl (vp_in_iff.mpr ⟨by decide +kernel, by decide +kernel⟩) dX12_four_28 ?_
  refine g_top 7 fg12 ?_
  refine lv_iconst (v := 1) hx hb dX12_four_29 (by decide +kernel) ?_
  refine lv_iadd hx hb dX12_four_30 ?_
  refine g_top 8 (by decide +kernel) ?_
  refine va_iast hx hb hE.1 hP hD hS 2 0 rfl rfl (vp_in_iff.mpr ⟨by decide +kernel, by decide +kernel⟩) dX12_four_31 (fun H locs hP hD hS => ?_)
  obtain ⟨g16, eg16, fg16⟩ : ∃ gz : Nat → Int32, gz = upd g12 (0 : Int32).toNatClampNeg 8 ∧ gz (0 : Int32).toNatClampNeg = 8 := ⟨_, rfl, pk_us⟩
  have hP : va_P D vwCl [(aM, oM qM 0 0 0 0 0 0 0 0 0 0 0 0 0 0 0 0 0 0), ((qM 1), .inl (cB, 2000, .inl g15)), ((qM 2), .inl (cI, 4, .inl g16))] H := by rw [eg16]; exact hP
  have hD : va_D A [(aM, oM qM 0 0 0 0 0 0 0 0 0 0 0 0 0 0 0 0 0 0), ((qM 1), .inl (cB, 2000, .inl g15)), ((qM 2), .inl (cI, 4, .inl g16))] := by rw [eg16]; exact hD
  refine lv_iinc (v := (-8)) (lv' := [(2, .int (-8)), (0, .ref aM), (1, .int y0)]) hx hb dX12_four_32 hl (k := 0) rfl (by decide +kernel) (by decide) rfl (fun ls hl => ?_)
  refine lv_goto (tgt := 3) hx hb dX12_four_35 (by decide) ?_
  refine lv_iload_n hx hb dX12_four_3 rfl (lv_at hl 0 rfl) ?_
  refine lv_if_lt (tgt := 38) hx hb dX12_four_4 (by decide) (fun _ => ?_) (fun c9 => absurd c9 (by decide +kernel))
  exact g_vret (g16, g15) hF hr hlocks (hP.sub [0, 1, 2] rfl) (hD.sub [0, 1, 2] rfl rfl) hS fg16 dX12_four_38 (Nat.le_of_ble_eq_true rfl) (Nat.le_of_ble_eq_true rfl)
set_option maxHeartbeats 8000000 in
set_option maxRecDepth 100000 in
theorem c_X12_four_8 {l : Launch} {D : va_G} {cI cB cS cZ cW : ClassId} {aM : Nat} {y0 : Int32} {qM : Nat → Nat} {gb : Nat → Int32} {g : Nat → Int32} (hg : g (0 : Int32).toNatClampNeg = 8) {sz : Nat} : MV l D (gT cI cB cS cZ cW) yX12_four (wG yX12_four cX12_four 3 none) { frames := 0, cells := 0, slots := 0, locals := 0 } [.ref aM, .int y0] [(aM, oM qM 0 0 0 0 0 0 0 0 0 0 0 0 0 0 0 0 0 0), ((qM 1), .inl (cB, 2000, .inl gb)), ((qM 2), .inl (cI, 4, .inl g))] sz (fun (u : (Nat → Int32) × (Nat → Int32)) => u.1 (0 : Int32).toNatClampNeg = 12) (fun (u : (Nat → Int32) × (Nat → Int32)) => [(aM, oM qM 0 0 0 0 0 0 0 0 0 0 0 0 0 0 0 0 0 0), ((qM 1), .inl (cB, 2000, .inl u.2)), ((qM 2), .inl (cI, 4, .inl u.1))] : ((Nat → Int32) × (Nat → Int32)) → va_W) 0 0 := by
  refine g_enter (y := yX12_four) (w := (wG yX12_four cX12_four 3 none)) (As := [.ref aM, .int y0]) (D := D) (T := gT cI cB cS cZ cW) (ws := [(aM, oM qM 0 0 0 0 0 0 0 0 0 0 0 0 0 0 0 0 0 0), ((qM 1), .inl (cB, 2000, .inl gb)), ((qM 2), .inl (cI, 4, .inl g))]) (gQv D (fun (u : (Nat → Int32) × (Nat → Int32)) => u.1 (0 : Int32).toNatClampNeg = 12) (fun (u : (Nat → Int32) × (Nat → Int32)) => [(aM, oM qM 0 0 0 0 0 0 0 0 0 0 0 0 0 0 0 0 0 0), ((qM 1), .inl (cB, 2000, .inl u.2)), ((qM 2), .inl (cI, 4, .inl u.1))] : ((Nat → Int32) × (Nat → Int32)) → va_W)) (cc := cX12_four) (maxL := 3) (ret := none) (by decide) rfl (Nat.le_of_ble_eq_true rfl) ?_
  intro p e s m below meth c A ls hF hr hlocks hname hsz hE hA hP hD hS hl
  have hF : CallFix p m c cX12_four 3 s ([.ref aM, .int y0] : List Value).toArray (wG yX12_four cX12_four 3 none) RX12 := hF
  obtain ⟨hx, hb, hml, hown, hts⟩ := id hF
  have htg : ∀ w ∈ GL, w.before ([.ref aM, .int y0] : List Value).toArray s = true := fun w h => hts w (List.mem_cons_of_mem _ h)
  have hl : lv_has ls 3 [(0, .ref aM), (1, .int y0)] := hl
  have zm8 := tm_8
  have z0 := t_0
  have z1 := t_1
  have z8 := t_8
  have z9 := t_9
  have z10 := t_10
  have z11 := t_11
  have z12 := t_12
  have z16 := t_16
  have z24 := t_24
  refine lv_bipush (v := 24) hx hb dX12_four_0 (by decide +kernel) ?_
  refine lv_istore_n (lv' := [(2, .int 24), (0, .ref aM), (1, .int y0)]) hx hb dX12_four_2 rfl hl (by decide) rfl (fun ls hl => ?_)
  refine lv_iload_n hx hb dX12_four_3 rfl (lv_at hl 0 rfl) ?_
  refine lv_if_lt (tgt := 38) hx hb dX12_four_4 (by decide) (fun c9 => absurd c9 (by decide +kernel)) (fun _ => ?_)
  refine lv_aload_n hx hb dX12_four_7 rfl (lv_at hl 1 rfl) ?_
  refine va_get (D := D) (ci := 12) (v := .ref (qM 1)) (C := RX12) (T := TX12) (N := 97) hx hb htg iwG_12 hown hE.1 hP 0 rfl rfl 1 (by decide) (htg _ wm_467) (fun _ h9 => h9) rfl dX12_four_8 ?_
  refine lv_aload_n hx hb dX12_four_11 rfl (lv_at hl 1 rfl) ?_
  refine va_get (D := D) (ci := 12) (v := .ref (qM 2)) (C := RX12) (T := TX12) (N := 97) hx hb htg iwG_12 hown hE.1 hP 0 rfl rfl 2 (by decide) (htg _ wm_468) (fun _ h9 => h9) rfl dX12_four_12 ?_
  refine lv_iconst (v := 0) hx hb dX12_four_15 (by decide +kernel) ?_
  refine va_iald hx hb hE.1 hP 2 0 rfl rfl (vp_in_iff.mpr ⟨by decide +kernel, by decide +kernel⟩) dX12_four_16 ?_
  refine g_top 8 hg ?_
  refine lv_iload_n hx hb dX12_four_17 rfl (lv_at hl 2 rfl) ?_
  refine lv_iload_n hx hb dX12_four_18 rfl (lv_at hl 0 rfl) ?_
  refine lv_ishr hx hb dX12_four_19 ?_
  refine lv_topi (fun v1 ev1 => ?_)
  obtain ⟨v2, ev2⟩ : ∃ y : Int32, y = Int8.toInt32 (Int32.toInt8 v1) := ⟨_, rfl⟩
  refine lv_i2b (v := v2) hx hb dX12_four_20 ev2.symm ?_
  refine va_bast hx hb hE.1 hP hD hS 1 1 rfl rfl (vp_in_iff.mpr ⟨by decide +kernel, by decide +kernel⟩) dX12_four_21 (fun H locs hP hD hS => ?_)
  obtain ⟨g3, eg3⟩ : ∃ gz : Nat → Int32, gz = upd gb (8 : Int32).toNatClampNeg (vp_nar .byte v2) := ⟨_, rfl⟩
  have hP : va_P D vwCl [(aM, oM qM 0 0 0 0 0 0 0 0 0 0 0 0 0 0 0 0 0 0), ((qM 1), .inl (cB, 2000, .inl g3)), ((qM 2), .inl (cI, 4, .inl g))] H := by rw [eg3]; exact hP
  have hD : va_D A [(aM, oM qM 0 0 0 0 0 0 0 0 0 0 0 0 0 0 0 0 0 0), ((qM 1), .inl (cB, 2000, .inl g3)), ((qM 2), .inl (cI, 4, .inl g))] := by rw [eg3]; exact hD
  refine lv_aload_n hx hb dX12_four_22 rfl (lv_at hl 1 rfl) ?_
  refine va_get (D := D) (ci := 12) (v := .ref (qM 2)) (C := RX12) (T := TX12) (N := 97) hx hb htg iwG_12 hown hE.1 hP 0 rfl rfl 2 (by decide) (htg _ wm_468) (fun _ h9 => h9) rfl dX12_four_23 ?_
  refine lv_iconst (v := 0) hx hb dX12_four_26 (by decide +kernel) ?_
  refine lv_dup2_11 hx hb dX12_four_27 rfl rfl ?_
  refine va_iald hx hb hE.1 hP 2 0 rfl rfl (vp_in_iff.mpr ⟨by decide +kernel, by decide +kernel⟩) dX12_four_28 ?_
  refine g_top 8 hg ?_
  refine lv_iconst (v := 1) hx hb dX12_four_29 (by decide +kernel) ?_
  refine lv_iadd hx hb dX12_four_30 ?_
  refine g_top 9 (by decide +kernel) ?_
  refine va_iast hx hb hE.1 hP hD hS 2 0 rfl rfl (vp_in_iff.mpr ⟨by decide +kernel, by decide +kernel⟩) dX12_four_31 (fun H locs hP hD hS => ?_)
  obtain ⟨g4, eg4, fg4⟩ : ∃ gz : Nat → Int32, gz = upd g (0 : Int32).toNatClampNeg 9 ∧ gz (0 : Int32).toNatClampNeg = 9 := ⟨_, rfl, pk_us⟩
  have hP : va_P D vwCl [(aM, oM qM 0 0 0 0 0 0 0 0 0 0 0 0 0 0 0 0 0 0), ((qM 1), .inl (cB, 2000, .inl g3)), ((qM 2), .inl (cI, 4, .inl g4))] H := by rw [eg4]; exact hP
  have hD : va_D A [(aM, oM qM 0 0 0 0 0 0 0 0 0 0 0 0 0 0 0 0 0 0), ((qM 1), .inl (cB, 2000, .inl g3)), ((qM 2), .inl (cI, 4, .inl g4))] := by rw [eg4]; exact hD
  refine lv_iinc (v := 16) (lv' := [(2, .int 16), (0, .ref aM), (1, .int y0)]) hx hb dX12_four_32 hl (k := 0) rfl (by decide +kernel) (by decide) rfl (fun ls hl => ?_)
  refine lv_goto (tgt := 3) hx hb dX12_four_35 (by decide) ?_
  refine lv_iload_n hx hb dX12_four_3 rfl (lv_at hl 0 rfl) ?_
  refine lv_if_lt (tgt := 38) hx hb dX12_four_4 (by decide) (fun c9 => absurd c9 (by decide +kernel)) (fun _ => ?_)
  refine lv_aload_n hx hb dX12_four_7 rfl (lv_at hl 1 rfl) ?_
  refine va_get (D := D) (ci := 12) (v := .ref (qM 1)) (C := RX12) (T := TX12) (N := 97) hx hb htg iwG_12 hown hE.1 hP 0 rfl rfl 1 (by decide) (htg _ wm_467) (fun _ h9 => h9) rfl dX12_four_8 ?_
  refine lv_aload_n hx hb dX12_four_11 rfl (lv_at hl 1 rfl) ?_
  refine va_get (D := D) (ci := 12) (v := .ref (qM 2)) (C := RX12) (T := TX12) (N := 97) hx hb htg iwG_12 hown hE.1 hP 0 rfl rfl 2 (by decide) (htg _ wm_468) (fun _ h9 => h9) rfl dX12_four_12 ?_
  refine lv_iconst (v := 0) hx hb dX12_four_15 (by decide +kernel) ?_
  refine va_iald hx hb hE.1 hP 2 0 rfl rfl (vp_in_iff.mpr ⟨by decide +kernel, by decide +kernel⟩) dX12_four_16 ?_
  refine g_top 9 fg4 ?_
  refine lv_iload_n hx hb dX12_four_17 rfl (lv_at hl 2 rfl) ?_
  refine lv_iload_n hx hb dX12_four_18 rfl (lv_at hl 0 rfl) ?_
  refine lv_ishr hx hb dX12_four_19 ?_
  refine lv_topi (fun v5 ev5 => ?_)
  obtain ⟨v6, ev6⟩ : ∃ y : Int32, y = Int8.toInt32 (Int32.toInt8 v5) := ⟨_, rfl⟩
  refine lv_i2b (v := v6) hx hb dX12_four_20 ev6.symm ?_
  refine va_bast hx hb hE.1 hP hD hS 1 1 rfl rfl (vp_in_iff.mpr ⟨by decide +kernel, by decide +kernel⟩) dX12_four_21 (fun H locs hP hD hS => ?_)
  obtain ⟨g7, eg7⟩ : ∃ gz : Nat → Int32, gz = upd g3 (9 : Int32).toNatClampNeg (vp_nar .byte v6) := ⟨_, rfl⟩
  have hP : va_P D vwCl [(aM, oM qM 0 0 0 0 0 0 0 0 0 0 0 0 0 0 0 0 0 0), ((qM 1), .inl (cB, 2000, .inl g7)), ((qM 2), .inl (cI, 4, .inl g4))] H := by rw [eg7]; exact hP
  have hD : va_D A [(aM, oM qM 0 0 0 0 0 0 0 0 0 0 0 0 0 0 0 0 0 0), ((qM 1), .inl (cB, 2000, .inl g7)), ((qM 2), .inl (cI, 4, .inl g4))] := by rw [eg7]; exact hD
  refine lv_aload_n hx hb dX12_four_22 rfl (lv_at hl 1 rfl) ?_
  refine va_get (D := D) (ci := 12) (v := .ref (qM 2)) (C := RX12) (T := TX12) (N := 97) hx hb htg iwG_12 hown hE.1 hP 0 rfl rfl 2 (by decide) (htg _ wm_468) (fun _ h9 => h9) rfl dX12_four_23 ?_
  refine lv_iconst (v := 0) hx hb dX12_four_26 (by decide +kernel) ?_
  refine lv_dup2_11 hx hb dX12_four_27 rfl rfl ?_
  refine va_iald hx hb hE.1 hP 2 0 rfl rfl (vp_in_iff.mpr ⟨by decide +kernel, by decide +kernel⟩) dX12_four_28 ?_
  refine g_top 9 fg4 ?_
  refine lv_iconst (v := 1) hx hb dX12_four_29 (by decide +kernel) ?_
  refine lv_iadd hx hb dX12_four_30 ?_
  refine g_top 10 (by decide +kernel) ?_
  refine va_iast hx hb hE.1 hP hD hS 2 0 rfl rfl (vp_in_iff.mpr ⟨by decide +kernel, by decide +kernel⟩) dX12_four_31 (fun H locs hP hD hS => ?_)
  obtain ⟨g8, eg8, fg8⟩ : ∃ gz : Nat → Int32, gz = upd g4 (0 : Int32).toNatClampNeg 10 ∧ gz (0 : Int32).toNatClampNeg = 10 := ⟨_, rfl, pk_us⟩
  have hP : va_P D vwCl [(aM, oM qM 0 0 0 0 0 0 0 0 0 0 0 0 0 0 0 0 0 0), ((qM 1), .inl (cB, 2000, .inl g7)), ((qM 2), .inl (cI, 4, .inl g8))] H := by rw [eg8]; exact hP
  have hD : va_D A [(aM, oM qM 0 0 0 0 0 0 0 0 0 0 0 0 0 0 0 0 0 0), ((qM 1), .inl (cB, 2000, .inl g7)), ((qM 2), .inl (cI, 4, .inl g8))] := by rw [eg8]; exact hD
  refine lv_iinc (v := 8) (lv' := [(2, .int 8), (0, .ref aM), (1, .int y0)]) hx hb dX12_four_32 hl (k := 0) rfl (by decide +kernel) (by decide) rfl (fun ls hl => ?_)
  refine lv_goto (tgt := 3) hx hb dX12_four_35 (by decide) ?_
  refine lv_iload_n hx hb dX12_four_3 rfl (lv_at hl 0 rfl) ?_
  refine lv_if_lt (tgt := 38) hx hb dX12_four_4 (by decide) (fun c9 => absurd c9 (by decide +kernel)) (fun _ => ?_)
  refine lv_aload_n hx hb dX12_four_7 rfl (lv_at hl 1 rfl) ?_
  refine va_get (D := D) (ci := 12) (v := .ref (qM 1)) (C := RX12) (T := TX12) (N := 97) hx hb htg iwG_12 hown hE.1 hP 0 rfl rfl 1 (by decide) (htg _ wm_467) (fun _ h9 => h9) rfl dX12_four_8 ?_
  refine lv_aload_n hx hb dX12_four_11 rfl (lv_at hl 1 rfl) ?_
  refine va_get (D := D) (ci := 12) (v := .ref (qM 2)) (C := RX12) (T := TX12) (N := 97) hx hb htg iwG_12 hown hE.1 hP 0 rfl rfl 2 (by decide) (htg _ wm_468) (fun _ h9 => h9) rfl dX12_four_12 ?_
  refine lv_iconst (v := 0) hx hb dX12_four_15 (by decide +kernel) ?_
  refine va_iald hx hb hE.1 hP 2 0 rfl rfl (vp_in_iff.mpr ⟨by decide +kernel, by decide +kernel⟩) dX12_four_16 ?_
  refine g_top 10 fg8 ?_
  refine lv_iload_n hx hb dX12_four_17 rfl (lv_at hl 2 rfl) ?_
  refine lv_iload_n hx hb dX12_four_18 rfl (lv_at hl 0 rfl) ?_
  refine lv_ishr hx hb dX12_four_19 ?_
  refine lv_topi (fun v9 ev9 => ?_)
  obtain ⟨v10, ev10⟩ : ∃ y : Int32, y = Int8.toInt32 (Int32.toInt8 v9) := ⟨_, rfl⟩
  refine lv_i2b (v := v10) hx hb dX12_four_20 ev10.symm ?_
  refine va_bast hx hb hE.1 hP hD hS 1 1 rfl rfl (vp_in_iff.mpr ⟨by decide +kernel, by decide +kernel⟩) dX12_four_21 (fun H locs hP hD hS => ?_)
  obtain ⟨g11, eg11⟩ : ∃ gz : Nat → Int32, gz = upd g7 (10 : Int32).toNatClampNeg (vp_nar .byte v10) := ⟨_, rfl⟩
  have hP : va_P D vwCl [(aM, oM qM 0 0 0 0 0 0 0 0 0 0 0 0 0 0 0 0 0 0), ((qM 1), .inl (cB, 2000, .inl g11)), ((qM 2), .inl (cI, 4, .inl g8))] H := by rw [eg11]; exact hP
  have hD : va_D A [(aM, oM qM 0 0 0 0 0 0 0 0 0 0 0 0 0 0 0 0 0 0), ((qM 1), .inl (cB, 2000, .inl g11)), ((qM 2), .inl (cI, 4, .inl g8))] := by rw [eg11]; exact hD
  refine lv_aload_n hx hb dX12_four_22 rfl (lv_at hl 1 rfl) ?_
  refine va_get (D := D) (ci := 12) (v := .ref (qM 2)) (C := RX12) (T := TX12) (N := 97) hx hb htg iwG_12 hown hE.1 hP 0 rfl rfl 2 (by decide) (htg _ wm_468) (fun _ h9 => h9) rfl dX12_four_23 ?_
  refine lv_iconst (v := 0) hx hb dX12_four_26 (by decide +kernel) ?_
  refine lv_dup2_11 hx hb dX12_four_27 rfl rfl ?_
  refine va_iald hx hb hE.1 hP 2 0 rfl rfl (vp_in_iff.mpr ⟨by decide +kernel, by decide +kernel⟩) dX12_four_28 ?_
  refine g_top 10 fg8 ?_
  refine lv_iconst (v := 1) hx hb dX12_four_29 (by decide +kernel) ?_
  refine lv_iadd hx hb dX12_four_30 ?_
  refine g_top 11 (by decide +kernel) ?_
  refine va_iast hx hb hE.1 hP hD hS 2 0 rfl rfl (vp_in_iff.mpr ⟨by decide +kernel, by decide +kernel⟩) dX12_four_31 (fun H locs hP hD hS => ?_)
  obtain ⟨g12, eg12, fg12⟩ : ∃ gz : Nat → Int32, gz = upd g8 (0 : Int32).toNatClampNeg 11 ∧ gz (0 : Int32).toNatClampNeg = 11 := ⟨_, rfl, pk_us⟩
  have hP : va_P D vwCl [(aM, oM qM 0 0 0 0 0 0 0 0 0 0 0 0 0 0 0 0 0 0), ((qM 1), .inl (cB, 2000, .inl g11)), ((qM 2), .inl (cI, 4, .inl g12))] H := by rw [eg12]; exact hP
  have hD : va_D A [(aM, oM qM 0 0 0 0 0 0 0 0 0 0 0 0 0 0 0 0 0 0), ((qM 1), .inl (cB, 2000, .inl g11)), ((qM 2), .inl (cI, 4, .inl g12))] := by rw [eg12]; exact hD
  refine lv_iinc (v := 0) (lv' := [(2, .int 0), (0, .ref aM), (1, .int y0)]) hx hb dX12_four_32 hl (k := 0) rfl (by decide +kernel) (by decide) rfl (fun ls hl => ?_)
  refine lv_goto (tgt := 3) hx hb dX12_four_35 (by decide) ?_
  refine lv_iload_n hx hb dX12_four_3 rfl (lv_at hl 0 rfl) ?_
  refine lv_if_lt (tgt := 38) hx hb dX12_four_4 (by decide) (fun c9 => absurd c9 (by decide +kernel)) (fun _ => ?_)
  refine lv_aload_n hx hb dX12_four_7 rfl (lv_at hl 1 rfl) ?_
  refine va_get (D := D) (ci := 12) (v := .ref (qM 1)) (C := RX12) (T := TX12) (N := 97) hx hb htg iwG_12 hown hE.1 hP 0 rfl rfl 1 (by decide) (htg _ wm_467) (fun _ h9 => h9) rfl dX12_four_8 ?_
  refine lv_aload_n hx hb dX12_four_11 rfl (lv_at hl 1 rfl) ?_
  refine va_get (D := D) (ci := 12) (v := .ref (qM 2)) (C := RX12) (T := TX12) (N := 97) hx hb htg iwG_12 hown hE.1 hP 0 rfl rfl 2 (by decide) (htg _ wm_468) (fun _ h9 => h9) rfl dX12_four_12 ?_
  refine lv_iconst (v := 0) hx hb dX12_four_15 (by decide +kernel) ?_
  refine va_iald hx hb hE.1 hP 2 0 rfl rfl (vp_in_iff.mpr ⟨by decide +kernel, by decide +kernel⟩) dX12_four_16 ?_
  refine g_top 11 fg12 ?_
  refine lv_iload_n hx hb dX12_four_17 rfl (lv_at hl 2 rfl) ?_
  refine lv_iload_n hx hb dX12_four_18 rfl (lv_at hl 0 rfl) ?_
  refine lv_ishr hx hb dX12_four_19 ?_
  refine lv_topi (fun v13 ev13 => ?_)
  obtain ⟨v14, ev14⟩ : ∃ y : Int32, y = Int8.toInt32 (Int32.toInt8 v13) := ⟨_, rfl⟩
  refine lv_i2b (v := v14) hx hb dX12_four_20 ev14.symm ?_
  refine va_bast hx hb hE.1 hP hD hS 1 1 rfl rfl (vp_in_iff.mpr ⟨by decide +kernel, by decide +kernel⟩) dX12_four_21 (fun H locs hP hD hS => ?_)
  obtain ⟨g15, eg15⟩ : ∃ gz : Nat → Int32, gz = upd g11 (11 : Int32).toNatClampNeg (vp_nar .byte v14) := ⟨_, rfl⟩
  have hP : va_P D vwCl [(aM, oM qM 0 0 0 0 0 0 0 0 0 0 0 0 0 0 0 0 0 0), ((qM 1), .inl (cB, 2000, .inl g15)), ((qM 2), .inl (cI, 4, .inl g12))] H := by rw [eg15]; exact hP
  have hD : va_D A [(aM, oM qM 0 0 0 0 0 0 0 0 0 0 0 0 0 0 0 0 0 0), ((qM 1), .inl (cB, 2000, .inl g15)), ((qM 2), .inl (cI, 4, .inl g12))] := by rw [eg15]; exact hD
  refine lv_aload_n hx hb dX12_four_22 rfl (lv_at hl 1 rfl) ?_
  refine va_get (D := D) (ci := 12) (v := .ref (qM 2)) (C := RX12) (T := TX12) (N := 97) hx hb htg iwG_12 hown hE.1 hP 0 rfl rfl 2 (by decide) (htg _ wm_468) (fun _ h9 => h9) rfl dX12_four_23 ?_
  refine lv_iconst (v := 0) hx hb dX12_four_26 (by decide +kernel) ?_
  refine lv_dup2_11 hx hb dX12_four_27 rfl rfl ?_
  refine va_iald hx hb hE.1 hP 2 0 rfl rfl (vp_in_iff.mpr ⟨by decide +kernel, by decide +kernel⟩) dX12_four_28 ?_
  refine g_top 11 fg12 ?_
  refine lv_iconst (v := 1) hx hb dX12_four_29 (by decide +kernel) ?_
  refine lv_iadd hx hb dX12_four_30 ?_
  refine g_top 12 (by decide +kernel) ?_
  refine va_iast hx hb hE.1 hP hD hS 2 0 rfl rfl (vp_in_iff.mpr ⟨by decide +kernel, by decide +kernel⟩) dX12_four_31 (fun H locs hP hD hS => ?_)
  obtain ⟨g16, eg16, fg16⟩ : ∃ gz : Nat → Int32, gz = upd g12 (0 : Int32).toNatClampNeg 12 ∧ gz (0 : Int32).toNatClampNeg = 12 := ⟨_, rfl, pk_us⟩
  have hP : va_P D vwCl [(aM, oM qM 0 0 0 0 0 0 0 0 0 0 0 0 0 0 0 0 0 0), ((qM 1), .inl (cB, 2000, .inl g15)), ((qM 2), .inl (cI, 4, .inl g16))] H := by rw [eg16]; exact hP
  have hD : va_D A [(aM, oM qM 0 0 0 0 0 0 0 0 0 0 0 0 0 0 0 0 0 0), ((qM 1), .inl (cB, 2000, .inl g15)), ((qM 2), .inl (cI, 4, .inl g16))] := by rw [eg16]; exact hD
  refine lv_iinc (v := (-8)) (lv' := [(2, .int (-8)), (0, .ref aM), (1, .int y0)]) hx hb dX12_four_32 hl (k := 0) rfl (by decide +kernel) (by decide) rfl (fun ls hl => ?_)
  refine lv_goto (tgt := 3) hx hb dX12_four_35 (by decide) ?_
  refine lv_iload_n hx hb dX12_four_3 rfl (lv_at hl 0 rfl) ?_
  refine lv_if_lt (tgt := 38) hx hb dX12_four_4 (by decide) (fun _ => ?_) (fun c9 => absurd c9 (by decide +kernel))
  exact g_vret (g16, g15) hF hr hlocks (hP.sub [0, 1, 2] rfl) (hD.sub [0, 1, 2] rfl rfl) hS fg16 dX12_four_38 (Nat.le_of_ble_eq_true rfl) (Nat.le_of_ble_eq_true rfl)
set_option maxHeartbeats 8000000 in
set_option maxRecDepth 100000 in
theorem c_X12_four_12 {l : Launch} {D : va_G} {cI cB cS cZ cW : ClassId} {aM : Nat} {y0 : Int32} {qM : Nat → Nat} {gb : Nat → Int32} {g : Nat → Int32} (hg : g (0 : Int32).toNatClampNeg = 12) {sz : Nat} : MV l D (gT cI cB cS cZ cW) yX12_four (wG yX12_four cX12_four 3 none) { frames := 0, cells := 0, slots := 0, locals := 0 } [.ref aM, .int y0] [(aM, oM qM 0 0 0 0 0 0 0 0 0 0 0 0 0 0 0 0 0 0), ((qM 1), .inl (cB, 2000, .inl gb)), ((qM 2), .inl (cI, 4, .inl g))] sz (fun (u : (Nat → Int32) × (Nat → Int32)) => u.1 (0 : Int32).toNatClampNeg = 16) (fun (u : (Nat → Int32) × (Nat → Int32)) => [(aM, oM qM 0 0 0 0 0 0 0 0 0 0 0 0 0 0 0 0 0 0), ((qM 1), .inl (cB, 2000, .inl u.2)), ((qM 2), .inl (cI, 4, .inl u.1))] : ((Nat → Int32) × (Nat → Int32)) → va_W) 0 0 := by
  refine g_enter (y := yX12_four) (w := (wG yX12_four cX12_four 3 none)) (As := [.ref aM, .int y0]) (D := D) (T := gT cI cB cS cZ cW) (ws := [(aM, oM qM 0 0 0 0 0 0 0 0 0 0 0 0 0 0 0 0 0 0), ((qM 1), .inl (cB, 2000, .inl gb)), ((qM 2), .inl (cI, 4, .inl g))]) (gQv D (fun (u : (Nat → Int32) × (Nat → Int32)) => u.1 (0 : Int32).toNatClampNeg = 16) (fun (u : (Nat → Int32) × (Nat → Int32)) => [(aM, oM qM 0 0 0 0 0 0 0 0 0 0 0 0 0 0 0 0 0 0), ((qM 1), .inl (cB, 2000, .inl u.2)), ((qM 2), .inl (cI, 4, .inl u.1))] : ((Nat → Int32) × (Nat → Int32)) → va_W)) (cc := cX12_four) (maxL := 3) (ret := none) (by decide) rfl (Nat.le_of_ble_eq_true rfl) ?_
  intro p e s m below meth c A ls hF hr hlocks hname hsz hE hA hP hD hS hl
  have hF : CallFix p m c cX12_four 3 s ([.ref aM, .int y0] : List Value).toArray (wG yX12_four cX12_four 3 none) RX12 := hF
  obtain ⟨hx, hb, hml, hown, hts⟩ := id hF
  have htg : ∀ w ∈ GL, w.before ([.ref aM, .int y0] : List Value).toArray s = true := fun w h => hts w (List.mem_cons_of_mem _ h)
  have hl : lv_has ls 3 [(0, .ref aM), (1, .int y0)] := hl
  have zm8 := tm_8
  have z0 := t_0
  have z1 := t_1
  have z8 := t_8
  have z12 := t_12
  have z13 := t_13
  have z14 := t_14
  have z15 := t_15
  have z16 := t_16
  have z24 := t_24
  refine lv_bipush (v := 24) hx hb dX12_four_0 (by decide +kernel) ?_
  refine lv_istore_n (lv' := [(2, .int 24), (0, .ref aM), (1, .int y0)]) hx hb dX12_four_2 rfl hl (by decide) rfl (fun ls hl => ?_)
  refine lv_iload_n hx hb dX12_four_3 rfl (lv_at hl 0 rfl) ?_
  refine lv_if_lt (tgt := 38) hx hb dX12_four_4 (by decide) (fun c9 => absurd c9 (by decide +kernel)) (fun _ => ?_)
  refine lv_aload_n hx hb dX12_four_7 rfl (lv_at hl 1 rfl) ?_
  refine va_get (D := D) (ci := 12) (v := .ref (qM 1)) (C := RX12) (T := TX12) (N := 97) hx hb htg iwG_12 hown hE.1 hP 0 rfl rfl 1 (by decide) (htg _ wm_467) (fun _ h9 => h9) rfl dX12_four_8 ?_
  refine lv_aload_n hx hb dX12_four_11 rfl (lv_at hl 1 rfl) ?_
  refine va_get (D := D) (ci := 12) (v := .ref (qM 2)) (C := RX12) (T := TX12) (N := 97) hx hb htg iwG_12 hown hE.1 hP 0 rfl rfl 2 (by decide) (htg _ wm_468) (fun _ h9 => h9) rfl dX12_four_12 ?_
  refine lv_iconst (v := 0) hx hb dX12_four_15 (by decide +kernel) ?_
  refine va_iald hx hb hE.1 hP 2 0 rfl rfl (vp_in_iff.mpr ⟨by decide +kernel, by decide +kernel⟩) dX12_four_16 ?_
  refine g_top 12 hg ?_
  refine lv_iload_n hx hb dX12_four_17 rfl (lv_at hl 2 rfl) ?_
  refine lv_iload_n hx hb dX12_four_18 rfl (lv_at hl 0 rfl) ?_
  refine lv_ishr hx hb dX12_four_19 ?_
  refine lv_topi (fun v1 ev1 => ?_)
  obtain ⟨v2, ev2⟩ : ∃ y : Int32, y = Int8.toInt32 (Int32.toInt8 v1) := ⟨_, rfl⟩
  refine lv_i2b (v := v2) hx hb dX12_four_20 ev2.symm ?_
  refine va_bast hx hb hE.1 hP hD hS 1 1 rfl rfl (vp_in_iff.mpr ⟨by decide +kernel, by decide +kernel⟩) dX12_four_21 (fun H locs hP hD hS => ?_)
  obtain ⟨g3, eg3⟩ : ∃ gz : Nat → Int32, gz = upd gb (12 : Int32).toNatClampNeg (vp_nar .byte v2) := ⟨_, rfl⟩
  have hP : va_P D vwCl [(aM, oM qM 0 0 0 0 0 0 0 0 0 0 0 0 0 0 0 0 0 0), ((qM 1), .inl (cB, 2000, .inl g3)), ((qM 2), .inl (cI, 4, .inl g))] H := by rw [eg3]; exact hP
  have hD : va_D A [(aM, oM qM 0 0 0 0 0 0 0 0 0 0 0 0 0 0 0 0 0 0), ((qM 1), .inl (cB, 2000, .inl g3)), ((qM 2), .inl (cI, 4, .inl g))] := by rw [eg3]; exact hD
  refine lv_aload_n hx hb dX12_four_22 rfl (lv_at hl 1 rfl) ?_
  refine va_get (D := D) (ci := 12) (v := .ref (qM 2)) (C := RX12) (T := TX12) (N := 97) hx hb htg iwG_12 hown hE.1 hP 0 rfl rfl 2 (by decide) (htg _ wm_468) (fun _ h9 => h9) rfl dX12_four_23 ?_
  refine lv_iconst (v := 0) hx hb dX12_four_26 (by decide +kernel) ?_
  refine lv_dup2_11 hx hb dX12_four_27 rfl rfl ?_
  refine va_iald hx hb hE.1 hP 2 0 rfl rfl (vp_in_iff.mpr ⟨by decide +kernel, by decide +kernel⟩) dX12_four_28 ?_
  refine g_top 12 hg ?_
  refine lv_iconst (v := 1) hx hb dX12_four_29 (by decide +kernel) ?_
  refine lv_iadd hx hb dX12_four_30 ?_
  refine g_top 13 (by decide +kernel) ?_
  refine va_iast hx hb hE.1 hP hD hS 2 0 rfl rfl (vp_in_iff.mpr ⟨by decide +kernel, by decide +kernel⟩) dX12_four_31 (fun H locs hP hD hS => ?_)
  obtain ⟨g4, eg4, fg4⟩ : ∃ gz : Nat → Int32, gz = upd g (0 : Int32).toNatClampNeg 13 ∧ gz (0 : Int32).toNatClampNeg = 13 := ⟨_, rfl, pk_us⟩
  have hP : va_P D vwCl [(aM, oM qM 0 0 0 0 0 0 0 0 0 0 0 0 0 0 0 0 0 0), ((qM 1), .inl (cB, 2000, .inl g3)), ((qM 2), .inl (cI, 4, .inl g4))] H := by rw [eg4]; exact hP
  have hD : va_D A [(aM, oM qM 0 0 0 0 0 0 0 0 0 0 0 0 0 0 0 0 0 0), ((qM 1), .inl (cB, 2000, .inl g3)), ((qM 2), .inl (cI, 4, .inl g4))] := by rw [eg4]; exact hD
  refine lv_iinc (v := 16) (lv' := [(2, .int 16), (0, .ref aM), (1, .int y0)]) hx hb dX12_four_32 hl (k := 0) rfl (by decide +kernel) (by decide) rfl (fun ls hl => ?_)
  refine lv_goto (tgt := 3) hx hb dX12_four_35 (by decide) ?_
  refine lv_iload_n hx hb dX12_four_3 rfl (lv_at hl 0 rfl) ?_
  refine lv_if_lt (tgt := 38) hx hb dX12_four_4 (by decide) (fun c9 => absurd c9 (by decide +kernel)) (fun _ => ?_)
  refine lv_aload_n hx hb dX12_four_7 rfl (lv_at hl 1 rfl) ?_
  refine va_get (D := D) (ci := 12) (v := .ref (qM 1)) (C := RX12) (T := TX12) (N := 97) hx hb htg iwG_12 hown hE.1 hP 0 rfl rfl 1 (by decide) (htg _ wm_467) (fun _ h9 => h9) rfl dX12_four_8 ?_
  refine lv_aload_n hx hb dX12_four_11 rfl (lv_at hl 1 rfl) ?_
  refine va_get (D := D) (ci := 12) (v := .ref (qM 2)) (C := RX12) (T := TX12) (N := 97) hx hb htg iwG_12 hown hE.1 hP 0 rfl rfl 2 (by decide) (htg _ wm_468) (fun _ h9 => h9) rfl dX12_four_12 ?_
  refine lv_iconst (v := 0) hx hb dX12_four_15 (by decide +kernel) ?_
  refine va_iald hx hb hE.1 hP 2 0 rfl rfl (vp_in_iff.mpr ⟨by decide +kernel, by decide +kernel⟩) dX12_four_16 ?_
  refine g_top 13 fg4 ?_
  refine lv_iload_n hx hb dX12_four_17 rfl (lv_at hl 2 rfl) ?_
  refine lv_iload_n hx hb dX12_four_18 rfl (lv_at hl 0 rfl) ?_
  refine lv_ishr hx hb dX12_four_19 ?_
  refine lv_topi (fun v5 ev5 => ?_)
  obtain ⟨v6, ev6⟩ : ∃ y : Int32, y = Int8.toInt32 (Int32.toInt8 v5) := ⟨_, rfl⟩
  refine lv_i2b (v := v6) hx hb dX12_four_20 ev6.symm ?_
  refine va_bast hx hb hE.1 hP hD hS 1 1 rfl rfl (vp_in_iff.mpr ⟨by decide +kernel, by decide +kernel⟩) dX12_four_21 (fun H locs hP hD hS => ?_)
  obtain ⟨g7, eg7⟩ : ∃ gz : Nat → Int32, gz = upd g3 (13 : Int32).toNatClampNeg (vp_nar .byte v6) := ⟨_, rfl⟩
  have hP : va_P D vwCl [(aM, oM qM 0 0 0 0 0 0 0 0 0 0 0 0 0 0 0 0 0 0), ((qM 1), .inl (cB, 2000, .inl g7)), ((qM 2), .inl (cI, 4, .inl g4))] H := by rw [eg7]; exact hP
  have hD : va_D A [(aM, oM qM 0 0 0 0 0 0 0 0 0 0 0 0 0 0 0 0 0 0), ((qM 1), .inl (cB, 2000, .inl g7)), ((qM 2), .inl (cI, 4, .inl g4))] := by rw [eg7]; exact hD
  refine lv_aload_n hx hb dX12_four_22 rfl (lv_at hl 1 rfl) ?_
  refine va_get (D := D) (ci := 12) (v := .ref (qM 2)) (C := RX12) (T := TX12) (N := 97) hx hb htg iwG_12 hown hE.1 hP 0 rfl rfl 2 (by decide) (htg _ wm_468) (fun _ h9 => h9) rfl dX12_four_23 ?_
  refine lv_iconst (v := 0) hx hb dX12_four_26 (by decide +kernel) ?_
  refine lv_dup2_11 hx hb dX12_four_27 rfl rfl ?_
  refine va_iald hx hb hE.1 hP 2 0 rfl rfl (vp_in_iff.mpr ⟨by decide +kernel, by decide +kernel⟩) dX12_four_28 ?_
  refine g_top 13 fg4 ?_
  refine lv_iconst (v := 1) hx hb dX12_four_29 (by decide +kernel) ?_
  refine lv_iadd hx hb dX12_four_30 ?_
  refine g_top 14 (by decide +kernel) ?_
  refine va_iast hx hb hE.1 hP hD hS 2 0 rfl rfl (vp_in_iff.mpr ⟨by decide +kernel, by decide +kernel⟩) dX12_four_31 (fun H locs hP hD hS => ?_)
  obtain ⟨g8, eg8, fg8⟩ : ∃ gz : Nat → Int32, gz = upd g4 (0 : Int32).toNatClampNeg 14 ∧ gz (0 : Int32).toNatClampNeg = 14 := ⟨_, rfl, pk_us⟩
  have hP : va_P D vwCl [(aM, oM qM 0 0 0 0 0 0 0 0 0 0 0 0 0 0 0 0 0 0), ((qM 1), .inl (cB, 2000, .inl g7)), ((qM 2), .inl (cI, 4, .inl g8))] H := by rw [eg8]; exact hP
  have hD : va_D A [(aM, oM qM 0 0 0 0 0 0 0 0 0 0 0 0 0 0 0 0 0 0), ((qM 1), .inl (cB, 2000, .inl g7)), ((qM 2), .inl (cI, 4, .inl g8))] := by rw [eg8]; exact hD
  refine lv_iinc (v := 8) (lv' := [(2, .int 8), (0, .ref aM), (1, .int y0)]) hx hb dX12_four_32 hl (k := 0) rfl (by decide +kernel) (by decide) rfl (fun ls hl => ?_)
  refine lv_goto (tgt := 3) hx hb dX12_four_35 (by decide) ?_
  refine lv_iload_n hx hb dX12_four_3 rfl (lv_at hl 0 rfl) ?_
  refine lv_if_lt (tgt := 38) hx hb dX12_four_4 (by decide) (fun c9 => absurd c9 (by decide +kernel)) (fun _ => ?_)
  refine lv_aload_n hx hb dX12_four_7 rfl (lv_at hl 1 rfl) ?_
  refine va_get (D := D) (ci := 12) (v := .ref (qM 1)) (C := RX12) (T := TX12) (N := 97) hx hb htg iwG_12 hown hE.1 hP 0 rfl rfl 1 (by decide) (htg _ wm_467) (fun _ h9 => h9) rfl dX12_four_8 ?_
  refine lv_aload_n hx hb dX12_four_11 rfl (lv_at hl 1 rfl) ?_
  refine va_get (D := D) (ci := 12) (v := .ref (qM 2)) (C := RX12) (T := TX12) (N := 97) hx hb htg iwG_12 hown hE.1 hP 0 rfl rfl 2 (by decide) (htg _ wm_468) (fun _ h9 => h9) rfl dX12_four_12 ?_
  refine lv_iconst (v := 0) hx hb dX12_four_15 (by decide +kernel) ?_
  refine va_iald hx hb hE.1 hP 2 0 rfl rfl (vp_in_iff.mpr ⟨by decide +kernel, by decide +kernel⟩) dX12_four_16 ?_
  refine g_top 14 fg8 ?_
  refine lv_iload_n hx hb dX12_four_17 rfl (lv_at hl 2 rfl) ?_
  refine lv_iload_n hx hb dX12_four_18 rfl (lv_at hl 0 rfl) ?_
  refine lv_ishr hx hb dX12_four_19 ?_
  refine lv_topi (fun v9 ev9 => ?_)
  obtain ⟨v10, ev10⟩ : ∃ y : Int32, y = Int8.toInt32 (Int32.toInt8 v9) := ⟨_, rfl⟩
  refine lv_i2b (v := v10) hx hb dX12_four_20 ev10.symm ?_
  refine va_bast hx hb hE.1 hP hD hS 1 1 rfl rfl (vp_in_iff.mpr ⟨by decide +kernel, by decide +kernel⟩) dX12_four_21 (fun H locs hP hD hS => ?_)
  obtain ⟨g11, eg11⟩ : ∃ gz : Nat → Int32, gz = upd g7 (14 : Int32).toNatClampNeg (vp_nar .byte v10) := ⟨_, rfl⟩
  have hP : va_P D vwCl [(aM, oM qM 0 0 0 0 0 0 0 0 0 0 0 0 0 0 0 0 0 0), ((qM 1), .inl (cB, 2000, .inl g11)), ((qM 2), .inl (cI, 4, .inl g8))] H := by rw [eg11]; exact hP
  have hD : va_D A [(aM, oM qM 0 0 0 0 0 0 0 0 0 0 0 0 0 0 0 0 0 0), ((qM 1), .inl (cB, 2000, .inl g11)), ((qM 2), .inl (cI, 4, .inl g8))] := by rw [eg11]; exact hD
  refine lv_aload_n hx hb dX12_four_22 rfl (lv_at hl 1 rfl) ?_
  refine va_get (D := D) (ci := 12) (v := .ref (qM 2)) (C := RX12) (T := TX12) (N := 97) hx hb htg iwG_12 hown hE.1 hP 0 rfl rfl 2 (by decide) (htg _ wm_468) (fun _ h9 => h9) rfl dX12_four_23 ?_
  refine lv_iconst (v := 0) hx hb dX12_four_26 (by decide +kernel) ?_
  refine lv_dup2_11 hx hb dX12_four_27 rfl rfl ?_
  refine va_iald hx hb hE.1 hP 2 0 rfl rfl (vp_in_iff.mpr ⟨by decide +kernel, by decide +kernel⟩) dX12_four_28 ?_
  refine g_top 14 fg8 ?_
  refine lv_iconst (v := 1) hx hb dX12_four_29 (by decide +kernel) ?_
  refine lv_iadd hx hb dX12_four_30 ?_
  refine g_top 15 (by decide +kernel) ?_
  refine va_iast hx hb hE.1 hP hD hS 2 0 rfl rfl (vp_in_iff.mpr ⟨by decide +kernel, by decide +kernel⟩) dX12_four_31 (fun H locs hP hD hS => ?_)
  obtain ⟨g12, eg12, fg12⟩ : ∃ gz : Nat → Int32, gz = upd g8 (0 : Int32).toNatClampNeg 15 ∧ gz (0 : Int32).toNatClampNeg = 15 := ⟨_, rfl, pk_us⟩
  have hP : va_P D vwCl [(aM, oM qM 0 0 0 0 0 0 0 0 0 0 0 0 0 0 0 0 0 0), ((qM 1), .inl (cB, 2000, .inl g11)), ((qM 2), .inl (cI, 4, .inl g12))] H := by rw [eg12]; exact hP
  have hD : va_D A [(aM, oM qM 0 0 0 0 0 0 0 0 0 0 0 0 0 0 0 0 0 0), ((qM 1), .inl (cB, 2000, .inl g11)), ((qM 2), .inl (cI, 4, .inl g12))] := by rw [eg12]; exact hD
  refine lv_iinc (v := 0) (lv' := [(2, .int 0), (0, .ref aM), (1, .int y0)]) hx hb dX12_four_32 hl (k := 0) rfl (by decide +kernel) (by decide) rfl (fun ls hl => ?_)
  refine lv_goto (tgt := 3) hx hb dX12_four_35 (by decide) ?_
  refine lv_iload_n hx hb dX12_four_3 rfl (lv_at hl 0 rfl) ?_
  refine lv_if_lt (tgt := 38) hx hb dX12_four_4 (by decide) (fun c9 => absurd c9 (by decide +kernel)) (fun _ => ?_)
  refine lv_aload_n hx hb dX12_four_7 rfl (lv_at hl 1 rfl) ?_
  refine va_get (D := D) (ci := 12) (v := .ref (qM 1)) (C := RX12) (T := TX12) (N := 97) hx hb htg iwG_12 hown hE.1 hP 0 rfl rfl 1 (by decide) (htg _ wm_467) (fun _ h9 => h9) rfl dX12_four_8 ?_
  refine lv_aload_n hx hb dX12_four_11 rfl (lv_at hl 1 rfl) ?_
  refine va_get (D := D) (ci := 12) (v := .ref (qM 2)) (C := RX12) (T := TX12) (N := 97) hx hb htg iwG_12 hown hE.1 hP 0 rfl rfl 2 (by decide) (htg _ wm_468) (fun _ h9 => h9) rfl dX12_four_12 ?_
  refine lv_iconst (v := 0) hx hb dX12_four_15 (by decide +kernel) ?_
  refine va_iald hx hb hE.1 hP 2 0 rfl rfl (vp_in_iff.mpr ⟨by decide +kernel, by decide +kernel⟩) dX12_four_16 ?_
  refine g_top 15 fg12 ?_
  refine lv_iload_n hx hb dX12_four_17 rfl (lv_at hl 2 rfl) ?_
  refine lv_iload_n hx hb dX12_four_18 rfl (lv_at hl 0 rfl) ?_
  refine lv_ishr hx hb dX12_four_19 ?_
  refine lv_topi (fun v13 ev13 => ?_)
  obtain ⟨v14, ev14⟩ : ∃ y : Int32, y = Int8.toInt32 (Int32.toInt8 v13) := ⟨_, rfl⟩
  refine lv_i2b (v := v14) hx hb dX12_four_20 ev14.symm ?_
  refine va_bast hx hb hE.1 hP hD hS 1 1 rfl rfl (vp_in_iff.mpr ⟨by decide +kernel, by decide +kernel⟩) dX12_four_21 (fun H locs hP hD hS => ?_)
  obtain ⟨g15, eg15⟩ : ∃ gz : Nat → Int32, gz = upd g11 (15 : Int32).toNatClampNeg (vp_nar .byte v14) := ⟨_, rfl⟩
  have hP : va_P D vwCl [(aM, oM qM 0 0 0 0 0 0 0 0 0 0 0 0 0 0 0 0 0 0), ((qM 1), .inl (cB, 2000, .inl g15)), ((qM 2), .inl (cI, 4, .inl g12))] H := by rw [eg15]; exact hP
  have hD : va_D A [(aM, oM qM 0 0 0 0 0 0 0 0 0 0 0 0 0 0 0 0 0 0), ((qM 1), .inl (cB, 2000, .inl g15)), ((qM 2), .inl (cI, 4, .inl g12))] := by rw [eg15]; exact hD
  refine lv_aload_n hx hb dX12_four_22 rfl (lv_at hl 1 rfl) ?_
  refine va_get (D := D) (ci := 12) (v := .ref (qM 2)) (C := RX12) (T := TX12) (N := 97) hx hb htg iwG_12 hown hE.1 hP 0 rfl rfl 2 (by decide) (htg _ wm_468) (fun _ h9 => h9) rfl dX12_four_23 ?_
  refine lv_iconst (v := 0) hx hb dX12_four_26 (by decide +kernel) ?_
  refine lv_dup2_11 hx hb dX12_four_27 rfl rfl ?_
  refine va_iald hx hb hE.1 hP 2 0 rfl rfl (vp_in_iff.mpr ⟨by decide +kernel, by decide +kernel⟩) dX12_four_28 ?_
  refine g_top 15 fg12 ?_
  refine lv_iconst (v := 1) hx hb dX12_four_29 (by decide +kernel) ?_
  refine lv_iadd hx hb dX12_four_30 ?_
  refine g_top 16 (by decide +kernel) ?_
  refine va_iast hx hb hE.1 hP hD hS 2 0 rfl rfl (vp_in_iff.mpr ⟨by decide +kernel, by decide +kernel⟩) dX12_four_31 (fun H locs hP hD hS => ?_)
  obtain ⟨g16, eg16, fg16⟩ : ∃ gz : Nat → Int32, gz = upd g12 (0 : Int32).toNatClampNeg 16 ∧ gz (0 : Int32).toNatClampNeg = 16 := ⟨_, rfl, pk_us⟩
  have hP : va_P D vwCl [(aM, oM qM 0 0 0 0 0 0 0 0 0 0 0 0 0 0 0 0 0 0), ((qM 1), .inl (cB, 2000, .inl g15)), ((qM 2), .inl (cI, 4, .inl g16))] H := by rw [eg16]; exact hP
  have hD : va_D A [(aM, oM qM 0 0 0 0 0 0 0 0 0 0 0 0 0 0 0 0 0 0), ((qM 1), .inl (cB, 2000, .inl g15)), ((qM 2), .inl (cI, 4, .inl g16))] := by rw [eg16]; exact hD
  refine lv_iinc (v := (-8)) (lv' := [(2, .int (-8)), (0, .ref aM), (1, .int y0)]) hx hb dX12_four_32 hl (k := 0) rfl (by decide +kernel) (by decide) rfl (fun ls hl => ?_)
  refine lv_goto (tgt := 3) hx hb dX12_four_35 (by decide) ?_
  refine lv_iload_n hx hb dX12_four_3 rfl (lv_at hl 0 rfl) ?_
  refine lv_if_lt (tgt := 38) hx hb dX12_four_4 (by decide) (fun _ => ?_) (fun c9 => absurd c9 (by decide +kernel))
  exact g_vret (g16, g15) hF hr hlocks (hP.sub [0, 1, 2] rfl) (hD.sub [0, 1, 2] rfl rfl) hS fg16 dX12_four_38 (Nat.le_of_ble_eq_true rfl) (Nat.le_of_ble_eq_true rfl)
