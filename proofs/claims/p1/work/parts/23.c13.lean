set_option maxHeartbeats 8000000 in
set_option maxRecDepth 100000 in
theorem c_X12_four_16 {l : Launch} {D : va_G} {cI cB cS cZ cW : ClassId} {aM : Nat} {y0 : Int32} {qM : Nat → Nat} {gb : Nat → Int32} {g : Nat → Int32} (hg : g (0 : Int32).toNatClampNeg = 16) {sz : Nat} : MV l D (gT cI cB cS cZ cW) yX12_four (wG yX12_four cX12_four 3 none) { frames := 0, cells := 0, slots := 0, locals := 0 } [.ref aM, .int y0] [(aM, oM qM 0 0 0 0 0 0 0 0 0 0 0 0 0 0 0 0 0 0), ((qM 1), .inl (cB, 2000, .inl gb)), ((qM 2), .inl (cI, 4, .inl g))] sz (fun (u : (Nat → Int32) × (Nat → Int32)) => u.1 (0 : Int32).toNatClampNeg = 20) (fun (u : (Nat → Int32) × (Nat → Int32)) => [(aM, oM qM 0 0 0 0 0 0 0 0 0 0 0 0 0 0 0 0 0 0), ((qM 1), .inl (cB, 2000, .inl u.2)), ((qM 2), .inl (cI, 4, .inl u.1))] : ((Nat → Int32) × (Nat → Int32)) → va_W) 0 0 := by
  refine g_enter (y := yX12_four) (w := (wG yX12_four cX12_four 3 none)) (As := [.ref aM, .int y0]) (D := D) (T := gT cI cB cS cZ cW) (ws := [(aM, oM qM 0 0 0 0 0 0 0 0 0 0 0 0 0 0 0 0 0 0), ((qM 1), .inl (cB, 2000, .inl gb)), ((qM 2), .inl (cI, 4, .inl g))]) (gQv D (fun (u : (Nat → Int32) × (Nat → Int32)) => u.1 (0 : Int32).toNatClampNeg = 20) (fun (u : (Nat → Int32) × (Nat → Int32)) => [(aM, oM qM 0 0 0 0 0 0 0 0 0 0 0 0 0 0 0 0 0 0), ((qM 1), .inl (cB, 2000, .inl u.2)), ((qM 2), .inl (cI, 4, .inl u.1))] : ((Nat → Int32) × (Nat → Int32)) → va_W)) (cc := cX12_four) (maxL := 3) (ret := none) (by decide) rfl (Nat.le_of_ble_eq_true rfl) ?_
  intro p e s m below meth c A ls hF hr hlocks hname hsz hE hA hP hD hS hl
  have hF : CallFix p m c cX12_four 3 s ([.ref aM, .int y0] : List Value).toArray (wG yX12_four cX12_four 3 none) RX12 := hF
  obtain ⟨hx, hb, hml, hown, hts⟩ := id hF
  have htg : ∀ w ∈ GL, w.before ([.ref aM, .int y0] : List Value).toArray s = true := fun w h => hts w (List.mem_cons_of_mem _ h)
  have hl : lv_has ls 3 [(0, .ref aM), (1, .int y0)] := hl
  have zm8 := tm_8
  have z0 := t_0
  have z1 := t_1
  have z8 := t_8
  have z16 := t_16
  have z17 := t_17
  have z18 := t_18
  have z19 := t_19
  have z20 := t_20
  have z24 := t_24
  refine lv_bipush (v := 24) hx hb dX12_four_0 (by decide +kernel) ?_
  refine lv_istore_n (lv' := [(2, .int 24), (0, .ref aM), (1, .int y0)]) hx hb dX12_four_2 rfl hl (by decide) rfl (fun ls hl => ?_)
  refine lv_iload_n hx hb dX12_four_3 rfl (lv_at hl 0 rfl) ?_
  refine lv_if_lt (tgt := 38) hx hb dX12_four_4 (by decide) (fun c9 => absurd c9 (by decide +kernel)) (fun _ => ?_)
  refine lv_aload_n hx hb dX12_four_7 rfl (lv_at hl 1 rfl) ?_
  refine va_get (D := D) (ci := 12) (v := .ref (qM 1)) (C := RX12) (T := TX12) (N := 97) hx hb htg iwG_12 hown hE.1 hP 0 rfl rfl 1 (by decide) (htg _ wm_467) (fun _ h9 => h9) rfl dX12_four_8 ?_
  refine lv_aload_n hx hb dX12_four_11 rfl (lv_at hl 1 rfl) ?_
  refine va_get (D := D) (ci := 12) (v := .ref (qM 2)) (C := RX12) (T := TX12) (N := 97) hx hb htg iwG_12 hown hE.1 hP 0 rfl rfl 2 (by decide) (htg _ wm_468) (fun _ h9 => h9) rfl dX12_four_12 ?_
  refine lv_iconst (v := 0) hx hb dX12_four_15 (by decide +kernel) ?_
  refine va_iald hx hb hE.1 hP 2 0 rfl rfl (vp_in_iff.mpr ⟨by decide +kernel, by decide +kernel⟩) dX12_four_16 ?_
  refine g_top 16 hg ?_
  refine lv_iload_n hx hb dX12_four_17 rfl (lv_at hl 2 rfl) ?_
  refine lv_iload_n hx hb dX12_four_18 rfl (lv_at hl 0 rfl) ?_
  refine lv_ishr hx hb dX12_four_19 ?_
  refine lv_topi (fun v1 ev1 => ?_)
  obtain ⟨v2, ev2⟩ : ∃ y : Int32, y = Int8.toInt32 (Int32.toInt8 v1) := ⟨_, rfl⟩
  refine lv_i2b (v := v2) hx hb dX12_four_20 ev2.symm ?_
  refine va_bast hx hb hE.1 hP hD hS 1 1 rfl rfl (vp_in_iff.mpr ⟨by decide +kernel, by decide +kernel⟩) dX12_four_21 (fun H locs hP hD hS => ?_)
  obtain ⟨g3, eg3⟩ : ∃ gz : Nat → Int32, gz = upd gb (16 : Int32).toNatClampNeg (vp_nar .byte v2) := ⟨_, rfl⟩
  have hP : va_P D vwCl [(aM, oM qM 0 0 0 0 0 0 0 0 0 0 0 0 0 0 0 0 0 0), ((qM 1), .inl (cB, 2000, .inl g3)), ((qM 2), .inl (cI, 4, .inl g))] H := by rw [eg3]; exact hP
  have hD : va_D A [(aM, oM qM 0 0 0 0 0 0 0 0 0 0 0 0 0 0 0 0 0 0), ((qM 1), .inl (cB, 2000, .inl g3)), ((qM 2), .inl (cI, 4, .inl g))] := by rw [eg3]; exact hD
  refine lv_aload_n hx hb dX12_four_22 rfl (lv_at hl 1 rfl) ?_
  refine va_get (D := D) (ci := 12) (v := .ref (qM 2)) (C := RX12) (T := TX12) (N := 97) hx hb htg iwG_12 hown hE.1 hP 0 rfl rfl 2 (by decide) (htg _ wm_468) (fun _ h9 => h9) rfl dX12_four_23 ?_
  refine lv_iconst (v := 0) hx hb dX12_four_26 (by decide +kernel) ?_
  refine lv_dup2_11 hx hb dX12_four_27 rfl rfl ?_
  refine va_iald hx hb hE.1 hP 2 0 rfl rfl (vp_in_iff.mpr ⟨by decide +kernel, by decide +kernel⟩) dX12_four_28 ?_
  refine g_top 16 hg ?_
  refine lv_iconst (v := 1) hx hb dX12_four_29 (by decide +kernel) ?_
  refine lv_iadd hx hb dX12_four_30 ?_
  refine g_top 17 (by decide +kernel) ?_
  refine va_iast hx hb hE.1 hP hD hS 2 0 rfl rfl (vp_in_iff.mpr ⟨by decide +kernel, by decide +kernel⟩) dX12_four_31 (fun H locs hP hD hS => ?_)
  obtain ⟨g4, eg4, fg4⟩ : ∃ gz : Nat → Int32, gz = upd g (0 : Int32).toNatClampNeg 17 ∧ gz (0 : Int32).toNatClampNeg = 17 := ⟨_, rfl, pk_us⟩
  have hP : va_P D vwCl [(aM, oM qM 0 0 0 0 0 0 0 0 0 0 0 0 0 0 0 0 0 0), ((qM 1), .inl (cB, 2000, .inl g3)), ((qM 2), .inl (cI, 4, .inl g4))] H := by rw [eg4]; exact hP
  have hD : va_D A [(aM, oM qM 0 0 0 0 0 0 0 0 0 0 0 0 0 0 0 0 0 0), ((qM 1), .inl (cB, 2000, .inl g3)), ((qM 2), .inl (cI, 4, .inl g4))] := by rw [eg4]; exact hD
  refine lv_iinc (v := 16) (lv' := [(2, .int 16), (0, .ref aM), (1, .int y0)]) hx hb dX12_four_32 hl (k := 0) rfl (by decide +kernel) (by decide) rfl (fun ls hl => ?_)
  refine lv_goto (tgt := 3) hx hb dX12_four_35 (by decide) ?_
  refine lv_iload_n hx hb dX12_four_3 rfl (lv_at hl 0 rfl) ?_
  refine lv_if_lt (tgt := 38) hx hb dX12_four_4 (by decide) (fun c9 => absurd c9 (by decide +kernel)) (fun _ => ?_)
  refine lv_aload_n hx hb dX12_four_7 rfl (lv_at hl 1 rfl) ?_
  refine va_get (D := D) (ci := 12) (v := .ref (qM 1)) (C := RX12) (T := TX12) (N := 97) hx hb htg iwG_12 hown hE.1 hP 0 rfl rfl 1 (by decide) (htg _ wm_467) (fun _ h9 => h9) rfl dX12_four_8 ?_
  refine lv_aload_n hx hb dX12_four_11 rfl (lv_at hl 1 rfl) ?_
  refine va_get (D := D) (ci := 12) (v := .ref (qM 2)) (C := RX12) (T := TX12) (N := 97) hx hb htg iwG_12 hown hE.1 hP 0 rfl rfl 2 (by decide) (htg _ wm_468) (fun _ h9 => h9) rfl dX12_four_12 ?_
  refine lv_iconst (v := 0) hx hb dX12_four_15 (by decide +kernel) ?_
  refine va_iald hx hb hE.1 hP 2 0 rfl rfl (vp_in_iff.mpr ⟨by decide +kernel, by decide +kernel⟩) dX12_four_16 ?_
  refine g_top 17 fg4 ?_
  refine lv_iload_n hx hb dX12_four_17 rfl (lv_at hl 2 rfl) ?_
  refine lv_iload_n hx hb dX12_four_18 rfl (lv_at hl 0 rfl) ?_
  refine lv_ishr hx hb dX12_four_19 ?_
  refine lv_topi (fun v5 ev5 => ?_)
  obtain ⟨v6, ev6⟩ : ∃ y : Int32, y = Int8.toInt32 (Int32.toInt8 v5) := ⟨_, rfl⟩
  refine lv_i2b (v := v6) hx hb dX12_four_20 ev6.symm ?_
  refine va_bast hx hb hE.1 hP hD hS 1 1 rfl rfl (vp_in_iff.mpr ⟨by decide +kernel, by decide +kernel⟩) dX12_four_21 (fun H locs hP hD hS => ?_)
  obtain ⟨g7, eg7⟩ : ∃ gz : Nat → Int32, gz = upd g3 (17 : Int32).toNatClampNeg (vp_nar .byte v6) := ⟨_, rfl⟩
  have hP : va_P D vwCl [(aM, oM qM 0 0 0 0 0 0 0 0 0 0 0 0 0 0 0 0 0 0), ((qM 1), .inl (cB, 2000, .inl g7)), ((qM 2), .inl (cI, 4, .inl g4))] H := by rw [eg7]; exact hP
  have hD : va_D A [(aM, oM qM 0 0 0 0 0 0 0 0 0 0 0 0 0 0 0 0 0 0), ((qM 1), .inl (cB, 2000, .inl g7)), ((qM 2), .inl (cI, 4, .inl g4))] := by rw [eg7]; exact hD
  refine lv_aload_n hx hb dX12_four_22 rfl (lv_at hl 1 rfl) ?_
  refine va_get (D := D) (ci := 12) (v := .ref (qM 2)) (C := RX12) (T := TX12) (N := 97) hx hb htg iwG_12 hown hE.1 hP 0 rfl rfl 2 (by decide) (htg _ wm_468) (fun _ h9 => h9) rfl dX12_four_23 ?_
  refine lv_iconst (v := 0) hx hb dX12_four_26 (by decide +kernel) ?_
  refine lv_dup2_11 hx hb dX12_four_27 rfl rfl ?_
  refine va_iald hx hb hE.1 hP 2 0 rfl rfl (vp_in_iff.mpr ⟨by decide +kernel, by decide +kernel⟩) dX12_four_28 ?_
  refine g_top 17 fg4 ?_
  refine lv_iconst (v := 1) hx hb dX12_four_29 (by decide +kernel) ?_
  refine lv_iadd hx hb dX12_four_30 ?_
  refine g_top 18 (by decide +kernel) ?_
  refine va_iast hx hb hE.1 hP hD hS 2 0 rfl rfl (vp_in_iff.mpr ⟨by decide +kernel, by decide +kernel⟩) dX12_four_31 (fun H locs hP hD hS => ?_)
  obtain ⟨g8, eg8, fg8⟩ : ∃ gz : Nat → Int32, gz = upd g4 (0 : Int32).toNatClampNeg 18 ∧ gz (0 : Int32).toNatClampNeg = 18 := ⟨_, rfl, pk_us⟩
  have hP : va_P D vwCl [(aM, oM qM 0 0 0 0 0 0 0 0 0 0 0 0 0 0 0 0 0 0), ((qM 1), .inl (cB, 2000, .inl g7)), ((qM 2), .inl (cI, 4, .inl g8))] H := by rw [eg8]; exact hP
  have hD : va_D A [(aM, oM qM 0 0 0 0 0 0 0 0 0 0 0 0 0 0 0 0 0 0), ((qM 1), .inl (cB, 2000, .inl g7)), ((qM 2), .inl (cI, 4, .inl g8))] := by rw [eg8]; exact hD
  refine lv_iinc (v := 8) (lv' := [(2, .int 8), (0, .ref aM), (1, .int y0)]) hx hb dX12_four_32 hl (k := 0) rfl (by decide +kernel) (by decide) rfl (fun ls hl => ?_)
  refine lv_goto (tgt := 3) hx hb dX12_four_35 (by decide) ?_
  refine lv_iload_n hx hb dX12_four_3 rfl (lv_at hl 0 rfl) ?_
  refine lv_if_lt (tgt := 38) hx hb dX12_four_4 (by decide) (fun c9 => absurd c9 (by decide +kernel)) (fun _ => ?_)
  refine lv_aload_n hx hb dX12_four_7 rfl (lv_at hl 1 rfl) ?_
  refine va_get (D := D) (ci := 12) (v := .ref (qM 1)) (C := RX12) (T := TX12) (N := 97) hx hb htg iwG_12 hown hE.1 hP 0 rfl rfl 1 (by decide) (htg _ wm_467) (fun _ h9 => h9) rfl dX12_four_8 ?_
  refine lv_aload_n hx hb dX12_four_11 rfl (lv_at hl 1 rfl) ?_
  refine va_get (D := D) (ci := 12) (v := .ref (qM 2)) (C := RX12) (T := TX12) (N := 97) hx hb htg iwG_12 hown hE.1 hP 0 rfl rfl 2 (by decide) (htg _ wm_468) (fun _ h9 => h9) rfl dX12_four_12 ?_
  refine lv_iconst (v := 0) hx hb dX12_four_15 (by decide +kernel) ?_
  refine va_iald hx hb hE.1 hP 2 0 rfl rfl (vp_in_iff.mpr ⟨by decide +kernel, by decide +kernel⟩) dX12_four_16 ?_
  refine g_top 18 fg8 ?_
  refine lv_iload_n hx hb dX12_four_17 rfl (lv_at hl 2 rfl) ?_
  refine lv_iload_n hx hb dX12_four_18 rfl (lv_at hl 0 rfl) ?_
  refine lv_ishr hx hb dX12_four_19 ?_
  refine lv_topi (fun v9 ev9 => ?_)
  obtain ⟨v10, ev10⟩ : ∃ y : Int32, y = Int8.toInt32 (Int32.toInt8 v9) := ⟨_, rfl⟩
  refine lv_i2b (v := v10) hx hb dX12_four_20 ev10.symm ?_
  refine va_bast hx hb hE.1 hP hD hS 1 1 rfl rfl (vp_in_iff.mpr ⟨by decide +kernel, by decide +kernel⟩) dX12_four_21 (fun H locs hP hD hS => ?_)
  obtain ⟨g11, eg11⟩ : ∃ gz : Nat → Int32, gz = upd g7 (18 : Int32).toNatClampNeg (vp_nar .byte v10) := ⟨_, rfl⟩
  have hP : va_P D vwCl [(aM, oM qM 0 0 0 0 0 0 0 0 0 0 0 0 0 0 0 0 0 0), ((qM 1), .inl (cB, 2000, .inl g11)), ((qM 2), .inl (cI, 4, .inl g8))] H := by rw [eg11]; exact hP
  have hD : va_D A [(aM, oM qM 0 0 0 0 0 0 0 0 0 0 0 0 0 0 0 0 0 0), ((qM 1), .inl (cB, 2000, .inl g11)), ((qM 2), .inl (cI, 4, .inl g8))] := by rw [eg11]; exact hD
  refine lv_aload_n hx hb dX12_four_22 rfl (lv_at hl 1 rfl) ?_
  refine va_get (D := D) (ci := 12) (v := .ref (qM 2)) (C := RX12) (T := TX12) (N := 97) hx hb htg iwG_12 hown hE.1 hP 0 rfl rfl 2 (by decide) (htg _ wm_468) (fun _ h9 => h9) rfl dX12_four_23 ?_
  refine lv_iconst (v := 0) hx hb dX12_four_26 (by decide +kernel) ?_
  refine lv_dup2_11 hx hb dX12_four_27 rfl rfl ?_
  refine va_iald hx hb hE.1 hP 2 0 rfl rfl (vp_in_iff.mpr ⟨by decide +kernel, by decide +kernel⟩) dX12_four_28 ?_
  refine g_top 18 fg8 ?_
  refine lv_iconst (v := 1) hx hb dX12_four_29 (by decide +kernel) ?_
  refine lv_iadd hx hb dX12_four_30 ?_
  refine g_top 19 (by decide +kernel) ?_
  refine va_iast hx hb hE.1 hP hD hS 2 0 rfl rfl (vp_in_iff.mpr ⟨by decide +kernel, by decide +kernel⟩) dX12_four_31 (fun H locs hP hD hS => ?_)
  obtain ⟨g12, eg12, fg12⟩ : ∃ gz : Nat → Int32, gz = upd g8 (0 : Int32).toNatClampNeg 19 ∧ gz (0 : Int32).toNatClampNeg = 19 := ⟨_, rfl, pk_us⟩
  have hP : va_P D vwCl [(aM, oM qM 0 0 0 0 0 0 0 0 0 0 0 0 0 0 0 0 0 0), ((qM 1), .inl (cB, 2000, .inl g11)), ((qM 2), .inl (cI, 4, .inl g12))] H := by rw [eg12]; exact hP
  have hD : va_D A [(aM, oM qM 0 0 0 0 0 0 0 0 0 0 0 0 0 0 0 0 0 0), ((qM 1), .inl (cB, 2000, .inl g11)), ((qM 2), .inl (cI, 4, .inl g12))] := by rw [eg12]; exact hD
  refine lv_iinc (v := 0) (lv' := [(2, .int 0), (0, .ref aM), (1, .int y0)]) hx hb dX12_four_32 hl (k := 0) rfl (by decide +kernel) (by decide) rfl (fun ls hl => ?_)
  refine lv_goto (tgt := 3) hx hb dX12_four_35 (by decide) ?_
  refine lv_iload_n hx hb dX12_four_3 rfl (lv_at hl 0 rfl) ?_
  refine lv_if_lt (tgt := 38) hx hb dX12_four_4 (by decide) (fun c9 => absurd c9 (by decide +kernel)) (fun _ => ?_)
  refine lv_aload_n hx hb dX12_four_7 rfl (lv_at hl 1 rfl) ?_
  refine va_get (D := D) (ci := 12) (v := .ref (qM 1)) (C := RX12) (T := TX12) (N := 97) hx hb htg iwG_12 hown hE.1 hP 0 rfl rfl 1 (by decide) (htg _ wm_467) (fun _ h9 => h9) rfl dX12_four_8 ?_
  refine lv_aload_n hx hb dX12_four_11 rfl (lv_at hl 1 rfl) ?_
  refine va_get (D := D) (ci := 12) (v := .ref (qM 2)) (C := RX12) (T := TX12) (N := 97) hx hb htg iwG_12 hown hE.1 hP 0 rfl rfl 2 (by decide) (htg _ wm_468) (fun _ h9 => h9) rfl dX12_four_12 ?_
  refine lv_iconst (v := 0) hx hb dX12_four_15 (by decide +kernel) ?_
  refine va_iald hx hb hE.1 hP 2 0 rfl rfl (vp_in_iff.mpr ⟨by decide +kernel, by decide +kernel⟩) dX12_four_16 ?_
  refine g_top 19 fg12 ?_
  refine lv_iload_n hx hb dX12_four_17 rfl (lv_at hl 2 rfl) ?_
  refine lv_iload_n hx hb dX12_four_18 rfl (lv_at hl 0 rfl) ?_
  refine lv_ishr hx hb dX12_four_19 ?_
  refine lv_topi (fun v13 ev13 => ?_)
  obtain ⟨v14, ev14⟩ : ∃ y : Int32, y = Int8.toInt32 (Int32.toInt8 v13) := ⟨_, rfl⟩
  refine lv_i2b (v := v14) hx hb dX12_four_20 ev14.symm ?_
  refine va_bast hx hb hE.1 hP hD hS 1 1 rfl rfl (vp_in_iff.mpr ⟨by decide +kernel, by decide +kernel⟩) dX12_four_21 (fun H locs hP hD hS => ?_)
  obtain ⟨g15, eg15⟩ : ∃ gz : Nat → Int32, gz = upd g11 (19 : Int32).toNatClampNeg (vp_nar .byte v14) := ⟨_, rfl⟩
  have hP : va_P D vwCl [(aM, oM qM 0 0 0 0 0 0 0 0 0 0 0 0 0 0 0 0 0 0), ((qM 1), .inl (cB, 2000, .inl g15)), ((qM 2), .inl (cI, 4, .inl g12))] H := by rw [eg15]; exact hP
  have hD : va_D A [(aM, oM qM 0 0 0 0 0 0 0 0 0 0 0 0 0 0 0 0 0 0), ((qM 1), .inl (cB, 2000, .inl g15)), ((qM 2), .inl (cI, 4, .inl g12))] := by rw [eg15]; exact hD
  refine lv_aload_n hx hb dX12_four_22 rfl (lv_at hl 1 rfl) ?_
  refine va_get (D := D) (ci := 12) (v := .ref (qM 2)) (C := RX12) (T := TX12) (N := 97) hx hb htg iwG_12 hown hE.1 hP 0 rfl rfl 2 (by decide) (htg _ wm_468) (fun _ h9 => h9) rfl dX12_four_23 ?_
  refine lv_iconst (v := 0) hx hb dX12_four_26 (by decide +kernel) ?_
  refine lv_dup2_11 hx hb dX12_four_27 rfl rfl ?_
  refine va_iald hx hb hE.1 hP 2 0 rfl rfl (vp_in_iff.mpr ⟨by decide +kernel, by decide +kernel⟩) dX12_four_28 ?_
  refine g_top 19 fg12 ?_
  refine lv_iconst (v := 1) hx hb dX12_four_29 (by decide +kernel) ?_
  refine lv_iadd hx hb dX12_four_30 ?_
  refine g_top 20 (by decide +kernel) ?_
  refine va_iast hx hb hE.1 hP hD hS 2 0 rfl rfl (vp_in_iff.mpr ⟨by decide +kernel, by decide +kernel⟩) dX12_four_31 (fun H locs hP hD hS => ?_)
  obtain ⟨g16, eg16, fg16⟩ : ∃ gz : Nat → Int32, gz = upd g12 (0 : Int32).toNatClampNeg 20 ∧ gz (0 : Int32).toNatClampNeg = 20 := ⟨_, rfl, pk_us⟩
  have hP : va_P D vwCl [(aM, oM qM 0 0 0 0 0 0 0 0 0 0 0 0 0 0 0 0 0 0), ((qM 1), .inl (cB, 2000, .inl g15)), ((qM 2), .inl (cI, 4, .inl g16))] H := by rw [eg16]; exact hP
  have hD : va_D A [(aM, oM qM 0 0 0 0 0 0 0 0 0 0 0 0 0 0 0 0 0 0), ((qM 1), .inl (cB, 2000, .inl g15)), ((qM 2), .inl (cI, 4, .inl g16))] := by rw [eg16]; exact hD
  refine lv_iinc (v := (-8)) (lv' := [(2, .int (-8)), (0, .ref aM), (1, .int y0)]) hx hb dX12_four_32 hl (k := 0) rfl (by decide +kernel) (by decide) rfl (fun ls hl => ?_)
  refine lv_goto (tgt := 3) hx hb dX12_four_35 (by decide) ?_
  refine lv_iload_n hx hb dX12_four_3 rfl (lv_at hl 0 rfl) ?_
  refine lv_if_lt (tgt := 38) hx hb dX12_four_4 (by decide) (fun _ => ?_) (fun c9 => absurd c9 (by decide +kernel))
  exact g_vret (g16, g15) hF hr hlocks (hP.sub [0, 1, 2] rfl) (hD.sub [0, 1, 2] rfl rfl) hS fg16 dX12_four_38 (Nat.le_of_ble_eq_true rfl) (Nat.le_of_ble_eq_true rfl)
set_option maxHeartbeats 8000000 in
set_option maxRecDepth 100000 in
theorem c_X12_see {l : Launch} {D : va_G} {cI cB cS cZ cW : ClassId} {aM : Nat} {qM : Nat → Nat}  {sz : Nat} : MI l D (gT cI cB cS cZ cW) yX12_see (wG yX12_see cX12_see 1 (some .int)) { frames := 0, cells := 0, slots := 0, locals := 0 } [.ref aM] [(aM, oM qM 0 0 0 0 0 0 0 (-1) (-1) 0 0 0 0 0 0 0 0 0)] sz (fun (r : Int32) (u : Unit) => r = (-1)) (fun (u : Unit) => [(aM, oM qM 0 0 0 0 0 0 0 (-1) (-1) 0 0 0 0 0 0 0 0 0)] : (Unit) → va_W) 0 0 := by
  refine g_enter (y := yX12_see) (w := (wG yX12_see cX12_see 1 (some .int))) (As := [.ref aM]) (D := D) (T := gT cI cB cS cZ cW) (ws := [(aM, oM qM 0 0 0 0 0 0 0 (-1) (-1) 0 0 0 0 0 0 0 0 0)]) (gQi D (fun (r : Int32) (u : Unit) => r = (-1)) (fun (u : Unit) => [(aM, oM qM 0 0 0 0 0 0 0 (-1) (-1) 0 0 0 0 0 0 0 0 0)] : (Unit) → va_W)) (cc := cX12_see) (maxL := 1) (ret := (some .int)) (by decide) rfl (Nat.le_of_ble_eq_true rfl) ?_
  intro p e s m below meth c A ls hF hr hlocks hname hsz hE hA hP hD hS hl
  have hF : CallFix p m c cX12_see 1 s ([.ref aM] : List Value).toArray (wG yX12_see cX12_see 1 (some .int)) RX12 := hF
  obtain ⟨hx, hb, hml, hown, hts⟩ := id hF
  have htg : ∀ w ∈ GL, w.before ([.ref aM] : List Value).toArray s = true := fun w h => hts w (List.mem_cons_of_mem _ h)
  have hl : lv_has ls 1 [(0, .ref aM)] := hl
  have zm1 := tm_1
  have z0 := t_0
  refine lv_aload_n hx hb dX12_see_0 rfl (lv_at hl 0 rfl) ?_
  refine va_get (D := D) (ci := 12) (v := .int 0) (C := RX12) (T := TX12) (N := 97) hx hb htg iwG_12 hown hE.1 hP 0 rfl rfl 62 (by decide) (htg _ wm_560) (fun _ h9 => h9) rfl dX12_see_1 ?_
  refine lv_aload_n hx hb dX12_see_4 rfl (lv_at hl 0 rfl) ?_
  refine va_get (D := D) (ci := 12) (v := .int 0) (C := RX12) (T := TX12) (N := 97) hx hb htg iwG_12 hown hE.1 hP 0 rfl rfl 63 (by decide) (htg _ wm_561) (fun _ h9 => h9) rfl dX12_see_5 ?_
  refine lv_icmp_ge (tgt := 27) hx hb dX12_see_8 (by decide) (fun _ => ?_) (fun c9 => absurd c9 (by decide +kernel))
  refine lv_iconst (v := (-1)) hx hb dX12_see_27 (by decide +kernel) ?_
  exact g_iret () hF hr rfl hlocks (hP.sub [0] rfl) (hD.sub [0] rfl rfl) hS rfl dX12_see_28 (Nat.le_of_ble_eq_true rfl) (Nat.le_of_ble_eq_true rfl)
set_option maxHeartbeats 8000000 in
set_option maxRecDepth 100000 in
theorem c_X12_token {l : Launch} {D : va_G} {cI cB cS cZ cW : ClassId} {aM : Nat} {qM : Nat → Nat}  {sz : Nat} : MV l D (gT cI cB cS cZ cW) yX12_token (wG yX12_token cX12_token 3 none) { frames := 1, cells := 0, slots := 0, locals := 20 } [.ref aM] [(aM, oM qM 0 0 0 0 0 0 0 (-1) (-1) 0 0 0 0 0 0 0 0 0)] sz (fun (u : Unit) => True) (fun (u : Unit) => [(aM, oM qM 0 0 0 0 0 (-1) 0 (-1) (-1) 0 0 0 0 0 0 0 0 0)] : (Unit) → va_W) 0 0 := by
  refine g_enter (y := yX12_token) (w := (wG yX12_token cX12_token 3 none)) (As := [.ref aM]) (D := D) (T := gT cI cB cS cZ cW) (ws := [(aM, oM qM 0 0 0 0 0 0 0 (-1) (-1) 0 0 0 0 0 0 0 0 0)]) (gQv D (fun (u : Unit) => True) (fun (u : Unit) => [(aM, oM qM 0 0 0 0 0 (-1) 0 (-1) (-1) 0 0 0 0 0 0 0 0 0)] : (Unit) → va_W)) (cc := cX12_token) (maxL := 3) (ret := none) (by decide) rfl (Nat.le_of_ble_eq_true rfl) ?_
  intro p e s m below meth c A ls hF hr hlocks hname hsz hE hA hP hD hS hl
  have hF : CallFix p m c cX12_token 3 s ([.ref aM] : List Value).toArray (wG yX12_token cX12_token 3 none) RX12 := hF
  obtain ⟨hx, hb, hml, hown, hts⟩ := id hF
  have htg : ∀ w ∈ GL, w.before ([.ref aM] : List Value).toArray s = true := fun w h => hts w (List.mem_cons_of_mem _ h)
  have hl : lv_has ls 3 [(0, .ref aM)] := hl
  have zm1 := tm_1
  have z0 := t_0
  have z10 := t_10
  have z32 := t_32
  refine lv_aload_n hx hb dX12_token_0 rfl (lv_at hl 0 rfl) ?_
  refine g_ai (D := D) (wc := [(aM, oM qM 0 0 0 0 0 0 0 (-1) (-1) 0 0 0 0 0 0 0 0 0)]) (wr := []) hP hD hS hA [0] [] rfl rfl rfl rfl (by decide) (fun hPc hDc => va_runV (As := []) (rest := []) hF (c_X12_see (l := l) (D := D) (cI := cI) (cB := cB) (cS := cS) (cZ := cZ) (cW := cW) (aM := aM) (qM := qM)) (cwV 0 hts (gGV (fun _ h => List.mem_cons_of_mem _ h) wm_562 wm_563 wm_564 wm_550 wm_565) rfl rfl rfl (by decide +kernel) ⟨Nat.le_of_ble_eq_true rfl, Nat.le_of_ble_eq_true rfl⟩) (g_preV (q := (RX12, TX12, 97)) (ci := 12) (q0 := 0) hE hPc hDc rfl rfl) rfl rfl hl.1 rfl (lv_room (Nat.le_of_ble_eq_true rfl)) dX12_token_1 ⟨Nat.le_of_ble_eq_true rfl, Nat.le_of_ble_eq_true rfl⟩) (fun r1 u2 H locs p3 hP hD hS => ?_)
  have hP : va_P D vwCl [(aM, oM qM 0 0 0 0 0 0 0 (-1) (-1) 0 0 0 0 0 0 0 0 0)] H := hP
  have hD : va_D A [(aM, oM qM 0 0 0 0 0 0 0 (-1) (-1) 0 0 0 0 0 0 0 0 0)] := hD
  obtain rfl := p3
  refine lv_bipush (v := 10) hx hb dX12_token_4 (by decide +kernel) ?_
  refine lv_icmp_eq (tgt := 18) hx hb dX12_token_6 (by decide) (fun c9 => absurd c9 (by decide +kernel)) (fun _ => ?_)
  refine lv_aload_n hx hb dX12_token_9 rfl (lv_at hl 0 rfl) ?_
  refine g_ai (D := D) (wc := [(aM, oM qM 0 0 0 0 0 0 0 (-1) (-1) 0 0 0 0 0 0 0 0 0)]) (wr := []) hP hD hS hA [0] [] rfl rfl rfl rfl (by decide) (fun hPc hDc => va_runV (As := []) (rest := []) hF (c_X12_see (l := l) (D := D) (cI := cI) (cB := cB) (cS := cS) (cZ := cZ) (cW := cW) (aM := aM) (qM := qM)) (cwV 0 hts (gGV (fun _ h => List.mem_cons_of_mem _ h) wm_562 wm_563 wm_564 wm_550 wm_565) rfl rfl rfl (by decide +kernel) ⟨Nat.le_of_ble_eq_true rfl, Nat.le_of_ble_eq_true rfl⟩) (g_preV (q := (RX12, TX12, 97)) (ci := 12) (q0 := 0) hE hPc hDc rfl rfl) rfl rfl hl.1 rfl (lv_room (Nat.le_of_ble_eq_true rfl)) dX12_token_10 ⟨Nat.le_of_ble_eq_true rfl, Nat.le_of_ble_eq_true rfl⟩) (fun r4 u5 H locs p6 hP hD hS => ?_)
  have hP : va_P D vwCl [(aM, oM qM 0 0 0 0 0 0 0 (-1) (-1) 0 0 0 0 0 0 0 0 0)] H := hP
  have hD : va_D A [(aM, oM qM 0 0 0 0 0 0 0 (-1) (-1) 0 0 0 0 0 0 0 0 0)] := hD
  obtain rfl := p6
  refine lv_bipush (v := 32) hx hb dX12_token_13 (by decide +kernel) ?_
  refine lv_icmp_ne (tgt := 31) hx hb dX12_token_15 (by decide) (fun _ => ?_) (fun c9 => absurd c9 (by decide +kernel))
  refine lv_aload_n hx hb dX12_token_31 rfl (lv_at hl 0 rfl) ?_
  refine lv_aload_n hx hb dX12_token_32 rfl (lv_at hl 0 rfl) ?_
  refine va_get (D := D) (ci := 12) (v := .int 0) (C := RX12) (T := TX12) (N := 97) hx hb htg iwG_12 hown hE.1 hP 0 rfl rfl 62 (by decide) (htg _ wm_560) (fun _ h9 => h9) rfl dX12_token_33 ?_
  refine va_put (D := D) (ci := 12) (v := .int 0) (ty := tyX12 64) (C := RX12) (T := TX12) (N := 97) hx hb htg iwG_12 tyX12 tyX12_ok nmX12 hown hE.1 hP hD hS 0 rfl rfl 64 (by decide) (htg _ wm_566) (fun _ h9 => h9) rfl (by decide +kernel) rfl rfl (Nat.le_of_ble_eq_true rfl) dX12_token_36 (fun H locs hP hD hS => ?_)
  have hP : va_P D vwCl [(aM, oM qM 0 0 0 0 0 0 0 (-1) (-1) 0 0 0 0 0 0 0 0 0)] H := hP
  have hD : va_D A [(aM, oM qM 0 0 0 0 0 0 0 (-1) (-1) 0 0 0 0 0 0 0 0 0)] := hD
  refine lv_aload_n hx hb dX12_token_39 rfl (lv_at hl 0 rfl) ?_
  refine g_ai (D := D) (wc := [(aM, oM qM 0 0 0 0 0 0 0 (-1) (-1) 0 0 0 0 0 0 0 0 0)]) (wr := []) hP hD hS hA [0] [] rfl rfl rfl rfl (by decide) (fun hPc hDc => va_runV (As := []) (rest := []) hF (c_X12_see (l := l) (D := D) (cI := cI) (cB := cB) (cS := cS) (cZ := cZ) (cW := cW) (aM := aM) (qM := qM)) (cwV 0 hts (gGV (fun _ h => List.mem_cons_of_mem _ h) wm_562 wm_563 wm_564 wm_550 wm_565) rfl rfl rfl (by decide +kernel) ⟨Nat.le_of_ble_eq_true rfl, Nat.le_of_ble_eq_true rfl⟩) (g_preV (q := (RX12, TX12, 97)) (ci := 12) (q0 := 0) hE hPc hDc rfl rfl) rfl rfl hl.1 rfl (lv_room (Nat.le_of_ble_eq_true rfl)) dX12_token_40 ⟨Nat.le_of_ble_eq_true rfl, Nat.le_of_ble_eq_true rfl⟩) (fun r7 u8 H locs p9 hP hD hS => ?_)
  have hP : va_P D vwCl [(aM, oM qM 0 0 0 0 0 0 0 (-1) (-1) 0 0 0 0 0 0 0 0 0)] H := hP
  have hD : va_D A [(aM, oM qM 0 0 0 0 0 0 0 (-1) (-1) 0 0 0 0 0 0 0 0 0)] := hD
  obtain rfl := p9
  refine lv_istore_n (lv' := [(1, .int (-1)), (0, .ref aM)]) hx hb dX12_token_43 rfl hl (by decide) rfl (fun ls hl => ?_)
  refine lv_aload_n hx hb dX12_token_44 rfl (lv_at hl 1 rfl) ?_
  refine lv_iload_n hx hb dX12_token_45 rfl (lv_at hl 0 rfl) ?_
  refine va_put (D := D) (ci := 12) (v := .int (-1)) (ty := tyX12 66) (C := RX12) (T := TX12) (N := 97) hx hb htg iwG_12 tyX12 tyX12_ok nmX12 hown hE.1 hP hD hS 0 rfl rfl 66 (by decide) (htg _ wm_567) (fun _ h9 => h9) rfl (by decide +kernel) rfl rfl (Nat.le_of_ble_eq_true rfl) dX12_token_46 (fun H locs hP hD hS => ?_)
  have hP : va_P D vwCl [(aM, oM qM 0 0 0 0 0 (-1) 0 (-1) (-1) 0 0 0 0 0 0 0 0 0)] H := hP
  have hD : va_D A [(aM, oM qM 0 0 0 0 0 (-1) 0 (-1) (-1) 0 0 0 0 0 0 0 0 0)] := hD
  refine lv_aload_n hx hb dX12_token_49 rfl (lv_at hl 1 rfl) ?_
  refine lv_lconst (v := 0) hx hb dX12_token_50 (by decide +kernel) ?_
  refine va_put (D := D) (ci := 12) (v := .long 0) (ty := tyX12 67) (C := RX12) (T := TX12) (N := 97) hx hb htg iwG_12 tyX12 tyX12_ok nmX12 hown hE.1 hP hD hS 0 rfl rfl 67 (by decide) (htg _ wm_568) (fun _ h9 => h9) rfl (by decide +kernel) rfl rfl (Nat.le_of_ble_eq_true rfl) dX12_token_51 (fun H locs hP hD hS => ?_)
  have hP : va_P D vwCl [(aM, oM qM 0 0 0 0 0 (-1) 0 (-1) (-1) 0 0 0 0 0 0 0 0 0)] H := hP
  have hD : va_D A [(aM, oM qM 0 0 0 0 0 (-1) 0 (-1) (-1) 0 0 0 0 0 0 0 0 0)] := hD
  refine lv_iconst (v := 0) hx hb dX12_token_54 (by decide +kernel) ?_
  refine lv_istore_n (lv' := [(2, .int 0), (1, .int (-1)), (0, .ref aM)]) hx hb dX12_token_55 rfl hl (by decide) rfl (fun ls hl => ?_)
  refine lv_iload_n hx hb dX12_token_56 rfl (lv_at hl 1 rfl) ?_
  refine lv_if_ge (tgt := 68) hx hb dX12_token_57 (by decide) (fun c9 => absurd c9 (by decide +kernel)) (fun _ => ?_)
  refine lv_aload_n hx hb dX12_token_60 rfl (lv_at hl 2 rfl) ?_
  refine lv_iconst (v := 0) hx hb dX12_token_61 (by decide +kernel) ?_
  refine va_put (D := D) (ci := 12) (v := .int 0) (ty := tyX12 65) (C := RX12) (T := TX12) (N := 97) hx hb htg iwG_12 tyX12 tyX12_ok nmX12 hown hE.1 hP hD hS 0 rfl rfl 65 (by decide) (htg _ wm_569) (fun _ h9 => h9) rfl (by decide +kernel) rfl rfl (Nat.le_of_ble_eq_true rfl) dX12_token_62 (fun H locs hP hD hS => ?_)
  have hP : va_P D vwCl [(aM, oM qM 0 0 0 0 0 (-1) 0 (-1) (-1) 0 0 0 0 0 0 0 0 0)] H := hP
  have hD : va_D A [(aM, oM qM 0 0 0 0 0 (-1) 0 (-1) (-1) 0 0 0 0 0 0 0 0 0)] := hD
  refine lv_goto (tgt := 295) hx hb dX12_token_65 (by decide) ?_
  exact g_vret () hF hr hlocks (hP.sub [0] rfl) (hD.sub [0] rfl rfl) hS trivial dX12_token_295 (Nat.le_of_ble_eq_true rfl) (Nat.le_of_ble_eq_true rfl)
set_option maxHeartbeats 8000000 in
set_option maxRecDepth 100000 in
theorem c_X12_areAll {l : Launch} {D : va_G} {cI cB cS cZ cW : ClassId} {aM : Nat} {y0 : Int32} {y1 : Int32} {y2 : Int32} {y3 : Int32} {qM : Nat → Nat}  {sz : Nat} : MI l D (gT cI cB cS cZ cW) yX12_areAll (wG yX12_areAll cX12_areAll 5 (some .boolean)) { frames := 2, cells := 0, slots := 0, locals := 43 } [.ref aM, .int y0, .int y1, .int y2, .int y3] [(aM, oM qM 0 0 0 0 0 0 0 0 0 0 0 0 0 0 0 0 0 0), ((qM 14), .inl (cI, 4, .inl (fun _ => 0)))] sz (fun (r : Int32) (u : Unit) => r = 0) (fun (u : Unit) => [(aM, oM qM 0 0 0 0 0 0 0 0 0 0 0 0 0 0 0 0 0 0), ((qM 14), .inl (cI, 4, .inl (fun _ => 0)))] : (Unit) → va_W) 0 0 := by
  refine g_enter (y := yX12_areAll) (w := (wG yX12_areAll cX12_areAll 5 (some .boolean))) (As := [.ref aM, .int y0, .int y1, .int y2, .int y3]) (D := D) (T := gT cI cB cS cZ cW) (ws := [(aM, oM qM 0 0 0 0 0 0 0 0 0 0 0 0 0 0 0 0 0 0), ((qM 14), .inl (cI, 4, .inl (fun _ => 0)))]) (gQi D (fun (r : Int32) (u : Unit) => r = 0) (fun (u : Unit) => [(aM, oM qM 0 0 0 0 0 0 0 0 0 0 0 0 0 0 0 0 0 0), ((qM 14), .inl (cI, 4, .inl (fun _ => 0)))] : (Unit) → va_W)) (cc := cX12_areAll) (maxL := 5) (ret := (some .boolean)) (by decide) rfl (Nat.le_of_ble_eq_true rfl) ?_
  intro p e s m below meth c A ls hF hr hlocks hname hsz hE hA hP hD hS hl
  have hF : CallFix p m c cX12_areAll 5 s ([.ref aM, .int y0, .int y1, .int y2, .int y3] : List Value).toArray (wG yX12_areAll cX12_areAll 5 (some .boolean)) RX12 := hF
  obtain ⟨hx, hb, hml, hown, hts⟩ := id hF
  have htg : ∀ w ∈ GL, w.before ([.ref aM, .int y0, .int y1, .int y2, .int y3] : List Value).toArray s = true := fun w h => hts w (List.mem_cons_of_mem _ h)
  have hl : lv_has ls 5 [(0, .ref aM), (1, .int y0), (2, .int y1), (3, .int y2), (4, .int y3)] := hl
  have z0 := t_0
  have z1 := t_1
  have z4 := t_4
  refine lv_iload_n hx hb dX12_areAll_0 rfl (lv_at hl 1 rfl) ?_
  refine lv_iconst (v := 0) hx hb dX12_areAll_1 (by decide +kernel) ?_
  refine lv_iconst (v := 4) hx hb dX12_areAll_2 (by decide +kernel) ?_
  refine g_ai (D := D) (wc := []) (wr := [(aM, oM qM 0 0 0 0 0 0 0 0 0 0 0 0 0 0 0 0 0 0), ((qM 14), .inl (cI, 4, .inl (fun _ => 0)))]) hP hD hS hA [] [0, 1] rfl rfl rfl rfl (by decide) (fun hPc hDc => va_runS (As := [.int y0, .int 0, .int 4]) (rest := []) hF (c_X12_in (l := l) (D := D) (cI := cI) (cB := cB) (cS := cS) (cZ := cZ) (cW := cW) (y0 := y0) (y1 := 0) (y2 := 4)) (va_cwS 3 hts (gGS (fun _ h => List.mem_cons_of_mem _ h) wm_548 wm_549 wm_550 wm_551) rfl rfl rfl (by decide +kernel) ⟨Nat.le_of_ble_eq_true rfl, Nat.le_of_ble_eq_true rfl⟩) (g_preS hE hPc hDc) rfl rfl hl.1 rfl (lv_room (Nat.le_of_ble_eq_true rfl)) dX12_areAll_3 ⟨Nat.le_of_ble_eq_true rfl, Nat.le_of_ble_eq_true rfl⟩) (fun r1 u2 H locs p3 hP hD hS => ?_)
  have hP : va_P D vwCl [(aM, oM qM 0 0 0 0 0 0 0 0 0 0 0 0 0 0 0 0 0 0), ((qM 14), .inl (cI, 4, .inl (fun _ => 0)))] H := hP
  have hD : va_D A [(aM, oM qM 0 0 0 0 0 0 0 0 0 0 0 0 0 0 0 0 0 0), ((qM 14), .inl (cI, 4, .inl (fun _ => 0)))] := hD
  rcases p3 with ⟨rfl, p3a⟩ | ⟨rfl, p3a⟩
  · skip
    refine lv_if_eq (tgt := 37) hx hb dX12_areAll_6 (by decide) (fun c9 => absurd c9 (by decide +kernel)) (fun _ => ?_)
    refine lv_aload_n hx hb dX12_areAll_9 rfl (lv_at hl 0 rfl) ?_
    refine lv_iload_n hx hb dX12_areAll_10 rfl (lv_at hl 2 rfl) ?_
    refine g_ai (D := D) (wc := [(aM, oM qM 0 0 0 0 0 0 0 0 0 0 0 0 0 0 0 0 0 0), ((qM 14), .inl (cI, 4, .inl (fun _ => 0)))]) (wr := []) hP hD hS hA [0, 1] [] rfl rfl rfl rfl (by decide) (fun hPc hDc => va_runV (As := [.int y1]) (rest := []) hF (c_X12_isPerson (l := l) (D := D) (cI := cI) (cB := cB) (cS := cS) (cZ := cZ) (cW := cW) (aM := aM) (y0 := y1) (qM := qM)) (cwV 1 hts (gGV (fun _ h => List.mem_cons_of_mem _ h) wm_552 wm_553 wm_554 wm_550 wm_555) rfl rfl rfl (by decide +kernel) ⟨Nat.le_of_ble_eq_true rfl, Nat.le_of_ble_eq_true rfl⟩) (g_preV (q := (RX12, TX12, 97)) (ci := 12) (q0 := 0) hE hPc hDc rfl rfl) rfl rfl hl.1 rfl (lv_room (Nat.le_of_ble_eq_true rfl)) dX12_areAll_11 ⟨Nat.le_of_ble_eq_true rfl, Nat.le_of_ble_eq_true rfl⟩) (fun r4 u5 H locs p6 hP hD hS => ?_)
    have hP : va_P D vwCl [(aM, oM qM 0 0 0 0 0 0 0 0 0 0 0 0 0 0 0 0 0 0), ((qM 14), .inl (cI, 4, .inl (fun _ => 0)))] H := hP
    have hD : va_D A [(aM, oM qM 0 0 0 0 0 0 0 0 0 0 0 0 0 0 0 0 0 0), ((qM 14), .inl (cI, 4, .inl (fun _ => 0)))] := hD
    obtain rfl := p6
    refine lv_if_eq (tgt := 37) hx hb dX12_areAll_14 (by decide) (fun _ => ?_) (fun c9 => absurd c9 (by decide +kernel))
    refine lv_iconst (v := 0) hx hb dX12_areAll_37 (by decide +kernel) ?_
    exact g_iret () hF hr rfl hlocks (hP.sub [0, 1] rfl) (hD.sub [0, 1] rfl rfl) hS rfl dX12_areAll_38 (Nat.le_of_ble_eq_true rfl) (Nat.le_of_ble_eq_true rfl)
  · skip
    refine lv_if_eq (tgt := 37) hx hb dX12_areAll_6 (by decide) (fun _ => ?_) (fun c9 => absurd c9 (by decide +kernel))
    refine lv_iconst (v := 0) hx hb dX12_areAll_37 (by decide +kernel) ?_
    exact g_iret () hF hr rfl hlocks (hP.sub [0, 1] rfl) (hD.sub [0, 1] rfl rfl) hS rfl dX12_areAll_38 (Nat.le_of_ble_eq_true rfl) (Nat.le_of_ble_eq_true rfl)
set_option maxHeartbeats 8000000 in
set_option maxRecDepth 100000 in
theorem c_X12_canAsk {l : Launch} {D : va_G} {cI cB cS cZ cW : ClassId} {aM : Nat} {y0 : Int32} {y1 : Int32} {y2 : Int32} {y3 : Int32} {qM : Nat → Nat}  {sz : Nat} : MI l D (gT cI cB cS cZ cW) yX12_canAsk (wG yX12_canAsk cX12_canAsk 6 (some .boolean)) { frames := 3, cells := 0, slots := 0, locals := 64 } [.ref aM, .int y0, .int y1, .int y2, .int y3] [(aM, oM qM 0 0 0 0 0 0 0 0 0 0 0 0 0 0 0 0 0 0), ((qM 14), .inl (cI, 4, .inl (fun _ => 0))), ((qM 41), .inl (cI, 4, .inl (fun _ => 0)))] sz (fun (r : Int32) (u : Unit) => r = 0) (fun (u : Unit) => [(aM, oM qM 0 0 0 0 0 0 0 0 0 0 0 0 0 0 0 0 0 0), ((qM 14), .inl (cI, 4, .inl (fun _ => 0))), ((qM 41), .inl (cI, 4, .inl (fun _ => 0)))] : (Unit) → va_W) 0 0 := by
  refine g_enter (y := yX12_canAsk) (w := (wG yX12_canAsk cX12_canAsk 6 (some .boolean))) (As := [.ref aM, .int y0, .int y1, .int y2, .int y3]) (D := D) (T := gT cI cB cS cZ cW) (ws := [(aM, oM qM 0 0 0 0 0 0 0 0 0 0 0 0 0 0 0 0 0 0), ((qM 14), .inl (cI, 4, .inl (fun _ => 0))), ((qM 41), .inl (cI, 4, .inl (fun _ => 0)))]) (gQi D (fun (r : Int32) (u : Unit) => r = 0) (fun (u : Unit) => [(aM, oM qM 0 0 0 0 0 0 0 0 0 0 0 0 0 0 0 0 0 0), ((qM 14), .inl (cI, 4, .inl (fun _ => 0))), ((qM 41), .inl (cI, 4, .inl (fun _ => 0)))] : (Unit) → va_W)) (cc := cX12_canAsk) (maxL := 6) (ret := (some .boolean)) (by decide) rfl (Nat.le_of_ble_eq_true rfl) ?_
  intro p e s m below meth c A ls hF hr hlocks hname hsz hE hA hP hD hS hl
  have hF : CallFix p m c cX12_canAsk 6 s ([.ref aM, .int y0, .int y1, .int y2, .int y3] : List Value).toArray (wG yX12_canAsk cX12_canAsk 6 (some .boolean)) RX12 := hF
  obtain ⟨hx, hb, hml, hown, hts⟩ := id hF
  have htg : ∀ w ∈ GL, w.before ([.ref aM, .int y0, .int y1, .int y2, .int y3] : List Value).toArray s = true := fun w h => hts w (List.mem_cons_of_mem _ h)
  have hl : lv_has ls 6 [(0, .ref aM), (1, .int y0), (2, .int y1), (3, .int y2), (4, .int y3)] := hl
  have z0 := t_0
  have z120 := t_120
  refine lv_aload_n hx hb dX12_canAsk_0 rfl (lv_at hl 0 rfl) ?_
  refine va_get (D := D) (ci := 12) (v := .ref (qM 41)) (C := RX12) (T := TX12) (N := 97) hx hb htg iwG_12 hown hE.1 hP 0 rfl rfl 41 (by decide) (htg _ wm_508) (fun _ h9 => h9) rfl dX12_canAsk_1 ?_
  refine lv_iconst (v := 0) hx hb dX12_canAsk_4 (by decide +kernel) ?_
  refine va_iald hx hb hE.1 hP 2 0 rfl rfl (vp_in_iff.mpr ⟨by decide +kernel, by decide +kernel⟩) dX12_canAsk_5 ?_
  refine g_top 0 rfl ?_
  refine lv_bipush (v := 120) hx hb dX12_canAsk_6 (by decide +kernel) ?_
  refine lv_icmp_eq (tgt := 47) hx hb dX12_canAsk_8 (by decide) (fun c9 => absurd c9 (by decide +kernel)) (fun _ => ?_)
  refine lv_aload_n hx hb dX12_canAsk_11 rfl (lv_at hl 0 rfl) ?_
  refine lv_iload_n hx hb dX12_canAsk_12 rfl (lv_at hl 1 rfl) ?_
  refine g_ai (D := D) (wc := [(aM, oM qM 0 0 0 0 0 0 0 0 0 0 0 0 0 0 0 0 0 0), ((qM 14), .inl (cI, 4, .inl (fun _ => 0)))]) (wr := [((qM 41), .inl (cI, 4, .inl (fun _ => 0)))]) hP hD hS hA [0, 1] [2] rfl rfl rfl rfl (by decide) (fun hPc hDc => va_runV (As := [.int y0]) (rest := []) hF (c_X12_isWorker (l := l) (D := D) (cI := cI) (cB := cB) (cS := cS) (cZ := cZ) (cW := cW) (aM := aM) (y0 := y0) (qM := qM)) (cwV 1 hts (gGV (fun _ h => List.mem_cons_of_mem _ h) wm_570 wm_571 wm_572 wm_550 wm_573) rfl rfl rfl (by decide +kernel) ⟨Nat.le_of_ble_eq_true rfl, Nat.le_of_ble_eq_true rfl⟩) (g_preV (q := (RX12, TX12, 97)) (ci := 12) (q0 := 0) hE hPc hDc rfl rfl) rfl rfl hl.1 rfl (lv_room (Nat.le_of_ble_eq_true rfl)) dX12_canAsk_13 ⟨Nat.le_of_ble_eq_true rfl, Nat.le_of_ble_eq_true rfl⟩) (fun r1 u2 H locs p3 hP hD hS => ?_)
  have hP : va_P D vwCl [((qM 41), .inl (cI, 4, .inl (fun _ => 0))), (aM, oM qM 0 0 0 0 0 0 0 0 0 0 0 0 0 0 0 0 0 0), ((qM 14), .inl (cI, 4, .inl (fun _ => 0)))] H := hP
  have hD : va_D A [((qM 41), .inl (cI, 4, .inl (fun _ => 0))), (aM, oM qM 0 0 0 0 0 0 0 0 0 0 0 0 0 0 0 0 0 0), ((qM 14), .inl (cI, 4, .inl (fun _ => 0)))] := hD
  obtain rfl := p3
  refine lv_if_eq (tgt := 47) hx hb dX12_canAsk_16 (by decide) (fun _ => ?_) (fun c9 => absurd c9 (by decide +kernel))
  refine lv_iconst (v := 0) hx hb dX12_canAsk_47 (by decide +kernel) ?_
  exact g_iret () hF hr rfl hlocks (hP.sub [1, 2, 0] rfl) (hD.sub [1, 2, 0] rfl rfl) hS rfl dX12_canAsk_48 (Nat.le_of_ble_eq_true rfl) (Nat.le_of_ble_eq_true rfl)
set_option maxHeartbeats 8000000 in
set_option maxRecDepth 100000 in
theorem c_X12_canVisit {l : Launch} {D : va_G} {cI cB cS cZ cW : ClassId} {aM : Nat} {y0 : Int32} {y1 : Int32} {qM : Nat → Nat}  {sz : Nat} : MI l D (gT cI cB cS cZ cW) yX12_canVisit (wG yX12_canVisit cX12_canVisit 3 (some .boolean)) { frames := 3, cells := 0, slots := 0, locals := 64 } [.ref aM, .int y0, .int y1] [(aM, oM qM 0 0 0 0 0 0 0 0 0 0 0 0 0 0 0 0 0 0), ((qM 14), .inl (cI, 4, .inl (fun _ => 0)))] sz (fun (r : Int32) (u : Unit) => r = 0) (fun (u : Unit) => [(aM, oM qM 0 0 0 0 0 0 0 0 0 0 0 0 0 0 0 0 0 0), ((qM 14), .inl (cI, 4, .inl (fun _ => 0)))] : (Unit) → va_W) 0 0 := by
  refine g_enter (y := yX12_canVisit) (w := (wG yX12_canVisit cX12_canVisit 3 (some .boolean))) (As := [.ref aM, .int y0, .int y1]) (D := D) (T := gT cI cB cS cZ cW) (ws := [(aM, oM qM 0 0 0 0 0 0 0 0 0 0 0 0 0 0 0 0 0 0), ((qM 14), .inl (cI, 4, .inl (fun _ => 0)))]) (gQi D (fun (r : Int32) (u : Unit) => r = 0) (fun (u : Unit) => [(aM, oM qM 0 0 0 0 0 0 0 0 0 0 0 0 0 0 0 0 0 0), ((qM 14), .inl (cI, 4, .inl (fun _ => 0)))] : (Unit) → va_W)) (cc := cX12_canVisit) (maxL := 3) (ret := (some .boolean)) (by decide) rfl (Nat.le_of_ble_eq_true rfl) ?_
  intro p e s m below meth c A ls hF hr hlocks hname hsz hE hA hP hD hS hl
  have hF : CallFix p m c cX12_canVisit 3 s ([.ref aM, .int y0, .int y1] : List Value).toArray (wG yX12_canVisit cX12_canVisit 3 (some .boolean)) RX12 := hF
  obtain ⟨hx, hb, hml, hown, hts⟩ := id hF
  have htg : ∀ w ∈ GL, w.before ([.ref aM, .int y0, .int y1] : List Value).toArray s = true := fun w h => hts w (List.mem_cons_of_mem _ h)
  have hl : lv_has ls 3 [(0, .ref aM), (1, .int y0), (2, .int y1)] := hl
  have z0 := t_0
  refine lv_aload_n hx hb dX12_canVisit_0 rfl (lv_at hl 0 rfl) ?_
  refine lv_iload_n hx hb dX12_canVisit_1 rfl (lv_at hl 1 rfl) ?_
  refine g_ai (D := D) (wc := [(aM, oM qM 0 0 0 0 0 0 0 0 0 0 0 0 0 0 0 0 0 0), ((qM 14), .inl (cI, 4, .inl (fun _ => 0)))]) (wr := []) hP hD hS hA [0, 1] [] rfl rfl rfl rfl (by decide) (fun hPc hDc => va_runV (As := [.int y0]) (rest := []) hF (c_X12_isWorker (l := l) (D := D) (cI := cI) (cB := cB) (cS := cS) (cZ := cZ) (cW := cW) (aM := aM) (y0 := y0) (qM := qM)) (cwV 1 hts (gGV (fun _ h => List.mem_cons_of_mem _ h) wm_570 wm_571 wm_572 wm_550 wm_573) rfl rfl rfl (by decide +kernel) ⟨Nat.le_of_ble_eq_true rfl, Nat.le_of_ble_eq_true rfl⟩) (g_preV (q := (RX12, TX12, 97)) (ci := 12) (q0 := 0) hE hPc hDc rfl rfl) rfl rfl hl.1 rfl (lv_room (Nat.le_of_ble_eq_true rfl)) dX12_canVisit_2 ⟨Nat.le_of_ble_eq_true rfl, Nat.le_of_ble_eq_true rfl⟩) (fun r1 u2 H locs p3 hP hD hS => ?_)
  have hP : va_P D vwCl [(aM, oM qM 0 0 0 0 0 0 0 0 0 0 0 0 0 0 0 0 0 0), ((qM 14), .inl (cI, 4, .inl (fun _ => 0)))] H := hP
  have hD : va_D A [(aM, oM qM 0 0 0 0 0 0 0 0 0 0 0 0 0 0 0 0 0 0), ((qM 14), .inl (cI, 4, .inl (fun _ => 0)))] := hD
  obtain rfl := p3
  refine lv_if_eq (tgt := 40) hx hb dX12_canVisit_5 (by decide) (fun _ => ?_) (fun c9 => absurd c9 (by decide +kernel))
  refine lv_iconst (v := 0) hx hb dX12_canVisit_40 (by decide +kernel) ?_
  exact g_iret () hF hr rfl hlocks (hP.sub [0, 1] rfl) (hD.sub [0, 1] rfl rfl) hS rfl dX12_canVisit_41 (Nat.le_of_ble_eq_true rfl) (Nat.le_of_ble_eq_true rfl)
set_option maxHeartbeats 8000000 in
set_option maxRecDepth 100000 in
theorem c_X12_move_1 {l : Launch} {D : va_G} {cI cB cS cZ cW : ClassId} {aV : Nat} {y0 : Int32} {g : Nat → Int32} (hy0 : 1 ≤ y0.toInt ∧ y0.toInt ≤ 3) {sz : Nat} : MV l D (gT cI cB cS cZ cW) yX12_move (wG yX12_move cX12_move 5 none) { frames := 0, cells := 0, slots := 0, locals := 0 } [.ref aV, .int 1, .int 0, .int y0] [(aV, .inl (cI, 4, .inl g))] sz (fun (u : Unit) => True) (fun (u : Unit) => [] : (Unit) → va_W) 0 0 := by
  refine g_enter (y := yX12_move) (w := (wG yX12_move cX12_move 5 none)) (As := [.ref aV, .int 1, .int 0, .int y0]) (D := D) (T := gT cI cB cS cZ cW) (ws := [(aV, .inl (cI, 4, .inl g))]) (gQv D (fun (u : Unit) => True) (fun (u : Unit) => [] : (Unit) → va_W)) (cc := cX12_move) (maxL := 5) (ret := none) (by decide) rfl (Nat.le_of_ble_eq_true rfl) ?_
  intro p e s m below meth c A ls hF hr hlocks hname hsz hE hA hP hD hS hl
  have hF : CallFix p m c cX12_move 5 s ([.ref aV, .int 1, .int 0, .int y0] : List Value).toArray (wG yX12_move cX12_move 5 none) RX12 := hF
  obtain ⟨hx, hb, hml, hown, hts⟩ := id hF
  have htg : ∀ w ∈ GL, w.before ([.ref aV, .int 1, .int 0, .int y0] : List Value).toArray s = true := fun w h => hts w (List.mem_cons_of_mem _ h)
  have hl : lv_has ls 5 [(0, .ref aV), (1, .int 1), (2, .int 0), (3, .int y0)] := hl
  have z0 := t_0
  have z1 := t_1
  refine lv_iconst (v := 0) hx hb dX12_move_0 (by decide +kernel) ?_
  refine lv_istore (lv' := [(4, .int 0), (0, .ref aV), (1, .int 1), (2, .int 0), (3, .int y0)]) hx hb dX12_move_1 hl (by decide) rfl (fun ls hl => ?_)
  have LP4 : ∀ (n3 k2 : Nat), k2 + n3 = 1 → ∀ (g1 : Nat → Int32) (H : Heap) (locs : List Loc) (ls : Array Slot), va_P D vwCl [(aV, .inl (cI, 4, .inl g1))] H → va_D A [(aV, .inl (cI, 4, .inl g1))] → va_S A s.heap H locs → lv_has ls 5 [(4, .int (nI k2)), (0, .ref aV), (1, .int 1), (2, .int 0), (3, .int y0)] → W p l e ({ frames := 0, cells := 0, slots := 0, locals := 0 } : Room) s m ([.ref aV, .int 1, .int 0, .int y0] : List Value).toArray below meth c H locs 0 0 (MQ below (gQv D (fun (u : Unit) => True) (fun (u : Unit) => [] : (Unit) → va_W) A) ([.ref aV, .int 1, .int 0, .int y0] : List Value).toArray s 0 0 A) (F0 m 3 ls []) := by
    intro n3
    induction n3 with
    | zero =>
      intro k2 hk g1 H locs ls hP hD hS hl
      obtain rfl : k2 = 1 := by omega
      have hl : lv_has ls 5 [(4, .int 1), (0, .ref aV), (1, .int 1), (2, .int 0), (3, .int y0)] := hl
      refine lv_iload hx hb dX12_move_3 (lv_at hl 0 rfl) ?_
      refine lv_iload_n hx hb dX12_move_5 rfl (lv_at hl 2 rfl) ?_
      refine lv_icmp_ge (tgt := 31) hx hb dX12_move_6 (by decide) (fun _ => ?_) (fun c9 => absurd c9 (by decide +kernel))
      exact g_vret () hF hr hlocks (hP.sub [] rfl) (hD.sub [] rfl rfl) hS trivial dX12_move_31 (Nat.le_of_ble_eq_true rfl) (Nat.le_of_ble_eq_true rfl)
    | succ n3 ih =>
      intro k2 hk g1 H locs ls hP hD hS hl
      have hk2 : k2 < 1 := by omega
      have ikk2 : (nI k2).toInt = k2 := nI_toInt (by omega)
      refine lv_iload hx hb dX12_move_3 (lv_at hl 0 rfl) ?_
      refine lv_iload_n hx hb dX12_move_5 rfl (lv_at hl 2 rfl) ?_
      refine lv_icmp_ge (tgt := 31) hx hb dX12_move_6 (by decide) (fun c9 => absurd (i_le.mp c9) (by omega)) (fun _ => ?_)
      refine lv_aload_n hx hb dX12_move_9 rfl (lv_at hl 1 rfl) ?_
      refine lv_iload_n hx hb dX12_move_10 rfl (lv_at hl 2 rfl) ?_
      refine lv_iload_n hx hb dX12_move_11 rfl (lv_at hl 4 rfl) ?_
      refine lv_imul hx hb dX12_move_12 ?_
      refine lv_topi (fun v5 ev5 => ?_)
      have iv5 : v5.toInt = 1 * y0.toInt := by
        have h := fb_mulI (x := 1) (y := y0) (by rw [t_1]; omega) (by rw [t_1]; omega)
        rw [t_1] at h; rw [ev5]; exact h
      refine lv_iload hx hb dX12_move_13 (lv_at hl 0 rfl) ?_
      refine lv_iadd hx hb dX12_move_15 ?_
      refine lv_topi (fun v6 ev6 => ?_)
      have iv6 : v6.toInt = (v5 : Int32).toInt + ((nI k2) : Int32).toInt := by rw [ev6]; exact fb_addI (by omega) (by omega)
      refine lv_aload_n hx hb dX12_move_16 rfl (lv_at hl 1 rfl) ?_
      refine lv_iload_n hx hb dX12_move_17 rfl (lv_at hl 2 rfl) ?_
      refine lv_iload_n hx hb dX12_move_18 rfl (lv_at hl 3 rfl) ?_
      refine lv_imul hx hb dX12_move_19 ?_
      refine g_top 0 (by decide +kernel) ?_
      refine lv_iload hx hb dX12_move_20 (lv_at hl 0 rfl) ?_
      refine lv_iadd hx hb dX12_move_22 ?_
      refine lv_topi (fun v7 ev7 => ?_)
      have iv7 : v7.toInt = (0 : Int32).toInt + ((nI k2) : Int32).toInt := by rw [ev7]; exact fb_addI (by omega) (by omega)
      refine va_iald hx hb hE.1 hP 0 0 rfl rfl (vp_in_iff.mpr ⟨by omega, by omega⟩) dX12_move_23 ?_
      refine lv_topi (fun v8 ev8 => ?_)
      refine va_iast hx hb hE.1 hP hD hS 0 0 rfl rfl (vp_in_iff.mpr ⟨by omega, by omega⟩) dX12_move_24 (fun H locs hP hD hS => ?_)
      obtain ⟨g9, eg9⟩ : ∃ gz : Nat → Int32, gz = upd g1 (v6 : Int32).toNatClampNeg v8 := ⟨_, rfl⟩
      have hP : va_P D vwCl [(aV, .inl (cI, 4, .inl g9))] H := by rw [eg9]; exact hP
      have hD : va_D A [(aV, .inl (cI, 4, .inl g9))] := by rw [eg9]; exact hD
      refine lv_iinc (v := (nI (k2 + 1))) (lv' := [(4, .int (nI (k2 + 1))), (0, .ref aV), (1, .int 1), (2, .int 0), (3, .int y0)]) hx hb dX12_move_25 hl (k := 0) rfl (show nI k2 + Int32.ofInt 1 = nI (k2 + 1) from nI_1 k2) (by decide) rfl (fun ls hl => ?_)
      refine lv_goto (tgt := 3) hx hb dX12_move_28 (by decide) ?_
      exact ih (k2 + 1) (by omega) _ _ _ _ (hP.sub [0] rfl) (hD.sub [0] rfl rfl) hS (lv_sub hl [0, 1, 2, 3, 4] rfl)
  exact LP4 1 0 rfl g _ _ _ hP hD hS (lv_sub hl [0, 1, 2, 3, 4] rfl)
set_option maxHeartbeats 8000000 in
set_option maxRecDepth 100000 in
theorem c_X12_move_4 {l : Launch} {D : va_G} {cI cB cS cZ cW : ClassId} {aV : Nat} {y0 : Int32} {g : Nat → Int32} (hy0 : 1 ≤ y0.toInt ∧ y0.toInt ≤ 3) {sz : Nat} : MV l D (gT cI cB cS cZ cW) yX12_move (wG yX12_move cX12_move 5 none) { frames := 0, cells := 0, slots := 0, locals := 0 } [.ref aV, .int 4, .int 0, .int y0] [(aV, .inl (cI, 16, .inl g))] sz (fun (u : Unit) => True) (fun (u : Unit) => [] : (Unit) → va_W) 0 0 := by
  refine g_enter (y := yX12_move) (w := (wG yX12_move cX12_move 5 none)) (As := [.ref aV, .int 4, .int 0, .int y0]) (D := D) (T := gT cI cB cS cZ cW) (ws := [(aV, .inl (cI, 16, .inl g))]) (gQv D (fun (u : Unit) => True) (fun (u : Unit) => [] : (Unit) → va_W)) (cc := cX12_move) (maxL := 5) (ret := none) (by decide) rfl (Nat.le_of_ble_eq_true rfl) ?_
  intro p e s m below meth c A ls hF hr hlocks hname hsz hE hA hP hD hS hl
  have hF : CallFix p m c cX12_move 5 s ([.ref aV, .int 4, .int 0, .int y0] : List Value).toArray (wG yX12_move cX12_move 5 none) RX12 := hF
  obtain ⟨hx, hb, hml, hown, hts⟩ := id hF
  have htg : ∀ w ∈ GL, w.before ([.ref aV, .int 4, .int 0, .int y0] : List Value).toArray s = true := fun w h => hts w (List.mem_cons_of_mem _ h)
  have hl : lv_has ls 5 [(0, .ref aV), (1, .int 4), (2, .int 0), (3, .int y0)] := hl
  have z0 := t_0
  have z4 := t_4
  refine lv_iconst (v := 0) hx hb dX12_move_0 (by decide +kernel) ?_
  refine lv_istore (lv' := [(4, .int 0), (0, .ref aV), (1, .int 4), (2, .int 0), (3, .int y0)]) hx hb dX12_move_1 hl (by decide) rfl (fun ls hl => ?_)
  have LP4 : ∀ (n3 k2 : Nat), k2 + n3 = 4 → ∀ (g1 : Nat → Int32) (H : Heap) (locs : List Loc) (ls : Array Slot), va_P D vwCl [(aV, .inl (cI, 16, .inl g1))] H → va_D A [(aV, .inl (cI, 16, .inl g1))] → va_S A s.heap H locs → lv_has ls 5 [(4, .int (nI k2)), (0, .ref aV), (1, .int 4), (2, .int 0), (3, .int y0)] → W p l e ({ frames := 0, cells := 0, slots := 0, locals := 0 } : Room) s m ([.ref aV, .int 4, .int 0, .int y0] : List Value).toArray below meth c H locs 0 0 (MQ below (gQv D (fun (u : Unit) => True) (fun (u : Unit) => [] : (Unit) → va_W) A) ([.ref aV, .int 4, .int 0, .int y0] : List Value).toArray s 0 0 A) (F0 m 3 ls []) := by
    intro n3
    induction n3 with
    | zero =>
      intro k2 hk g1 H locs ls hP hD hS hl
      obtain rfl : k2 = 4 := by omega
      have hl : lv_has ls 5 [(4, .int 4), (0, .ref aV), (1, .int 4), (2, .int 0), (3, .int y0)] := hl
      refine lv_iload hx hb dX12_move_3 (lv_at hl 0 rfl) ?_
      refine lv_iload_n hx hb dX12_move_5 rfl (lv_at hl 2 rfl) ?_
      refine lv_icmp_ge (tgt := 31) hx hb dX12_move_6 (by decide) (fun _ => ?_) (fun c9 => absurd c9 (by decide +kernel))
      exact g_vret () hF hr hlocks (hP.sub [] rfl) (hD.sub [] rfl rfl) hS trivial dX12_move_31 (Nat.le_of_ble_eq_true rfl) (Nat.le_of_ble_eq_true rfl)
    | succ n3 ih =>
      intro k2 hk g1 H locs ls hP hD hS hl
      have hk2 : k2 < 4 := by omega
      have ikk2 : (nI k2).toInt = k2 := nI_toInt (by omega)
      refine lv_iload hx hb dX12_move_3 (lv_at hl 0 rfl) ?_
      refine lv_iload_n hx hb dX12_move_5 rfl (lv_at hl 2 rfl) ?_
      refine lv_icmp_ge (tgt := 31) hx hb dX12_move_6 (by decide) (fun c9 => absurd (i_le.mp c9) (by omega)) (fun _ => ?_)
      refine lv_aload_n hx hb dX12_move_9 rfl (lv_at hl 1 rfl) ?_
      refine lv_iload_n hx hb dX12_move_10 rfl (lv_at hl 2 rfl) ?_
      refine lv_iload_n hx hb dX12_move_11 rfl (lv_at hl 4 rfl) ?_
      refine lv_imul hx hb dX12_move_12 ?_
      refine lv_topi (fun v5 ev5 => ?_)
      have iv5 : v5.toInt = 4 * y0.toInt := by
        have h := fb_mulI (x := 4) (y := y0) (by rw [t_4]; omega) (by rw [t_4]; omega)
        rw [t_4] at h; rw [ev5]; exact h
      refine lv_iload hx hb dX12_move_13 (lv_at hl 0 rfl) ?_
      refine lv_iadd hx hb dX12_move_15 ?_
      refine lv_topi (fun v6 ev6 => ?_)
      have iv6 : v6.toInt = (v5 : Int32).toInt + ((nI k2) : Int32).toInt := by rw [ev6]; exact fb_addI (by omega) (by omega)
      refine lv_aload_n hx hb dX12_move_16 rfl (lv_at hl 1 rfl) ?_
      refine lv_iload_n hx hb dX12_move_17 rfl (lv_at hl 2 rfl) ?_
      refine lv_iload_n hx hb dX12_move_18 rfl (lv_at hl 3 rfl) ?_
      refine lv_imul hx hb dX12_move_19 ?_
      refine g_top 0 (by decide +kernel) ?_
      refine lv_iload hx hb dX12_move_20 (lv_at hl 0 rfl) ?_
      refine lv_iadd hx hb dX12_move_22 ?_
      refine lv_topi (fun v7 ev7 => ?_)
      have iv7 : v7.toInt = (0 : Int32).toInt + ((nI k2) : Int32).toInt := by rw [ev7]; exact fb_addI (by omega) (by omega)
      refine va_iald hx hb hE.1 hP 0 0 rfl rfl (vp_in_iff.mpr ⟨by omega, by omega⟩) dX12_move_23 ?_
      refine lv_topi (fun v8 ev8 => ?_)
      refine va_iast hx hb hE.1 hP hD hS 0 0 rfl rfl (vp_in_iff.mpr ⟨by omega, by omega⟩) dX12_move_24 (fun H locs hP hD hS => ?_)
      obtain ⟨g9, eg9⟩ : ∃ gz : Nat → Int32, gz = upd g1 (v6 : Int32).toNatClampNeg v8 := ⟨_, rfl⟩
      have hP : va_P D vwCl [(aV, .inl (cI, 16, .inl g9))] H := by rw [eg9]; exact hP
      have hD : va_D A [(aV, .inl (cI, 16, .inl g9))] := by rw [eg9]; exact hD
      refine lv_iinc (v := (nI (k2 + 1))) (lv' := [(4, .int (nI (k2 + 1))), (0, .ref aV), (1, .int 4), (2, .int 0), (3, .int y0)]) hx hb dX12_move_25 hl (k := 0) rfl (show nI k2 + Int32.ofInt 1 = nI (k2 + 1) from nI_1 k2) (by decide) rfl (fun ls hl => ?_)
      refine lv_goto (tgt := 3) hx hb dX12_move_28 (by decide) ?_
      exact ih (k2 + 1) (by omega) _ _ _ _ (hP.sub [0] rfl) (hD.sub [0] rfl rfl) hS (lv_sub hl [0, 1, 2, 3, 4] rfl)
  exact LP4 4 0 rfl g _ _ _ hP hD hS (lv_sub hl [0, 1, 2, 3, 4] rfl)
set_option maxHeartbeats 8000000 in
set_option maxRecDepth 100000 in
theorem c_X12_move_6 {l : Launch} {D : va_G} {cI cB cS cZ cW : ClassId} {aV : Nat} {y0 : Int32} {g : Nat → Int32} (hy0 : 1 ≤ y0.toInt ∧ y0.toInt ≤ 3) {sz : Nat} : MV l D (gT cI cB cS cZ cW) yX12_move (wG yX12_move cX12_move 5 none) { frames := 0, cells := 0, slots := 0, locals := 0 } [.ref aV, .int 6, .int 0, .int y0] [(aV, .inl (cI, 24, .inl g))] sz (fun (u : Unit) => True) (fun (u : Unit) => [] : (Unit) → va_W) 0 0 := by
  refine g_enter (y := yX12_move) (w := (wG yX12_move cX12_move 5 none)) (As := [.ref aV, .int 6, .int 0, .int y0]) (D := D) (T := gT cI cB cS cZ cW) (ws := [(aV, .inl (cI, 24, .inl g))]) (gQv D (fun (u : Unit) => True) (fun (u : Unit) => [] : (Unit) → va_W)) (cc := cX12_move) (maxL := 5) (ret := none) (by decide) rfl (Nat.le_of_ble_eq_true rfl) ?_
  intro p e s m below meth c A ls hF hr hlocks hname hsz hE hA hP hD hS hl
  have hF : CallFix p m c cX12_move 5 s ([.ref aV, .int 6, .int 0, .int y0] : List Value).toArray (wG yX12_move cX12_move 5 none) RX12 := hF
  obtain ⟨hx, hb, hml, hown, hts⟩ := id hF
  have htg : ∀ w ∈ GL, w.before ([.ref aV, .int 6, .int 0, .int y0] : List Value).toArray s = true := fun w h => hts w (List.mem_cons_of_mem _ h)
  have hl : lv_has ls 5 [(0, .ref aV), (1, .int 6), (2, .int 0), (3, .int y0)] := hl
  have z0 := t_0
  have z6 := t_6
  refine lv_iconst (v := 0) hx hb dX12_move_0 (by decide +kernel) ?_
  refine lv_istore (lv' := [(4, .int 0), (0, .ref aV), (1, .int 6), (2, .int 0), (3, .int y0)]) hx hb dX12_move_1 hl (by decide) rfl (fun ls hl => ?_)
  have LP4 : ∀ (n3 k2 : Nat), k2 + n3 = 6 → ∀ (g1 : Nat → Int32) (H : Heap) (locs : List Loc) (ls : Array Slot), va_P D vwCl [(aV, .inl (cI, 24, .inl g1))] H → va_D A [(aV, .inl (cI, 24, .inl g1))] → va_S A s.heap H locs → lv_has ls 5 [(4, .int (nI k2)), (0, .ref aV), (1, .int 6), (2, .int 0), (3, .int y0)] → W p l e ({ frames := 0, cells := 0, slots := 0, locals := 0 } : Room) s m ([.ref aV, .int 6, .int 0, .int y0] : List Value).toArray below meth c H locs 0 0 (MQ below (gQv D (fun (u : Unit) => True) (fun (u : Unit) => [] : (Unit) → va_W) A) ([.ref aV, .int 6, .int 0, .int y0] : List Value).toArray s 0 0 A) (F0 m 3 ls []) := by
    intro n3
    induction n3 with
    | zero =>
      intro k2 hk g1 H locs ls hP hD hS hl
      obtain rfl : k2 = 6 := by omega
      have hl : lv_has ls 5 [(4, .int 6), (0, .ref aV), (1, .int 6), (2, .int 0), (3, .int y0)] := hl
      refine lv_iload hx hb dX12_move_3 (lv_at hl 0 rfl) ?_
      refine lv_iload_n hx hb dX12_move_5 rfl (lv_at hl 2 rfl) ?_
      refine lv_icmp_ge (tgt := 31) hx hb dX12_move_6 (by decide) (fun _ => ?_) (fun c9 => absurd c9 (by decide +kernel))
      exact g_vret () hF hr hlocks (hP.sub [] rfl) (hD.sub [] rfl rfl) hS trivial dX12_move_31 (Nat.le_of_ble_eq_true rfl) (Nat.le_of_ble_eq_true rfl)
    | succ n3 ih =>
      intro k2 hk g1 H locs ls hP hD hS hl
      have hk2 : k2 < 6 := by omega
      have ikk2 : (nI k2).toInt = k2 := nI_toInt (by omega)
      refine lv_iload hx hb dX12_move_3 (lv_at hl 0 rfl) ?_
      refine lv_iload_n hx hb dX12_move_5 rfl (lv_at hl 2 rfl) ?_
      refine lv_icmp_ge (tgt := 31) hx hb dX12_move_6 (by decide) (fun c9 => absurd (i_le.mp c9) (by omega)) (fun _ => ?_)
      refine lv_aload_n hx hb dX12_move_9 rfl (lv_at hl 1 rfl) ?_
      refine lv_iload_n hx hb dX12_move_10 rfl (lv_at hl 2 rfl) ?_
      refine lv_iload_n hx hb dX12_move_11 rfl (lv_at hl 4 rfl) ?_
      refine lv_imul hx hb dX12_move_12 ?_
      refine lv_topi (fun v5 ev5 => ?_)
      have iv5 : v5.toInt = 6 * y0.toInt := by
        have h := fb_mulI (x := 6) (y := y0) (by rw [t_6]; omega) (by rw [t_6]; omega)
        rw [t_6] at h; rw [ev5]; exact h
      refine lv_iload hx hb dX12_move_13 (lv_at hl 0 rfl) ?_
      refine lv_iadd hx hb dX12_move_15 ?_
      refine lv_topi (fun v6 ev6 => ?_)
      have iv6 : v6.toInt = (v5 : Int32).toInt + ((nI k2) : Int32).toInt := by rw [ev6]; exact fb_addI (by omega) (by omega)
      refine lv_aload_n hx hb dX12_move_16 rfl (lv_at hl 1 rfl) ?_
      refine lv_iload_n hx hb dX12_move_17 rfl (lv_at hl 2 rfl) ?_
      refine lv_iload_n hx hb dX12_move_18 rfl (lv_at hl 3 rfl) ?_
      refine lv_imul hx hb dX12_move_19 ?_
      refine g_top 0 (by decide +kernel) ?_
      refine lv_iload hx hb dX12_move_20 (lv_at hl 0 rfl) ?_
      refine lv_iadd hx hb dX12_move_22 ?_
      refine lv_topi (fun v7 ev7 => ?_)
      have iv7 : v7.toInt = (0 : Int32).toInt + ((nI k2) : Int32).toInt := by rw [ev7]; exact fb_addI (by omega) (by omega)
      refine va_iald hx hb hE.1 hP 0 0 rfl rfl (vp_in_iff.mpr ⟨by omega, by omega⟩) dX12_move_23 ?_
      refine lv_topi (fun v8 ev8 => ?_)
      refine va_iast hx hb hE.1 hP hD hS 0 0 rfl rfl (vp_in_iff.mpr ⟨by omega, by omega⟩) dX12_move_24 (fun H locs hP hD hS => ?_)
      obtain ⟨g9, eg9⟩ : ∃ gz : Nat → Int32, gz = upd g1 (v6 : Int32).toNatClampNeg v8 := ⟨_, rfl⟩
      have hP : va_P D vwCl [(aV, .inl (cI, 24, .inl g9))] H := by rw [eg9]; exact hP
      have hD : va_D A [(aV, .inl (cI, 24, .inl g9))] := by rw [eg9]; exact hD
      refine lv_iinc (v := (nI (k2 + 1))) (lv' := [(4, .int (nI (k2 + 1))), (0, .ref aV), (1, .int 6), (2, .int 0), (3, .int y0)]) hx hb dX12_move_25 hl (k := 0) rfl (show nI k2 + Int32.ofInt 1 = nI (k2 + 1) from nI_1 k2) (by decide) rfl (fun ls hl => ?_)
      refine lv_goto (tgt := 3) hx hb dX12_move_28 (by decide) ?_
      exact ih (k2 + 1) (by omega) _ _ _ _ (hP.sub [0] rfl) (hD.sub [0] rfl rfl) hS (lv_sub hl [0, 1, 2, 3, 4] rfl)
  exact LP4 6 0 rfl g _ _ _ hP hD hS (lv_sub hl [0, 1, 2, 3, 4] rfl)
set_option maxHeartbeats 8000000 in
set_option maxRecDepth 100000 in
theorem c_X12_move_8 {l : Launch} {D : va_G} {cI cB cS cZ cW : ClassId} {aV : Nat} {y0 : Int32} {g : Nat → Int32} (hy0 : 1 ≤ y0.toInt ∧ y0.toInt ≤ 3) {sz : Nat} : MV l D (gT cI cB cS cZ cW) yX12_move (wG yX12_move cX12_move 5 none) { frames := 0, cells := 0, slots := 0, locals := 0 } [.ref aV, .int 8, .int 0, .int y0] [(aV, .inl (cI, 32, .inl g))] sz (fun (u : Unit) => True) (fun (u : Unit) => [] : (Unit) → va_W) 0 0 := by
  refine g_enter (y := yX12_move) (w := (wG yX12_move cX12_move 5 none)) (As := [.ref aV, .int 8, .int 0, .int y0]) (D := D) (T := gT cI cB cS cZ cW) (ws := [(aV, .inl (cI, 32, .inl g))]) (gQv D (fun (u : Unit) => True) (fun (u : Unit) => [] : (Unit) → va_W)) (cc := cX12_move) (maxL := 5) (ret := none) (by decide) rfl (Nat.le_of_ble_eq_true rfl) ?_
  intro p e s m below meth c A ls hF hr hlocks hname hsz hE hA hP hD hS hl
  have hF : CallFix p m c cX12_move 5 s ([.ref aV, .int 8, .int 0, .int y0] : List Value).toArray (wG yX12_move cX12_move 5 none) RX12 := hF
  obtain ⟨hx, hb, hml, hown, hts⟩ := id hF
  have htg : ∀ w ∈ GL, w.before ([.ref aV, .int 8, .int 0, .int y0] : List Value).toArray s = true := fun w h => hts w (List.mem_cons_of_mem _ h)
  have hl : lv_has ls 5 [(0, .ref aV), (1, .int 8), (2, .int 0), (3, .int y0)] := hl
  have z0 := t_0
  have z8 := t_8
  refine lv_iconst (v := 0) hx hb dX12_move_0 (by decide +kernel) ?_
  refine lv_istore (lv' := [(4, .int 0), (0, .ref aV), (1, .int 8), (2, .int 0), (3, .int y0)]) hx hb dX12_move_1 hl (by decide) rfl (fun ls hl => ?_)
  have LP4 : ∀ (n3 k2 : Nat), k2 + n3 = 8 → ∀ (g1 : Nat → Int32) (H : Heap) (locs : List Loc) (ls : Array Slot), va_P D vwCl [(aV, .inl (cI, 32, .inl g1))] H → va_D A [(aV, .inl (cI, 32, .inl g1))] → va_S A s.heap H locs → lv_has ls 5 [(4, .int (nI k2)), (0, .ref aV), (1, .int 8), (2, .int 0), (3, .int y0)] → W p l e ({ frames := 0, cells := 0, slots := 0, locals := 0 } : Room) s m ([.ref aV, .int 8, .int 0, .int y0] : List Value).toArray below meth c H locs 0 0 (MQ below (gQv D (fun (u : Unit) => True) (fun (u : Unit) => [] : (Unit) → va_W) A) ([.ref aV, .int 8, .int 0, .int y0] : List Value).toArray s 0 0 A) (F0 m 3 ls []) := by
    intro n3
    induction n3 with
    | zero =>
      intro k2 hk g1 H locs ls hP hD hS hl
      obtain rfl : k2 = 8 := by omega
      have hl : lv_has ls 5 [(4, .int 8), (0, .ref aV), (1, .int 8), (2, .int 0), (3, .int y0)] := hl
      refine lv_iload hx hb dX12_move_3 (lv_at hl 0 rfl) ?_
      refine lv_iload_n hx hb dX12_move_5 rfl (lv_at hl 2 rfl) ?_
      refine lv_icmp_ge (tgt := 31) hx hb dX12_move_6 (by decide) (fun _ => ?_) (fun c9 => absurd c9 (by decide +kernel))
      exact g_vret () hF hr hlocks (hP.sub [] rfl) (hD.sub [] rfl rfl) hS trivial dX12_move_31 (Nat.le_of_ble_eq_true rfl) (Nat.le_of_ble_eq_true rfl)
    | succ n3 ih =>
      intro k2 hk g1 H locs ls hP hD hS hl
      have hk2 : k2 < 8 := by omega
      have ikk2 : (nI k2).toInt = k2 := nI_toInt (by omega)
      refine lv_iload hx hb dX12_move_3 (lv_at hl 0 rfl) ?_
      refine lv_iload_n hx hb dX12_move_5 rfl (lv_at hl 2 rfl) ?_
      refine lv_icmp_ge (tgt := 31) hx hb dX12_move_6 (by decide) (fun c9 => absurd (i_le.mp c9) (by omega)) (fun _ => ?_)
      refine lv_aload_n hx hb dX12_move_9 rfl (lv_at hl 1 rfl) ?_
      refine lv_iload_n hx hb dX12_move_10 rfl (lv_at hl 2 rfl) ?_
      refine lv_iload_n hx hb dX12_move_11 rfl (lv_at hl 4 rfl) ?_
      refine lv_imul hx hb dX12_move_12 ?_
      refine lv_topi (fun v5 ev5 => ?_)
      have iv5 : v5.toInt = 8 * y0.toInt := by
        have h := fb_mulI (x := 8) (y := y0) (by rw [t_8]; omega) (by rw [t_8]; omega)
        rw [t_8] at h; rw [ev5]; exact h
      refine lv_iload hx hb dX12_move_13 (lv_at hl 0 rfl) ?_
      refine lv_iadd hx hb dX12_move_15 ?_
      refine lv_topi (fun v6 ev6 => ?_)
      have iv6 : v6.toInt = (v5 : Int32).toInt + ((nI k2) : Int32).toInt := by rw [ev6]; exact fb_addI (by omega) (by omega)
      refine lv_aload_n hx hb dX12_move_16 rfl (lv_at hl 1 rfl) ?_
      refine lv_iload_n hx hb dX12_move_17 rfl (lv_at hl 2 rfl) ?_
      refine lv_iload_n hx hb dX12_move_18 rfl (lv_at hl 3 rfl) ?_
      refine lv_imul hx hb dX12_move_19 ?_
      refine g_top 0 (by decide +kernel) ?_
      refine lv_iload hx hb dX12_move_20 (lv_at hl 0 rfl) ?_
      refine lv_iadd hx hb dX12_move_22 ?_
      refine lv_topi (fun v7 ev7 => ?_)
      have iv7 : v7.toInt = (0 : Int32).toInt + ((nI k2) : Int32).toInt := by rw [ev7]; exact fb_addI (by omega) (by omega)
      refine va_iald hx hb hE.1 hP 0 0 rfl rfl (vp_in_iff.mpr ⟨by omega, by omega⟩) dX12_move_23 ?_
      refine lv_topi (fun v8 ev8 => ?_)
      refine va_iast hx hb hE.1 hP hD hS 0 0 rfl rfl (vp_in_iff.mpr ⟨by omega, by omega⟩) dX12_move_24 (fun H locs hP hD hS => ?_)
      obtain ⟨g9, eg9⟩ : ∃ gz : Nat → Int32, gz = upd g1 (v6 : Int32).toNatClampNeg v8 := ⟨_, rfl⟩
      have hP : va_P D vwCl [(aV, .inl (cI, 32, .inl g9))] H := by rw [eg9]; exact hP
      have hD : va_D A [(aV, .inl (cI, 32, .inl g9))] := by rw [eg9]; exact hD
      refine lv_iinc (v := (nI (k2 + 1))) (lv' := [(4, .int (nI (k2 + 1))), (0, .ref aV), (1, .int 8), (2, .int 0), (3, .int y0)]) hx hb dX12_move_25 hl (k := 0) rfl (show nI k2 + Int32.ofInt 1 = nI (k2 + 1) from nI_1 k2) (by decide) rfl (fun ls hl => ?_)
      refine lv_goto (tgt := 3) hx hb dX12_move_28 (by decide) ?_
      exact ih (k2 + 1) (by omega) _ _ _ _ (hP.sub [0] rfl) (hD.sub [0] rfl rfl) hS (lv_sub hl [0, 1, 2, 3, 4] rfl)
  exact LP4 8 0 rfl g _ _ _ hP hD hS (lv_sub hl [0, 1, 2, 3, 4] rfl)
