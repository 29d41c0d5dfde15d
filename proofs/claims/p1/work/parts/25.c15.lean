set_option maxHeartbeats 8000000 in
set_option maxRecDepth 100000 in
theorem c_X12_move_320 {l : Launch} {D : va_G} {cI cB cS cZ cW : ClassId} {aV : Nat} {y0 : Int32} {g : Nat → Int32} (hy0 : 1 ≤ y0.toInt ∧ y0.toInt ≤ 3) {sz : Nat} : MV l D (gT cI cB cS cZ cW) yX12_move (wG yX12_move cX12_move 5 none) { frames := 0, cells := 0, slots := 0, locals := 0 } [.ref aV, .int 320, .int 0, .int y0] [(aV, .inl (cI, 1280, .inl g))] sz (fun (u : Unit) => True) (fun (u : Unit) => [] : (Unit) → va_W) 0 0 := by
  refine g_enter (y := yX12_move) (w := (wG yX12_move cX12_move 5 none)) (As := [.ref aV, .int 320, .int 0, .int y0]) (D := D) (T := gT cI cB cS cZ cW) (ws := [(aV, .inl (cI, 1280, .inl g))]) (gQv D (fun (u : Unit) => True) (fun (u : Unit) => [] : (Unit) → va_W)) (cc := cX12_move) (maxL := 5) (ret := none) (by decide) rfl (Nat.le_of_ble_eq_true rfl) ?_
  intro p e s m below meth c A ls hF hr hlocks hname hsz hE hA hP hD hS hl
  have hF : CallFix p m c cX12_move 5 s ([.ref aV, .int 320, .int 0, .int y0] : List Value).toArray (wG yX12_move cX12_move 5 none) RX12 := hF
  obtain ⟨hx, hb, hml, hown, hts⟩ := id hF
  have htg : ∀ w ∈ GL, w.before ([.ref aV, .int 320, .int 0, .int y0] : List Value).toArray s = true := fun w h => hts w (List.mem_cons_of_mem _ h)
  have hl : lv_has ls 5 [(0, .ref aV), (1, .int 320), (2, .int 0), (3, .int y0)] := hl
  have z0 := t_0
  have z320 := t_320
  refine lv_iconst (v := 0) hx hb dX12_move_0 (by decide +kernel) ?_
  refine lv_istore (lv' := [(4, .int 0), (0, .ref aV), (1, .int 320), (2, .int 0), (3, .int y0)]) hx hb dX12_move_1 hl (by decide) rfl (fun ls hl => ?_)
  have LP4 : ∀ (n3 k2 : Nat), k2 + n3 = 320 → ∀ (g1 : Nat → Int32) (H : Heap) (locs : List Loc) (ls : Array Slot), va_P D vwCl [(aV, .inl (cI, 1280, .inl g1))] H → va_D A [(aV, .inl (cI, 1280, .inl g1))] → va_S A s.heap H locs → lv_has ls 5 [(4, .int (nI k2)), (0, .ref aV), (1, .int 320), (2, .int 0), (3, .int y0)] → W p l e ({ frames := 0, cells := 0, slots := 0, locals := 0 } : Room) s m ([.ref aV, .int 320, .int 0, .int y0] : List Value).toArray below meth c H locs 0 0 (MQ below (gQv D (fun (u : Unit) => True) (fun (u : Unit) => [] : (Unit) → va_W) A) ([.ref aV, .int 320, .int 0, .int y0] : List Value).toArray s 0 0 A) (F0 m 3 ls []) := by
    intro n3
    induction n3 with
    | zero =>
      intro k2 hk g1 H locs ls hP hD hS hl
      obtain rfl : k2 = 320 := by omega
      have hl : lv_has ls 5 [(4, .int 320), (0, .ref aV), (1, .int 320), (2, .int 0), (3, .int y0)] := hl
      refine lv_iload hx hb dX12_move_3 (lv_at hl 0 rfl) ?_
      refine lv_iload_n hx hb dX12_move_5 rfl (lv_at hl 2 rfl) ?_
      refine lv_icmp_ge (tgt := 31) hx hb dX12_move_6 (by decide) (fun _ => ?_) (fun c9 => absurd c9 (by decide +kernel))
      exact g_vret () hF hr hlocks (hP.sub [] rfl) (hD.sub [] rfl rfl) hS trivial dX12_move_31 (Nat.le_of_ble_eq_true rfl) (Nat.le_of_ble_eq_true rfl)
    | succ n3 ih =>
      intro k2 hk g1 H locs ls hP hD hS hl
      have hk2 : k2 < 320 := by omega
      have ikk2 : (nI k2).toInt = k2 := nI_toInt (by omega)
      refine lv_iload hx hb dX12_move_3 (lv_at hl 0 rfl) ?_
      refine lv_iload_n hx hb dX12_move_5 rfl (lv_at hl 2 rfl) ?_
      refine lv_icmp_ge (tgt := 31) hx hb dX12_move_6 (by decide) (fun c9 => absurd (i_le.mp c9) (by omega)) (fun _ => ?_)
      refine lv_aload_n hx hb dX12_move_9 rfl (lv_at hl 1 rfl) ?_
      refine lv_iload_n hx hb dX12_move_10 rfl (lv_at hl 2 rfl) ?_
      refine lv_iload_n hx hb dX12_move_11 rfl (lv_at hl 4 rfl) ?_
      refine lv_imul hx hb dX12_move_12 ?_
      refine lv_topi (fun v5 ev5 => ?_)
      have iv5 : v5.toInt = 320 * y0.toInt := by
        have h := fb_mulI (x := 320) (y := y0) (by rw [t_320]; omega) (by rw [t_320]; omega)
        rw [t_320] at h; rw [ev5]; exact h
      refine lv_iload hx hb dX12_move_13 (lv_at hl 0 rfl) ?_
      refine lv_iadd hx hb dX12_move_15 ?_
      refine lv_topi (fun v6 ev6 => ?_)
      have iv6 : v6.toInt = (v5 : Int32).toInt + ((nI k2) : Int32).toInt := by rw [ev6]; exact fb_addI (by omega) (by omega)
      refine lv_aload_n hx hb dX12_move_16 rfl (lv_at hl 1 rfl) ?_
      refine lv_iload_n hx hb dX12_move_17 rfl (lv_at hl 2 rfl) ?_
      refine lv_iload_n hx hb dX12_move_18 rfl (lv_at hl 3 rfl) ?_
      refine lv_imul hx hb dX12_move_19 ?_
      refine g_top 0 (by decide +kernel) ?_
      refine lv_iload hx hb dX12_move_20 (lv_at hl 0 rfl) ?_
      refine lv_iadd hx hb dX12_move_22 ?_
      refine lv_topi (fun v7 ev7 => ?_)
      have iv7 : v7.toInt = (0 : Int32).toInt + ((nI k2) : Int32).toInt := by rw [ev7]; exact fb_addI (by omega) (by omega)
      refine va_iald hx hb hE.1 hP 0 0 rfl rfl (vp_in_iff.mpr ⟨by omega, by omega⟩) dX12_move_23 ?_
      refine lv_topi (fun v8 ev8 => ?_)
      refine va_iast hx hb hE.1 hP hD hS 0 0 rfl rfl (vp_in_iff.mpr ⟨by omega, by omega⟩) dX12_move_24 (fun H locs hP hD hS => ?_)
      obtain ⟨g9, eg9⟩ : ∃ gz : Nat → Int32, gz = upd g1 (v6 : Int32).toNatClampNeg v8 := ⟨_, rfl⟩
      have hP : va_P D vwCl [(aV, .inl (cI, 1280, .inl g9))] H := by rw [eg9]; exact hP
      have hD : va_D A [(aV, .inl (cI, 1280, .inl g9))] := by rw [eg9]; exact hD
      refine lv_iinc (v := (nI (k2 + 1))) (lv' := [(4, .int (nI (k2 + 1))), (0, .ref aV), (1, .int 320), (2, .int 0), (3, .int y0)]) hx hb dX12_move_25 hl (k := 0) rfl (show nI k2 + Int32.ofInt 1 = nI (k2 + 1) from nI_1 k2) (by decide) rfl (fun ls hl => ?_)
      refine lv_goto (tgt := 3) hx hb dX12_move_28 (by decide) ?_
      exact ih (k2 + 1) (by omega) _ _ _ _ (hP.sub [0] rfl) (hD.sub [0] rfl rfl) hS (lv_sub hl [0, 1, 2, 3, 4] rfl)
  exact LP4 320 0 rfl g _ _ _ hP hD hS (lv_sub hl [0, 1, 2, 3, 4] rfl)
set_option maxHeartbeats 8000000 in
set_option maxRecDepth 100000 in
theorem c_X12_moveBits_16 {l : Launch} {D : va_G} {cI cB cS cZ cW : ClassId} {aV : Nat} {y0 : Int32} {g : Nat → Int32} (hy0 : 1 ≤ y0.toInt ∧ y0.toInt ≤ 3) {sz : Nat} : MV l D (gT cI cB cS cZ cW) yX12_moveBits (wG yX12_moveBits cX12_moveBits 5 none) { frames := 0, cells := 0, slots := 0, locals := 0 } [.ref aV, .int 16, .int 0, .int y0] [(aV, .inl (cZ, 64, .inl g))] sz (fun (u : Unit) => True) (fun (u : Unit) => [] : (Unit) → va_W) 0 0 := by
  refine g_enter (y := yX12_moveBits) (w := (wG yX12_moveBits cX12_moveBits 5 none)) (As := [.ref aV, .int 16, .int 0, .int y0]) (D := D) (T := gT cI cB cS cZ cW) (ws := [(aV, .inl (cZ, 64, .inl g))]) (gQv D (fun (u : Unit) => True) (fun (u : Unit) => [] : (Unit) → va_W)) (cc := cX12_moveBits) (maxL := 5) (ret := none) (by decide) rfl (Nat.le_of_ble_eq_true rfl) ?_
  intro p e s m below meth c A ls hF hr hlocks hname hsz hE hA hP hD hS hl
  have hF : CallFix p m c cX12_moveBits 5 s ([.ref aV, .int 16, .int 0, .int y0] : List Value).toArray (wG yX12_moveBits cX12_moveBits 5 none) RX12 := hF
  obtain ⟨hx, hb, hml, hown, hts⟩ := id hF
  have htg : ∀ w ∈ GL, w.before ([.ref aV, .int 16, .int 0, .int y0] : List Value).toArray s = true := fun w h => hts w (List.mem_cons_of_mem _ h)
  have hl : lv_has ls 5 [(0, .ref aV), (1, .int 16), (2, .int 0), (3, .int y0)] := hl
  have z0 := t_0
  have z16 := t_16
  refine lv_iconst (v := 0) hx hb dX12_moveBits_0 (by decide +kernel) ?_
  refine lv_istore (lv' := [(4, .int 0), (0, .ref aV), (1, .int 16), (2, .int 0), (3, .int y0)]) hx hb dX12_moveBits_1 hl (by decide) rfl (fun ls hl => ?_)
  have LP4 : ∀ (n3 k2 : Nat), k2 + n3 = 16 → ∀ (g1 : Nat → Int32) (H : Heap) (locs : List Loc) (ls : Array Slot), va_P D vwCl [(aV, .inl (cZ, 64, .inl g1))] H → va_D A [(aV, .inl (cZ, 64, .inl g1))] → va_S A s.heap H locs → lv_has ls 5 [(4, .int (nI k2)), (0, .ref aV), (1, .int 16), (2, .int 0), (3, .int y0)] → W p l e ({ frames := 0, cells := 0, slots := 0, locals := 0 } : Room) s m ([.ref aV, .int 16, .int 0, .int y0] : List Value).toArray below meth c H locs 0 0 (MQ below (gQv D (fun (u : Unit) => True) (fun (u : Unit) => [] : (Unit) → va_W) A) ([.ref aV, .int 16, .int 0, .int y0] : List Value).toArray s 0 0 A) (F0 m 3 ls []) := by
    intro n3
    induction n3 with
    | zero =>
      intro k2 hk g1 H locs ls hP hD hS hl
      obtain rfl : k2 = 16 := by omega
      have hl : lv_has ls 5 [(4, .int 16), (0, .ref aV), (1, .int 16), (2, .int 0), (3, .int y0)] := hl
      refine lv_iload hx hb dX12_moveBits_3 (lv_at hl 0 rfl) ?_
      refine lv_iload_n hx hb dX12_moveBits_5 rfl (lv_at hl 2 rfl) ?_
      refine lv_icmp_ge (tgt := 31) hx hb dX12_moveBits_6 (by decide) (fun _ => ?_) (fun c9 => absurd c9 (by decide +kernel))
      exact g_vret () hF hr hlocks (hP.sub [] rfl) (hD.sub [] rfl rfl) hS trivial dX12_moveBits_31 (Nat.le_of_ble_eq_true rfl) (Nat.le_of_ble_eq_true rfl)
    | succ n3 ih =>
      intro k2 hk g1 H locs ls hP hD hS hl
      have hk2 : k2 < 16 := by omega
      have ikk2 : (nI k2).toInt = k2 := nI_toInt (by omega)
      refine lv_iload hx hb dX12_moveBits_3 (lv_at hl 0 rfl) ?_
      refine lv_iload_n hx hb dX12_moveBits_5 rfl (lv_at hl 2 rfl) ?_
      refine lv_icmp_ge (tgt := 31) hx hb dX12_moveBits_6 (by decide) (fun c9 => absurd (i_le.mp c9) (by omega)) (fun _ => ?_)
      refine lv_aload_n hx hb dX12_moveBits_9 rfl (lv_at hl 1 rfl) ?_
      refine lv_iload_n hx hb dX12_moveBits_10 rfl (lv_at hl 2 rfl) ?_
      refine lv_iload_n hx hb dX12_moveBits_11 rfl (lv_at hl 4 rfl) ?_
      refine lv_imul hx hb dX12_moveBits_12 ?_
      refine lv_topi (fun v5 ev5 => ?_)
      have iv5 : v5.toInt = 16 * y0.toInt := by
        have h := fb_mulI (x := 16) (y := y0) (by rw [t_16]; omega) (by rw [t_16]; omega)
        rw [t_16] at h; rw [ev5]; exact h
      refine lv_iload hx hb dX12_moveBits_13 (lv_at hl 0 rfl) ?_
      refine lv_iadd hx hb dX12_moveBits_15 ?_
      refine lv_topi (fun v6 ev6 => ?_)
      have iv6 : v6.toInt = (v5 : Int32).toInt + ((nI k2) : Int32).toInt := by rw [ev6]; exact fb_addI (by omega) (by omega)
      refine lv_aload_n hx hb dX12_moveBits_16 rfl (lv_at hl 1 rfl) ?_
      refine lv_iload_n hx hb dX12_moveBits_17 rfl (lv_at hl 2 rfl) ?_
      refine lv_iload_n hx hb dX12_moveBits_18 rfl (lv_at hl 3 rfl) ?_
      refine lv_imul hx hb dX12_moveBits_19 ?_
      refine g_top 0 (by decide +kernel) ?_
      refine lv_iload hx hb dX12_moveBits_20 (lv_at hl 0 rfl) ?_
      refine lv_iadd hx hb dX12_moveBits_22 ?_
      refine lv_topi (fun v7 ev7 => ?_)
      have iv7 : v7.toInt = (0 : Int32).toInt + ((nI k2) : Int32).toInt := by rw [ev7]; exact fb_addI (by omega) (by omega)
      refine va_zald hx hb hE.1 hP 0 3 rfl rfl (vp_in_iff.mpr ⟨by omega, by omega⟩) dX12_moveBits_23 ?_
      refine lv_topi (fun v8 ev8 => ?_)
      refine va_zast hx hb hE.1 hP hD hS 0 3 rfl rfl (vp_in_iff.mpr ⟨by omega, by omega⟩) dX12_moveBits_24 (fun H locs hP hD hS => ?_)
      obtain ⟨g9, eg9⟩ : ∃ gz : Nat → Int32, gz = upd g1 (v6 : Int32).toNatClampNeg (vp_nar .boolean v8) := ⟨_, rfl⟩
      have hP : va_P D vwCl [(aV, .inl (cZ, 64, .inl g9))] H := by rw [eg9]; exact hP
      have hD : va_D A [(aV, .inl (cZ, 64, .inl g9))] := by rw [eg9]; exact hD
      refine lv_iinc (v := (nI (k2 + 1))) (lv' := [(4, .int (nI (k2 + 1))), (0, .ref aV), (1, .int 16), (2, .int 0), (3, .int y0)]) hx hb dX12_moveBits_25 hl (k := 0) rfl (show nI k2 + Int32.ofInt 1 = nI (k2 + 1) from nI_1 k2) (by decide) rfl (fun ls hl => ?_)
      refine lv_goto (tgt := 3) hx hb dX12_moveBits_28 (by decide) ?_
      exact ih (k2 + 1) (by omega) _ _ _ _ (hP.sub [0] rfl) (hD.sub [0] rfl rfl) hS (lv_sub hl [0, 1, 2, 3, 4] rfl)
  exact LP4 16 0 rfl g _ _ _ hP hD hS (lv_sub hl [0, 1, 2, 3, 4] rfl)
set_option maxHeartbeats 8000000 in
set_option maxRecDepth 100000 in
theorem c_X12_moveBits_80 {l : Launch} {D : va_G} {cI cB cS cZ cW : ClassId} {aV : Nat} {y0 : Int32} {g : Nat → Int32} (hy0 : 1 ≤ y0.toInt ∧ y0.toInt ≤ 3) {sz : Nat} : MV l D (gT cI cB cS cZ cW) yX12_moveBits (wG yX12_moveBits cX12_moveBits 5 none) { frames := 0, cells := 0, slots := 0, locals := 0 } [.ref aV, .int 80, .int 0, .int y0] [(aV, .inl (cZ, 320, .inl g))] sz (fun (u : Unit) => True) (fun (u : Unit) => [] : (Unit) → va_W) 0 0 := by
  refine g_enter (y := yX12_moveBits) (w := (wG yX12_moveBits cX12_moveBits 5 none)) (As := [.ref aV, .int 80, .int 0, .int y0]) (D := D) (T := gT cI cB cS cZ cW) (ws := [(aV, .inl (cZ, 320, .inl g))]) (gQv D (fun (u : Unit) => True) (fun (u : Unit) => [] : (Unit) → va_W)) (cc := cX12_moveBits) (maxL := 5) (ret := none) (by decide) rfl (Nat.le_of_ble_eq_true rfl) ?_
  intro p e s m below meth c A ls hF hr hlocks hname hsz hE hA hP hD hS hl
  have hF : CallFix p m c cX12_moveBits 5 s ([.ref aV, .int 80, .int 0, .int y0] : List Value).toArray (wG yX12_moveBits cX12_moveBits 5 none) RX12 := hF
  obtain ⟨hx, hb, hml, hown, hts⟩ := id hF
  have htg : ∀ w ∈ GL, w.before ([.ref aV, .int 80, .int 0, .int y0] : List Value).toArray s = true := fun w h => hts w (List.mem_cons_of_mem _ h)
  have hl : lv_has ls 5 [(0, .ref aV), (1, .int 80), (2, .int 0), (3, .int y0)] := hl
  have z0 := t_0
  have z80 := t_80
  refine lv_iconst (v := 0) hx hb dX12_moveBits_0 (by decide +kernel) ?_
  refine lv_istore (lv' := [(4, .int 0), (0, .ref aV), (1, .int 80), (2, .int 0), (3, .int y0)]) hx hb dX12_moveBits_1 hl (by decide) rfl (fun ls hl => ?_)
  have LP4 : ∀ (n3 k2 : Nat), k2 + n3 = 80 → ∀ (g1 : Nat → Int32) (H : Heap) (locs : List Loc) (ls : Array Slot), va_P D vwCl [(aV, .inl (cZ, 320, .inl g1))] H → va_D A [(aV, .inl (cZ, 320, .inl g1))] → va_S A s.heap H locs → lv_has ls 5 [(4, .int (nI k2)), (0, .ref aV), (1, .int 80), (2, .int 0), (3, .int y0)] → W p l e ({ frames := 0, cells := 0, slots := 0, locals := 0 } : Room) s m ([.ref aV, .int 80, .int 0, .int y0] : List Value).toArray below meth c H locs 0 0 (MQ below (gQv D (fun (u : Unit) => True) (fun (u : Unit) => [] : (Unit) → va_W) A) ([.ref aV, .int 80, .int 0, .int y0] : List Value).toArray s 0 0 A) (F0 m 3 ls []) := by
    intro n3
    induction n3 with
    | zero =>
      intro k2 hk g1 H locs ls hP hD hS hl
      obtain rfl : k2 = 80 := by omega
      have hl : lv_has ls 5 [(4, .int 80), (0, .ref aV), (1, .int 80), (2, .int 0), (3, .int y0)] := hl
      refine lv_iload hx hb dX12_moveBits_3 (lv_at hl 0 rfl) ?_
      refine lv_iload_n hx hb dX12_moveBits_5 rfl (lv_at hl 2 rfl) ?_
      refine lv_icmp_ge (tgt := 31) hx hb dX12_moveBits_6 (by decide) (fun _ => ?_) (fun c9 => absurd c9 (by decide +kernel))
      exact g_vret () hF hr hlocks (hP.sub [] rfl) (hD.sub [] rfl rfl) hS trivial dX12_moveBits_31 (Nat.le_of_ble_eq_true rfl) (Nat.le_of_ble_eq_true rfl)
    | succ n3 ih =>
      intro k2 hk g1 H locs ls hP hD hS hl
      have hk2 : k2 < 80 := by omega
      have ikk2 : (nI k2).toInt = k2 := nI_toInt (by omega)
      refine lv_iload hx hb dX12_moveBits_3 (lv_at hl 0 rfl) ?_
      refine lv_iload_n hx hb dX12_moveBits_5 rfl (lv_at hl 2 rfl) ?_
      refine lv_icmp_ge (tgt := 31) hx hb dX12_moveBits_6 (by decide) (fun c9 => absurd (i_le.mp c9) (by omega)) (fun _ => ?_)
      refine lv_aload_n hx hb dX12_moveBits_9 rfl (lv_at hl 1 rfl) ?_
      refine lv_iload_n hx hb dX12_moveBits_10 rfl (lv_at hl 2 rfl) ?_
      refine lv_iload_n hx hb dX12_moveBits_11 rfl (lv_at hl 4 rfl) ?_
      refine lv_imul hx hb dX12_moveBits_12 ?_
      refine lv_topi (fun v5 ev5 => ?_)
      have iv5 : v5.toInt = 80 * y0.toInt := by
        have h := fb_mulI (x := 80) (y := y0) (by rw [t_80]; omega) (by rw [t_80]; omega)
        rw [t_80] at h; rw [ev5]; exact h
      refine lv_iload hx hb dX12_moveBits_13 (lv_at hl 0 rfl) ?_
      refine lv_iadd hx hb dX12_moveBits_15 ?_
      refine lv_topi (fun v6 ev6 => ?_)
      have iv6 : v6.toInt = (v5 : Int32).toInt + ((nI k2) : Int32).toInt := by rw [ev6]; exact fb_addI (by omega) (by omega)
      refine lv_aload_n hx hb dX12_moveBits_16 rfl (lv_at hl 1 rfl) ?_
      refine lv_iload_n hx hb dX12_moveBits_17 rfl (lv_at hl 2 rfl) ?_
      refine lv_iload_n hx hb dX12_moveBits_18 rfl (lv_at hl 3 rfl) ?_
      refine lv_imul hx hb dX12_moveBits_19 ?_
      refine g_top 0 (by decide +kernel) ?_
      refine lv_iload hx hb dX12_moveBits_20 (lv_at hl 0 rfl) ?_
      refine lv_iadd hx hb dX12_moveBits_22 ?_
      refine lv_topi (fun v7 ev7 => ?_)
      have iv7 : v7.toInt = (0 : Int32).toInt + ((nI k2) : Int32).toInt := by rw [ev7]; exact fb_addI (by omega) (by omega)
      refine va_zald hx hb hE.1 hP 0 3 rfl rfl (vp_in_iff.mpr ⟨by omega, by omega⟩) dX12_moveBits_23 ?_
      refine lv_topi (fun v8 ev8 => ?_)
      refine va_zast hx hb hE.1 hP hD hS 0 3 rfl rfl (vp_in_iff.mpr ⟨by omega, by omega⟩) dX12_moveBits_24 (fun H locs hP hD hS => ?_)
      obtain ⟨g9, eg9⟩ : ∃ gz : Nat → Int32, gz = upd g1 (v6 : Int32).toNatClampNeg (vp_nar .boolean v8) := ⟨_, rfl⟩
      have hP : va_P D vwCl [(aV, .inl (cZ, 320, .inl g9))] H := by rw [eg9]; exact hP
      have hD : va_D A [(aV, .inl (cZ, 320, .inl g9))] := by rw [eg9]; exact hD
      refine lv_iinc (v := (nI (k2 + 1))) (lv' := [(4, .int (nI (k2 + 1))), (0, .ref aV), (1, .int 80), (2, .int 0), (3, .int y0)]) hx hb dX12_moveBits_25 hl (k := 0) rfl (show nI k2 + Int32.ofInt 1 = nI (k2 + 1) from nI_1 k2) (by decide) rfl (fun ls hl => ?_)
      refine lv_goto (tgt := 3) hx hb dX12_moveBits_28 (by decide) ?_
      exact ih (k2 + 1) (by omega) _ _ _ _ (hP.sub [0] rfl) (hD.sub [0] rfl rfl) hS (lv_sub hl [0, 1, 2, 3, 4] rfl)
  exact LP4 80 0 rfl g _ _ _ hP hD hS (lv_sub hl [0, 1, 2, 3, 4] rfl)
set_option maxHeartbeats 8000000 in
set_option maxRecDepth 100000 in
theorem c_X12_copyPersons {l : Launch} {D : va_G} {cI cB cS cZ cW : ClassId} {aM : Nat} {y0 : Int32} {qM : Nat → Nat} (hy0 : 1 ≤ y0.toInt ∧ y0.toInt ≤ 3) {sz : Nat} : MV l D (gT cI cB cS cZ cW) yX12_copyPersons (wG yX12_copyPersons cX12_copyPersons 3 none) { frames := 1, cells := 0, slots := 0, locals := 24 } [.ref aM, .int 0, .int y0] [(aM, oM qM 0 0 0 0 0 0 0 0 0 0 0 0 0 0 0 0 0 0), ((qM 14), .inl (cI, 4, .inl (fun _ => 0))), ((qM 15), .inl (cI, 64, .inl (fun _ => 0))), ((qM 16), .inl (cI, 64, .inl (fun _ => 0))), ((qM 17), .inl (cI, 64, .inl (fun _ => 0))), ((qM 18), .inl (cI, 64, .inl (fun _ => 0))), ((qM 19), .inl (cI, 64, .inl (fun _ => 0))), ((qM 20), .inl (cI, 64, .inl (fun _ => 0))), ((qM 21), .inl (cI, 64, .inl (fun _ => 0))), ((qM 22), .inl (cI, 64, .inl (fun _ => 0))), ((qM 23), .inl (cI, 64, .inl (fun _ => 0))), ((qM 24), .inl (cI, 64, .inl (fun _ => 0))), ((qM 25), .inl (cI, 64, .inl (fun _ => 0))), ((qM 26), .inl (cZ, 64, .inl (fun _ => 0))), ((qM 27), .inl (cI, 64, .inl (fun _ => 0)))] sz (fun (u : Unit) => True) (fun (u : Unit) => [(aM, oM qM 0 0 0 0 0 0 0 0 0 0 0 0 0 0 0 0 0 0)] : (Unit) → va_W) 0 0 := by
  refine g_enter (y := yX12_copyPersons) (w := (wG yX12_copyPersons cX12_copyPersons 3 none)) (As := [.ref aM, .int 0, .int y0]) (D := D) (T := gT cI cB cS cZ cW) (ws := [(aM, oM qM 0 0 0 0 0 0 0 0 0 0 0 0 0 0 0 0 0 0), ((qM 14), .inl (cI, 4, .inl (fun _ => 0))), ((qM 15), .inl (cI, 64, .inl (fun _ => 0))), ((qM 16), .inl (cI, 64, .inl (fun _ => 0))), ((qM 17), .inl (cI, 64, .inl (fun _ => 0))), ((qM 18), .inl (cI, 64, .inl (fun _ => 0))), ((qM 19), .inl (cI, 64, .inl (fun _ => 0))), ((qM 20), .inl (cI, 64, .inl (fun _ => 0))), ((qM 21), .inl (cI, 64, .inl (fun _ => 0))), ((qM 22), .inl (cI, 64, .inl (fun _ => 0))), ((qM 23), .inl (cI, 64, .inl (fun _ => 0))), ((qM 24), .inl (cI, 64, .inl (fun _ => 0))), ((qM 25), .inl (cI, 64, .inl (fun _ => 0))), ((qM 26), .inl (cZ, 64, .inl (fun _ => 0))), ((qM 27), .inl (cI, 64, .inl (fun _ => 0)))]) (gQv D (fun (u : Unit) => True) (fun (u : Unit) => [(aM, oM qM 0 0 0 0 0 0 0 0 0 0 0 0 0 0 0 0 0 0)] : (Unit) → va_W)) (cc := cX12_copyPersons) (maxL := 3) (ret := none) (by decide) rfl (Nat.le_of_ble_eq_true rfl) ?_
  intro p e s m below meth c A ls hF hr hlocks hname hsz hE hA hP hD hS hl
  have hF : CallFix p m c cX12_copyPersons 3 s ([.ref aM, .int 0, .int y0] : List Value).toArray (wG yX12_copyPersons cX12_copyPersons 3 none) RX12 := hF
  obtain ⟨hx, hb, hml, hown, hts⟩ := id hF
  have htg : ∀ w ∈ GL, w.before ([.ref aM, .int 0, .int y0] : List Value).toArray s = true := fun w h => hts w (List.mem_cons_of_mem _ h)
  have hl : lv_has ls 3 [(0, .ref aM), (1, .int 0), (2, .int y0)] := hl
  have z1 := t_1
  have z16 := t_16
  refine lv_aload_n hx hb dX12_copyPersons_0 rfl (lv_at hl 0 rfl) ?_
  refine va_get (D := D) (ci := 12) (v := .ref (qM 14)) (C := RX12) (T := TX12) (N := 97) hx hb htg iwG_12 hown hE.1 hP 0 rfl rfl 14 (by decide) (htg _ wm_480) (fun _ h9 => h9) rfl dX12_copyPersons_1 ?_
  refine lv_iconst (v := 1) hx hb dX12_copyPersons_4 (by decide +kernel) ?_
  refine lv_iload_n hx hb dX12_copyPersons_5 rfl (lv_at hl 1 rfl) ?_
  refine lv_iload_n hx hb dX12_copyPersons_6 rfl (lv_at hl 2 rfl) ?_
  refine g_av (D := D) (wc := [((qM 14), .inl (cI, 4, .inl (fun _ => 0)))]) (wr := [(aM, oM qM 0 0 0 0 0 0 0 0 0 0 0 0 0 0 0 0 0 0), ((qM 15), .inl (cI, 64, .inl (fun _ => 0))), ((qM 16), .inl (cI, 64, .inl (fun _ => 0))), ((qM 17), .inl (cI, 64, .inl (fun _ => 0))), ((qM 18), .inl (cI, 64, .inl (fun _ => 0))), ((qM 19), .inl (cI, 64, .inl (fun _ => 0))), ((qM 20), .inl (cI, 64, .inl (fun _ => 0))), ((qM 21), .inl (cI, 64, .inl (fun _ => 0))), ((qM 22), .inl (cI, 64, .inl (fun _ => 0))), ((qM 23), .inl (cI, 64, .inl (fun _ => 0))), ((qM 24), .inl (cI, 64, .inl (fun _ => 0))), ((qM 25), .inl (cI, 64, .inl (fun _ => 0))), ((qM 26), .inl (cZ, 64, .inl (fun _ => 0))), ((qM 27), .inl (cI, 64, .inl (fun _ => 0)))]) hP hD hS hA [1] [0, 2, 3, 4, 5, 6, 7, 8, 9, 10, 11, 12, 13, 14] rfl rfl rfl rfl (by decide) (fun hPc hDc => va_runS (As := [.ref (qM 14), .int 1, .int 0, .int y0]) (rest := []) hF (c_X12_move_1 (l := l) (D := D) (cI := cI) (cB := cB) (cS := cS) (cZ := cZ) (cW := cW) (aV := (qM 14)) (y0 := y0) (g := (fun _ => 0)) (hy0 := (by omega))) (va_cwS 4 hts (gGS (fun _ h => List.mem_cons_of_mem _ h) wm_574 wm_575 wm_550 wm_576) rfl rfl rfl (by decide +kernel) ⟨Nat.le_of_ble_eq_true rfl, Nat.le_of_ble_eq_true rfl⟩) (g_preS hE hPc hDc) rfl rfl hl.1 rfl (lv_room (Nat.le_of_ble_eq_true rfl)) dX12_copyPersons_7 ⟨Nat.le_of_ble_eq_true rfl, Nat.le_of_ble_eq_true rfl⟩) (fun u2 H locs p3 hP hD hS => ?_)
  have hP : va_P D vwCl [(aM, oM qM 0 0 0 0 0 0 0 0 0 0 0 0 0 0 0 0 0 0), ((qM 15), .inl (cI, 64, .inl (fun _ => 0))), ((qM 16), .inl (cI, 64, .inl (fun _ => 0))), ((qM 17), .inl (cI, 64, .inl (fun _ => 0))), ((qM 18), .inl (cI, 64, .inl (fun _ => 0))), ((qM 19), .inl (cI, 64, .inl (fun _ => 0))), ((qM 20), .inl (cI, 64, .inl (fun _ => 0))), ((qM 21), .inl (cI, 64, .inl (fun _ => 0))), ((qM 22), .inl (cI, 64, .inl (fun _ => 0))), ((qM 23), .inl (cI, 64, .inl (fun _ => 0))), ((qM 24), .inl (cI, 64, .inl (fun _ => 0))), ((qM 25), .inl (cI, 64, .inl (fun _ => 0))), ((qM 26), .inl (cZ, 64, .inl (fun _ => 0))), ((qM 27), .inl (cI, 64, .inl (fun _ => 0)))] H := hP
  have hD : va_D A [(aM, oM qM 0 0 0 0 0 0 0 0 0 0 0 0 0 0 0 0 0 0), ((qM 15), .inl (cI, 64, .inl (fun _ => 0))), ((qM 16), .inl (cI, 64, .inl (fun _ => 0))), ((qM 17), .inl (cI, 64, .inl (fun _ => 0))), ((qM 18), .inl (cI, 64, .inl (fun _ => 0))), ((qM 19), .inl (cI, 64, .inl (fun _ => 0))), ((qM 20), .inl (cI, 64, .inl (fun _ => 0))), ((qM 21), .inl (cI, 64, .inl (fun _ => 0))), ((qM 22), .inl (cI, 64, .inl (fun _ => 0))), ((qM 23), .inl (cI, 64, .inl (fun _ => 0))), ((qM 24), .inl (cI, 64, .inl (fun _ => 0))), ((qM 25), .inl (cI, 64, .inl (fun _ => 0))), ((qM 26), .inl (cZ, 64, .inl (fun _ => 0))), ((qM 27), .inl (cI, 64, .inl (fun _ => 0)))] := hD
  refine lv_aload_n hx hb dX12_copyPersons_10 rfl (lv_at hl 0 rfl) ?_
  refine va_get (D := D) (ci := 12) (v := .ref (qM 15)) (C := RX12) (T := TX12) (N := 97) hx hb htg iwG_12 hown hE.1 hP 0 rfl rfl 15 (by decide) (htg _ wm_481) (fun _ h9 => h9) rfl dX12_copyPersons_11 ?_
  refine lv_bipush (v := 16) hx hb dX12_copyPersons_14 (by decide +kernel) ?_
  refine lv_iload_n hx hb dX12_copyPersons_16 rfl (lv_at hl 1 rfl) ?_
  refine lv_iload_n hx hb dX12_copyPersons_17 rfl (lv_at hl 2 rfl) ?_
  refine g_av (D := D) (wc := [((qM 15), .inl (cI, 64, .inl (fun _ => 0)))]) (wr := [(aM, oM qM 0 0 0 0 0 0 0 0 0 0 0 0 0 0 0 0 0 0), ((qM 16), .inl (cI, 64, .inl (fun _ => 0))), ((qM 17), .inl (cI, 64, .inl (fun _ => 0))), ((qM 18), .inl (cI, 64, .inl (fun _ => 0))), ((qM 19), .inl (cI, 64, .inl (fun _ => 0))), ((qM 20), .inl (cI, 64, .inl (fun _ => 0))), ((qM 21), .inl (cI, 64, .inl (fun _ => 0))), ((qM 22), .inl (cI, 64, .inl (fun _ => 0))), ((qM 23), .inl (cI, 64, .inl (fun _ => 0))), ((qM 24), .inl (cI, 64, .inl (fun _ => 0))), ((qM 25), .inl (cI, 64, .inl (fun _ => 0))), ((qM 26), .inl (cZ, 64, .inl (fun _ => 0))), ((qM 27), .inl (cI, 64, .inl (fun _ => 0)))]) hP hD hS hA [1] [0, 2, 3, 4, 5, 6, 7, 8, 9, 10, 11, 12, 13] rfl rfl rfl rfl (by decide) (fun hPc hDc => va_runS (As := [.ref (qM 15), .int 16, .int 0, .int y0]) (rest := []) hF (c_X12_move_16 (l := l) (D := D) (cI := cI) (cB := cB) (cS := cS) (cZ := cZ) (cW := cW) (aV := (qM 15)) (y0 := y0) (g := (fun _ => 0)) (hy0 := (by omega))) (va_cwS 4 hts (gGS (fun _ h => List.mem_cons_of_mem _ h) wm_574 wm_575 wm_550 wm_576) rfl rfl rfl (by decide +kernel) ⟨Nat.le_of_ble_eq_true rfl, Nat.le_of_ble_eq_true rfl⟩) (g_preS hE hPc hDc) rfl rfl hl.1 rfl (lv_room (Nat.le_of_ble_eq_true rfl)) dX12_copyPersons_18 ⟨Nat.le_of_ble_eq_true rfl, Nat.le_of_ble_eq_true rfl⟩) (fun u5 H locs p6 hP hD hS => ?_)
  have hP : va_P D vwCl [(aM, oM qM 0 0 0 0 0 0 0 0 0 0 0 0 0 0 0 0 0 0), ((qM 16), .inl (cI, 64, .inl (fun _ => 0))), ((qM 17), .inl (cI, 64, .inl (fun _ => 0))), ((qM 18), .inl (cI, 64, .inl (fun _ => 0))), ((qM 19), .inl (cI, 64, .inl (fun _ => 0))), ((qM 20), .inl (cI, 64, .inl (fun _ => 0))), ((qM 21), .inl (cI, 64, .inl (fun _ => 0))), ((qM 22), .inl (cI, 64, .inl (fun _ => 0))), ((qM 23), .inl (cI, 64, .inl (fun _ => 0))), ((qM 24), .inl (cI, 64, .inl (fun _ => 0))), ((qM 25), .inl (cI, 64, .inl (fun _ => 0))), ((qM 26), .inl (cZ, 64, .inl (fun _ => 0))), ((qM 27), .inl (cI, 64, .inl (fun _ => 0)))] H := hP
  have hD : va_D A [(aM, oM qM 0 0 0 0 0 0 0 0 0 0 0 0 0 0 0 0 0 0), ((qM 16), .inl (cI, 64, .inl (fun _ => 0))), ((qM 17), .inl (cI, 64, .inl (fun _ => 0))), ((qM 18), .inl (cI, 64, .inl (fun _ => 0))), ((qM 19), .inl (cI, 64, .inl (fun _ => 0))), ((qM 20), .inl (cI, 64, .inl (fun _ => 0))), ((qM 21), .inl (cI, 64, .inl (fun _ => 0))), ((qM 22), .inl (cI, 64, .inl (fun _ => 0))), ((qM 23), .inl (cI, 64, .inl (fun _ => 0))), ((qM 24), .inl (cI, 64, .inl (fun _ => 0))), ((qM 25), .inl (cI, 64, .inl (fun _ => 0))), ((qM 26), .inl (cZ, 64, .inl (fun _ => 0))), ((qM 27), .inl (cI, 64, .inl (fun _ => 0)))] := hD
  refine lv_aload_n hx hb dX12_copyPersons_21 rfl (lv_at hl 0 rfl) ?_
  refine va_get (D := D) (ci := 12) (v := .ref (qM 16)) (C := RX12) (T := TX12) (N := 97) hx hb htg iwG_12 hown hE.1 hP 0 rfl rfl 16 (by decide) (htg _ wm_482) (fun _ h9 => h9) rfl dX12_copyPersons_22 ?_
  refine lv_bipush (v := 16) hx hb dX12_copyPersons_25 (by decide +kernel) ?_
  refine lv_iload_n hx hb dX12_copyPersons_27 rfl (lv_at hl 1 rfl) ?_
  refine lv_iload_n hx hb dX12_copyPersons_28 rfl (lv_at hl 2 rfl) ?_
  refine g_av (D := D) (wc := [((qM 16), .inl (cI, 64, .inl (fun _ => 0)))]) (wr := [(aM, oM qM 0 0 0 0 0 0 0 0 0 0 0 0 0 0 0 0 0 0), ((qM 17), .inl (cI, 64, .inl (fun _ => 0))), ((qM 18), .inl (cI, 64, .inl (fun _ => 0))), ((qM 19), .inl (cI, 64, .inl (fun _ => 0))), ((qM 20), .inl (cI, 64, .inl (fun _ => 0))), ((qM 21), .inl (cI, 64, .inl (fun _ => 0))), ((qM 22), .inl (cI, 64, .inl (fun _ => 0))), ((qM 23), .inl (cI, 64, .inl (fun _ => 0))), ((qM 24), .inl (cI, 64, .inl (fun _ => 0))), ((qM 25), .inl (cI, 64, .inl (fun _ => 0))), ((qM 26), .inl (cZ, 64, .inl (fun _ => 0))), ((qM 27), .inl (cI, 64, .inl (fun _ => 0)))]) hP hD hS hA [1] [0, 2, 3, 4, 5, 6, 7, 8, 9, 10, 11, 12] rfl rfl rfl rfl (by decide) (fun hPc hDc => va_runS (As := [.ref (qM 16), .int 16, .int 0, .int y0]) (rest := []) hF (c_X12_move_16 (l := l) (D := D) (cI := cI) (cB := cB) (cS := cS) (cZ := cZ) (cW := cW) (aV := (qM 16)) (y0 := y0) (g := (fun _ => 0)) (hy0 := (by omega))) (va_cwS 4 hts (gGS (fun _ h => List.mem_cons_of_mem _ h) wm_574 wm_575 wm_550 wm_576) rfl rfl rfl (by decide +kernel) ⟨Nat.le_of_ble_eq_true rfl, Nat.le_of_ble_eq_true rfl⟩) (g_preS hE hPc hDc) rfl rfl hl.1 rfl (lv_room (Nat.le_of_ble_eq_true rfl)) dX12_copyPersons_29 ⟨Nat.le_of_ble_eq_true rfl, Nat.le_of_ble_eq_true rfl⟩) (fun u8 H locs p9 hP hD hS => ?_)
  have hP : va_P D vwCl [(aM, oM qM 0 0 0 0 0 0 0 0 0 0 0 0 0 0 0 0 0 0), ((qM 17), .inl (cI, 64, .inl (fun _ => 0))), ((qM 18), .inl (cI, 64, .inl (fun _ => 0))), ((qM 19), .inl (cI, 64, .inl (fun _ => 0))), ((qM 20), .inl (cI, 64, .inl (fun _ => 0))), ((qM 21), .inl (cI, 64, .inl (fun _ => 0))), ((qM 22), .inl (cI, 64, .inl (fun _ => 0))), ((qM 23), .inl (cI, 64, .inl (fun _ => 0))), ((qM 24), .inl (cI, 64, .inl (fun _ => 0))), ((qM 25), .inl (cI, 64, .inl (fun _ => 0))), ((qM 26), .inl (cZ, 64, .inl (fun _ => 0))), ((qM 27), .inl (cI, 64, .inl (fun _ => 0)))] H := hP
  have hD : va_D A [(aM, oM qM 0 0 0 0 0 0 0 0 0 0 0 0 0 0 0 0 0 0), ((qM 17), .inl (cI, 64, .inl (fun _ => 0))), ((qM 18), .inl (cI, 64, .inl (fun _ => 0))), ((qM 19), .inl (cI, 64, .inl (fun _ => 0))), ((qM 20), .inl (cI, 64, .inl (fun _ => 0))), ((qM 21), .inl (cI, 64, .inl (fun _ => 0))), ((qM 22), .inl (cI, 64, .inl (fun _ => 0))), ((qM 23), .inl (cI, 64, .inl (fun _ => 0))), ((qM 24), .inl (cI, 64, .inl (fun _ => 0))), ((qM 25), .inl (cI, 64, .inl (fun _ => 0))), ((qM 26), .inl (cZ, 64, .inl (fun _ => 0))), ((qM 27), .inl (cI, 64, .inl (fun _ => 0)))] := hD
  refine lv_aload_n hx hb dX12_copyPersons_32 rfl (lv_at hl 0 rfl) ?_
  refine va_get (D := D) (ci := 12) (v := .ref (qM 17)) (C := RX12) (T := TX12) (N := 97) hx hb htg iwG_12 hown hE.1 hP 0 rfl rfl 17 (by decide) (htg _ wm_483) (fun _ h9 => h9) rfl dX12_copyPersons_33 ?_
  refine lv_bipush (v := 16) hx hb dX12_copyPersons_36 (by decide +kernel) ?_
  refine lv_iload_n hx hb dX12_copyPersons_38 rfl (lv_at hl 1 rfl) ?_
  refine lv_iload_n hx hb dX12_copyPersons_39 rfl (lv_at hl 2 rfl) ?_
  refine g_av (D := D) (wc := [((qM 17), .inl (cI, 64, .inl (fun _ => 0)))]) (wr := [(aM, oM qM 0 0 0 0 0 0 0 0 0 0 0 0 0 0 0 0 0 0), ((qM 18), .inl (cI, 64, .inl (fun _ => 0))), ((qM 19), .inl (cI, 64, .inl (fun _ => 0))), ((qM 20), .inl (cI, 64, .inl (fun _ => 0))), ((qM 21), .inl (cI, 64, .inl (fun _ => 0))), ((qM 22), .inl (cI, 64, .inl (fun _ => 0))), ((qM 23), .inl (cI, 64, .inl (fun _ => 0))), ((qM 24), .inl (cI, 64, .inl (fun _ => 0))), ((qM 25), .inl (cI, 64, .inl (fun _ => 0))), ((qM 26), .inl (cZ, 64, .inl (fun _ => 0))), ((qM 27), .inl (cI, 64, .inl (fun _ => 0)))]) hP hD hS hA [1] [0, 2, 3, 4, 5, 6, 7, 8, 9, 10, 11] rfl rfl rfl rfl (by decide) (fun hPc hDc => va_runS (As := [.ref (qM 17), .int 16, .int 0, .int y0]) (rest := []) hF (c_X12_move_16 (l := l) (D := D) (cI := cI) (cB := cB) (cS := cS) (cZ := cZ) (cW := cW) (aV := (qM 17)) (y0 := y0) (g := (fun _ => 0)) (hy0 := (by omega))) (va_cwS 4 hts (gGS (fun _ h => List.mem_cons_of_mem _ h) wm_574 wm_575 wm_550 wm_576) rfl rfl rfl (by decide +kernel) ⟨Nat.le_of_ble_eq_true rfl, Nat.le_of_ble_eq_true rfl⟩) (g_preS hE hPc hDc) rfl rfl hl.1 rfl (lv_room (Nat.le_of_ble_eq_true rfl)) dX12_copyPersons_40 ⟨Nat.le_of_ble_eq_true rfl, Nat.le_of_ble_eq_true rfl⟩) (fun u11 H locs p12 hP hD hS => ?_)
  have hP : va_P D vwCl [(aM, oM qM 0 0 0 0 0 0 0 0 0 0 0 0 0 0 0 0 0 0), ((qM 18), .inl (cI, 64, .inl (fun _ => 0))), ((qM 19), .inl (cI, 64, .inl (fun _ => 0))), ((qM 20), .inl (cI, 64, .inl (fun _ => 0))), ((qM 21), .inl (cI, 64, .inl (fun _ => 0))), ((qM 22), .inl (cI, 64, .inl (fun _ => 0))), ((qM 23), .inl (cI, 64, .inl (fun _ => 0))), ((qM 24), .inl (cI, 64, .inl (fun _ => 0))), ((qM 25), .inl (cI, 64, .inl (fun _ => 0))), ((qM 26), .inl (cZ, 64, .inl (fun _ => 0))), ((qM 27), .inl (cI, 64, .inl (fun _ => 0)))] H := hP
  have hD : va_D A [(aM, oM qM 0 0 0 0 0 0 0 0 0 0 0 0 0 0 0 0 0 0), ((qM 18), .inl (cI, 64, .inl (fun _ => 0))), ((qM 19), .inl (cI, 64, .inl (fun _ => 0))), ((qM 20), .inl (cI, 64, .inl (fun _ => 0))), ((qM 21), .inl (cI, 64, .inl (fun _ => 0))), ((qM 22), .inl (cI, 64, .inl (fun _ => 0))), ((qM 23), .inl (cI, 64, .inl (fun _ => 0))), ((qM 24), .inl (cI, 64, .inl (fun _ => 0))), ((qM 25), .inl (cI, 64, .inl (fun _ => 0))), ((qM 26), .inl (cZ, 64, .inl (fun _ => 0))), ((qM 27), .inl (cI, 64, .inl (fun _ => 0)))] := hD
  refine lv_aload_n hx hb dX12_copyPersons_43 rfl (lv_at hl 0 rfl) ?_
  refine va_get (D := D) (ci := 12) (v := .ref (qM 18)) (C := RX12) (T := TX12) (N := 97) hx hb htg iwG_12 hown hE.1 hP 0 rfl rfl 18 (by decide) (htg _ wm_484) (fun _ h9 => h9) rfl dX12_copyPersons_44 ?_
  refine lv_bipush (v := 16) hx hb dX12_copyPersons_47 (by decide +kernel) ?_
  refine lv_iload_n hx hb dX12_copyPersons_49 rfl (lv_at hl 1 rfl) ?_
  refine lv_iload_n hx hb dX12_copyPersons_50 rfl (lv_at hl 2 rfl) ?_
  refine g_av (D := D) (wc := [((qM 18), .inl (cI, 64, .inl (fun _ => 0)))]) (wr := [(aM, oM qM 0 0 0 0 0 0 0 0 0 0 0 0 0 0 0 0 0 0), ((qM 19), .inl (cI, 64, .inl (fun _ => 0))), ((qM 20), .inl (cI, 64, .inl (fun _ => 0))), ((qM 21), .inl (cI, 64, .inl (fun _ => 0))), ((qM 22), .inl (cI, 64, .inl (fun _ => 0))), ((qM 23), .inl (cI, 64, .inl (fun _ => 0))), ((qM 24), .inl (cI, 64, .inl (fun _ => 0))), ((qM 25), .inl (cI, 64, .inl (fun _ => 0))), ((qM 26), .inl (cZ, 64, .inl (fun _ => 0))), ((qM 27), .inl (cI, 64, .inl (fun _ => 0)))]) hP hD hS hA [1] [0, 2, 3, 4, 5, 6, 7, 8, 9, 10] rfl rfl rfl rfl (by decide) (fun hPc hDc => va_runS (As := [.ref (qM 18), .int 16, .int 0, .int y0]) (rest := []) hF (c_X12_move_16 (l := l) (D := D) (cI := cI) (cB := cB) (cS := cS) (cZ := cZ) (cW := cW) (aV := (qM 18)) (y0 := y0) (g := (fun _ => 0)) (hy0 := (by omega))) (va_cwS 4 hts (gGS (fun _ h => List.mem_cons_of_mem _ h) wm_574 wm_575 wm_550 wm_576) rfl rfl rfl (by decide +kernel) ⟨Nat.le_of_ble_eq_true rfl, Nat.le_of_ble_eq_true rfl⟩) (g_preS hE hPc hDc) rfl rfl hl.1 rfl (lv_room (Nat.le_of_ble_eq_true rfl)) dX12_copyPersons_51 ⟨Nat.le_of_ble_eq_true rfl, Nat.le_of_ble_eq_true rfl⟩) (fun u14 H locs p15 hP hD hS => ?_)
  have hP : va_P D vwCl [(aM, oM qM 0 0 0 0 0 0 0 0 0 0 0 0 0 0 0 0 0 0), ((qM 19), .inl (cI, 64, .inl (fun _ => 0))), ((qM 20), .inl (cI, 64, .inl (fun _ => 0))), ((qM 21), .inl (cI, 64, .inl (fun _ => 0))), ((qM 22), .inl (cI, 64, .inl (fun _ => 0))), ((qM 23), .inl (cI, 64, .inl (fun _ => 0))), ((qM 24), .inl (cI, 64, .inl (fun _ => 0))), ((qM 25), .inl (cI, 64, .inl (fun _ => 0))), ((qM 26), .inl (cZ, 64, .inl (fun _ => 0))), ((qM 27), .inl (cI, 64, .inl (fun _ => 0)))] H := hP
  have hD : va_D A [(aM, oM qM 0 0 0 0 0 0 0 0 0 0 0 0 0 0 0 0 0 0), ((qM 19), .inl (cI, 64, .inl (fun _ => 0))), ((qM 20), .inl (cI, 64, .inl (fun _ => 0))), ((qM 21), .inl (cI, 64, .inl (fun _ => 0))), ((qM 22), .inl (cI, 64, .inl (fun _ => 0))), ((qM 23), .inl (cI, 64, .inl (fun _ => 0))), ((qM 24), .inl (cI, 64, .inl (fun _ => 0))), ((qM 25), .inl (cI, 64, .inl (fun _ => 0))), ((qM 26), .inl (cZ, 64, .inl (fun _ => 0))), ((qM 27), .inl (cI, 64, .inl (fun _ => 0)))] := hD
  refine lv_aload_n hx hb dX12_copyPersons_54 rfl (lv_at hl 0 rfl) ?_
  refine va_get (D := D) (ci := 12) (v := .ref (qM 19)) (C := RX12) (T := TX12) (N := 97) hx hb htg iwG_12 hown hE.1 hP 0 rfl rfl 19 (by decide) (htg _ wm_485) (fun _ h9 => h9) rfl dX12_copyPersons_55 ?_
  refine lv_bipush (v := 16) hx hb dX12_copyPersons_58 (by decide +kernel) ?_
  refine lv_iload_n hx hb dX12_copyPersons_60 rfl (lv_at hl 1 rfl) ?_
  refine lv_iload_n hx hb dX12_copyPersons_61 rfl (lv_at hl 2 rfl) ?_
  refine g_av (D := D) (wc := [((qM 19), .inl (cI, 64, .inl (fun _ => 0)))]) (wr := [(aM, oM qM 0 0 0 0 0 0 0 0 0 0 0 0 0 0 0 0 0 0), ((qM 20), .inl (cI, 64, .inl (fun _ => 0))), ((qM 21), .inl (cI, 64, .inl (fun _ => 0))), ((qM 22), .inl (cI, 64, .inl (fun _ => 0))), ((qM 23), .inl (cI, 64, .inl (fun _ => 0))), ((qM 24), .inl (cI, 64, .inl (fun _ => 0))), ((qM 25), .inl (cI, 64, .inl (fun _ => 0))), ((qM 26), .inl (cZ, 64, .inl (fun _ => 0))), ((qM 27), .inl (cI, 64, .inl (fun _ => 0)))]) hP hD hS hA [1] [0, 2, 3, 4, 5, 6, 7, 8, 9] rfl rfl rfl rfl (by decide) (fun hPc hDc => va_runS (As := [.ref (qM 19), .int 16, .int 0, .int y0]) (rest := []) hF (c_X12_move_16 (l := l) (D := D) (cI := cI) (cB := cB) (cS := cS) (cZ := cZ) (cW := cW) (aV := (qM 19)) (y0 := y0) (g := (fun _ => 0)) (hy0 := (by omega))) (va_cwS 4 hts (gGS (fun _ h => List.mem_cons_of_mem _ h) wm_574 wm_575 wm_550 wm_576) rfl rfl rfl (by decide +kernel) ⟨Nat.le_of_ble_eq_true rfl, Nat.le_of_ble_eq_true rfl⟩) (g_preS hE hPc hDc) rfl rfl hl.1 rfl (lv_room (Nat.le_of_ble_eq_true rfl)) dX12_copyPersons_62 ⟨Nat.le_of_ble_eq_true rfl, Nat.le_of_ble_eq_true rfl⟩) (fun u17 H locs p18 hP hD hS => ?_)
  have hP : va_P D vwCl [(aM, oM qM 0 0 0 0 0 0 0 0 0 0 0 0 0 0 0 0 0 0), ((qM 20), .inl (cI, 64, .inl (fun _ => 0))), ((qM 21), .inl (cI, 64, .inl (fun _ => 0))), ((qM 22), .inl (cI, 64, .inl (fun _ => 0))), ((qM 23), .inl (cI, 64, .inl (fun _ => 0))), ((qM 24), .inl (cI, 64, .inl (fun _ => 0))), ((qM 25), .inl (cI, 64, .inl (fun _ => 0))), ((qM 26), .inl (cZ, 64, .inl (fun _ => 0))), ((qM 27), .inl (cI, 64, .inl (fun _ => 0)))] H := hP
  have hD : va_D A [(aM, oM qM 0 0 0 0 0 0 0 0 0 0 0 0 0 0 0 0 0 0), ((qM 20), .inl (cI, 64, .inl (fun _ => 0))), ((qM 21), .inl (cI, 64, .inl (fun _ => 0))), ((qM 22), .inl (cI, 64, .inl (fun _ => 0))), ((qM 23), .inl (cI, 64, .inl (fun _ => 0))), ((qM 24), .inl (cI, 64, .inl (fun _ => 0))), ((qM 25), .inl (cI, 64, .inl (fun _ => 0))), ((qM 26), .inl (cZ, 64, .inl (fun _ => 0))), ((qM 27), .inl (cI, 64, .inl (fun _ => 0)))] := hD
  refine lv_aload_n hx hb dX12_copyPersons_65 rfl (lv_at hl 0 rfl) ?_
  refine va_get (D := D) (ci := 12) (v := .ref (qM 20)) (C := RX12) (T := TX12) (N := 97) hx hb htg iwG_12 hown hE.1 hP 0 rfl rfl 20 (by decide) (htg _ wm_486) (fun _ h9 => h9) rfl dX12_copyPersons_66 ?_
  refine lv_bipush (v := 16) hx hb dX12_copyPersons_69 (by decide +kernel) ?_
  refine lv_iload_n hx hb dX12_copyPersons_71 rfl (lv_at hl 1 rfl) ?_
  refine lv_iload_n hx hb dX12_copyPersons_72 rfl (lv_at hl 2 rfl) ?_
  refine g_av (D := D) (wc := [((qM 20), .inl (cI, 64, .inl (fun _ => 0)))]) (wr := [(aM, oM qM 0 0 0 0 0 0 0 0 0 0 0 0 0 0 0 0 0 0), ((qM 21), .inl (cI, 64, .inl (fun _ => 0))), ((qM 22), .inl (cI, 64, .inl (fun _ => 0))), ((qM 23), .inl (cI, 64, .inl (fun _ => 0))), ((qM 24), .inl (cI, 64, .inl (fun _ => 0))), ((qM 25), .inl (cI, 64, .inl (fun _ => 0))), ((qM 26), .inl (cZ, 64, .inl (fun _ => 0))), ((qM 27), .inl (cI, 64, .inl (fun _ => 0)))]) hP hD hS hA [1] [0, 2, 3, 4, 5, 6, 7, 8] rfl rfl rfl rfl (by decide) (fun hPc hDc => va_runS (As := [.ref (qM 20), .int 16, .int 0, .int y0]) (rest := []) hF (c_X12_move_16 (l := l) (D := D) (cI := cI) (cB := cB) (cS := cS) (cZ := cZ) (cW := cW) (aV := (qM 20)) (y0 := y0) (g := (fun _ => 0)) (hy0 := (by omega))) (va_cwS 4 hts (gGS (fun _ h => List.mem_cons_of_mem _ h) wm_574 wm_575 wm_550 wm_576) rfl rfl rfl (by decide +kernel) ⟨Nat.le_of_ble_eq_true rfl, Nat.le_of_ble_eq_true rfl⟩) (g_preS hE hPc hDc) rfl rfl hl.1 rfl (lv_room (Nat.le_of_ble_eq_true rfl)) dX12_copyPersons_73 ⟨Nat.le_of_ble_eq_true rfl, Nat.le_of_ble_eq_true rfl⟩) (fun u20 H locs p21 hP hD hS => ?_)
  have hP : va_P D vwCl [(aM, oM qM 0 0 0 0 0 0 0 0 0 0 0 0 0 0 0 0 0 0), ((qM 21), .inl (cI, 64, .inl (fun _ => 0))), ((qM 22), .inl (cI, 64, .inl (fun _ => 0))), ((qM 23), .inl (cI, 64, .inl (fun _ => 0))), ((qM 24), .inl (cI, 64, .inl (fun _ => 0))), ((qM 25), .inl (cI, 64, .inl (fun _ => 0))), ((qM 26), .inl (cZ, 64, .inl (fun _ => 0))), ((qM 27), .inl (cI, 64, .inl (fun _ => 0)))] H := hP
  have hD : va_D A [(aM, oM qM 0 0 0 0 0 0 0 0 0 0 0 0 0 0 0 0 0 0), ((qM 21), .inl (cI, 64, .inl (fun _ => 0))), ((qM 22), .inl (cI, 64, .inl (fun _ => 0))), ((qM 23), .inl (cI, 64, .inl (fun _ => 0))), ((qM 24), .inl (cI, 64, .inl (fun _ => 0))), ((qM 25), .inl (cI, 64, .inl (fun _ => 0))), ((qM 26), .inl (cZ, 64, .inl (fun _ => 0))), ((qM 27), .inl (cI, 64, .inl (fun _ => 0)))] := hD
  refine lv_aload_n hx hb dX12_copyPersons_76 rfl (lv_at hl 0 rfl) ?_
  refine va_get (D := D) (ci := 12) (v := .ref (qM 21)) (C := RX12) (T := TX12) (N := 97) hx hb htg iwG_12 hown hE.1 hP 0 rfl rfl 21 (by decide) (htg _ wm_487) (fun _ h9 => h9) rfl dX12_copyPersons_77 ?_
  refine lv_bipush (v := 16) hx hb dX12_copyPersons_80 (by decide +kernel) ?_
  refine lv_iload_n hx hb dX12_copyPersons_82 rfl (lv_at hl 1 rfl) ?_
  refine lv_iload_n hx hb dX12_copyPersons_83 rfl (lv_at hl 2 rfl) ?_
  refine g_av (D := D) (wc := [((qM 21), .inl (cI, 64, .inl (fun _ => 0)))]) (wr := [(aM, oM qM 0 0 0 0 0 0 0 0 0 0 0 0 0 0 0 0 0 0), ((qM 22), .inl (cI, 64, .inl (fun _ => 0))), ((qM 23), .inl (cI, 64, .inl (fun _ => 0))), ((qM 24), .inl (cI, 64, .inl (fun _ => 0))), ((qM 25), .inl (cI, 64, .inl (fun _ => 0))), ((qM 26), .inl (cZ, 64, .inl (fun _ => 0))), ((qM 27), .inl (cI, 64, .inl (fun _ => 0)))]) hP hD hS hA [1] [0, 2, 3, 4, 5, 6, 7] rfl rfl rfl rfl (by decide) (fun hPc hDc => va_runS (As := [.ref (qM 21), .int 16, .int 0, .int y0]) (rest := []) hF (c_X12_move_16 (l := l) (D := D) (cI := cI) (cB := cB) (cS := cS) (cZ := cZ) (cW := cW) (aV := (qM 21)) (y0 := y0) (g := (fun _ => 0)) (hy0 := (by omega))) (va_cwS 4 hts (gGS (fun _ h => List.mem_cons_of_mem _ h) wm_574 wm_575 wm_550 wm_576) rfl rfl rfl (by decide +kernel) ⟨Nat.le_of_ble_eq_true rfl, Nat.le_of_ble_eq_true rfl⟩) (g_preS hE hPc hDc) rfl rfl hl.1 rfl (lv_room (Nat.le_of_ble_eq_true rfl)) dX12_copyPersons_84 ⟨Nat.le_of_ble_eq_true rfl, Nat.le_of_ble_eq_true rfl⟩) (fun u23 H locs p24 hP hD hS => ?_)
  have hP : va_P D vwCl [(aM, oM qM 0 0 0 0 0 0 0 0 0 0 0 0 0 0 0 0 0 0), ((qM 22), .inl (cI, 64, .inl (fun _ => 0))), ((qM 23), .inl (cI, 64, .inl (fun _ => 0))), ((qM 24), .inl (cI, 64, .inl (fun _ => 0))), ((qM 25), .inl (cI, 64, .inl (fun _ => 0))), ((qM 26), .inl (cZ, 64, .inl (fun _ => 0))), ((qM 27), .inl (cI, 64, .inl (fun _ => 0)))] H := hP
  have hD : va_D A [(aM, oM qM 0 0 0 0 0 0 0 0 0 0 0 0 0 0 0 0 0 0), ((qM 22), .inl (cI, 64, .inl (fun _ => 0))), ((qM 23), .inl (cI, 64, .inl (fun _ => 0))), ((qM 24), .inl (cI, 64, .inl (fun _ => 0))), ((qM 25), .inl (cI, 64, .inl (fun _ => 0))), ((qM 26), .inl (cZ, 64, .inl (fun _ => 0))), ((qM 27), .inl (cI, 64, .inl (fun _ => 0)))] := hD
  refine lv_aload_n hx hb dX12_copyPersons_87 rfl (lv_at hl 0 rfl) ?_
  refine va_get (D := D) (ci := 12) (v := .ref (qM 22)) (C := RX12) (T := TX12) (N := 97) hx hb htg iwG_12 hown hE.1 hP 0 rfl rfl 22 (by decide) (htg _ wm_488) (fun _ h9 => h9) rfl dX12_copyPersons_88 ?_
  refine lv_bipush (v := 16) hx hb dX12_copyPersons_91 (by decide +kernel) ?_
  refine lv_iload_n hx hb dX12_copyPersons_93 rfl (lv_at hl 1 rfl) ?_
  refine lv_iload_n hx hb dX12_copyPersons_94 rfl (lv_at hl 2 rfl) ?_
  refine g_av (D := D) (wc := [((qM 22), .inl (cI, 64, .inl (fun _ => 0)))]) (wr := [(aM, oM qM 0 0 0 0 0 0 0 0 0 0 0 0 0 0 0 0 0 0), ((qM 23), .inl (cI, 64, .inl (fun _ => 0))), ((qM 24), .inl (cI, 64, .inl (fun _ => 0))), ((qM 25), .inl (cI, 64, .inl (fun _ => 0))), ((qM 26), .inl (cZ, 64, .inl (fun _ => 0))), ((qM 27), .inl (cI, 64, .inl (fun _ => 0)))]) hP hD hS hA [1] [0, 2, 3, 4, 5, 6] rfl rfl rfl rfl (by decide) (fun hPc hDc => va_runS (As := [.ref (qM 22), .int 16, .int 0, .int y0]) (rest := []) hF (c_X12_move_16 (l := l) (D := D) (cI := cI) (cB := cB) (cS := cS) (cZ := cZ) (cW := cW) (aV := (qM 22)) (y0 := y0) (g := (fun _ => 0)) (hy0 := (by omega))) (va_cwS 4 hts (gGS (fun _ h => List.mem_cons_of_mem _ h) wm_574 wm_575 wm_550 wm_576) rfl rfl rfl (by decide +kernel) ⟨Nat.le_of_ble_eq_true rfl, Nat.le_of_ble_eq_true rfl⟩) (g_preS hE hPc hDc) rfl rfl hl.1 rfl (lv_room (Nat.le_of_ble_eq_true rfl)) dX12_copyPersons_95 ⟨Nat.le_of_ble_eq_true rfl, Nat.le_of_ble_eq_true rfl⟩) (fun u26 H locs p27 hP hD hS => ?_)
  have hP : va_P D vwCl [(aM, oM qM 0 0 0 0 0 0 0 0 0 0 0 0 0 0 0 0 0 0), ((qM 23), .inl (cI, 64, .inl (fun _ => 0))), ((qM 24), .inl (cI, 64, .inl (fun _ => 0))), ((qM 25), .inl (cI, 64, .inl (fun _ => 0))), ((qM 26), .inl (cZ, 64, .inl (fun _ => 0))), ((qM 27), .inl (cI, 64, .inl (fun _ => 0)))] H := hP
  have hD : va_D A [(aM, oM qM 0 0 0 0 0 0 0 0 0 0 0 0 0 0 0 0 0 0), ((qM 23), .inl (cI, 64, .inl (fun _ => 0))), ((qM 24), .inl (cI, 64, .inl (fun _ => 0))), ((qM 25), .inl (cI, 64, .inl (fun _ => 0))), ((qM 26), .inl (cZ, 64, .inl (fun _ => 0))), ((qM 27), .inl (cI, 64, .inl (fun _ => 0)))] := hD
  refine lv_aload_n hx hb dX12_copyPersons_98 rfl (lv_at hl 0 rfl) ?_
  refine va_get (D := D) (ci := 12) (v := .ref (qM 23)) (C := RX12) (T := TX12) (N := 97) hx hb htg iwG_12 hown hE.1 hP 0 rfl rfl 23 (by decide) (htg _ wm_489) (fun _ h9 => h9) rfl dX12_copyPersons_99 ?_
  refine lv_bipush (v := 16) hx hb dX12_copyPersons_102 (by decide +kernel) ?_
  refine lv_iload_n hx hb dX12_copyPersons_104 rfl (lv_at hl 1 rfl) ?_
  refine lv_iload_n hx hb dX12_copyPersons_105 rfl (lv_at hl 2 rfl) ?_
  refine g_av (D := D) (wc := [((qM 23), .inl (cI, 64, .inl (fun _ => 0)))]) (wr := [(aM, oM qM 0 0 0 0 0 0 0 0 0 0 0 0 0 0 0 0 0 0), ((qM 24), .inl (cI, 64, .inl (fun _ => 0))), ((qM 25), .inl (cI, 64, .inl (fun _ => 0))), ((qM 26), .inl (cZ, 64, .inl (fun _ => 0))), ((qM 27), .inl (cI, 64, .inl (fun _ => 0)))]) hP hD hS hA [1] [0, 2, 3, 4, 5] rfl rfl rfl rfl (by decide) (fun hPc hDc => va_runS (As := [.ref (qM 23), .int 16, .int 0, .int y0]) (rest := []) hF (c_X12_move_16 (l := l) (D := D) (cI := cI) (cB := cB) (cS := cS) (cZ := cZ) (cW := cW) (aV := (qM 23)) (y0 := y0) (g := (fun _ => 0)) (hy0 := (by omega))) (va_cwS 4 hts (gGS (fun _ h => List.mem_cons_of_mem _ h) wm_574 wm_575 wm_550 wm_576) rfl rfl rfl (by decide +kernel) ⟨Nat.le_of_ble_eq_true rfl, Nat.le_of_ble_eq_true rfl⟩) (g_preS hE hPc hDc) rfl rfl hl.1 rfl (lv_room (Nat.le_of_ble_eq_true rfl)) dX12_copyPersons_106 ⟨Nat.le_of_ble_eq_true rfl, Nat.le_of_ble_eq_true rfl⟩) (fun u29 H locs p30 hP hD hS => ?_)
  have hP : va_P D vwCl [(aM, oM qM 0 0 0 0 0 0 0 0 0 0 0 0 0 0 0 0 0 0), ((qM 24), .inl (cI, 64, .inl (fun _ => 0))), ((qM 25), .inl (cI, 64, .inl (fun _ => 0))), ((qM 26), .inl (cZ, 64, .inl (fun _ => 0))), ((qM 27), .inl (cI, 64, .inl (fun _ => 0)))] H := hP
  have hD : va_D A [(aM, oM qM 0 0 0 0 0 0 0 0 0 0 0 0 0 0 0 0 0 0), ((qM 24), .inl (cI, 64, .inl (fun _ => 0))), ((qM 25), .inl (cI, 64, .inl (fun _ => 0))), ((qM 26), .inl (cZ, 64, .inl (fun _ => 0))), ((qM 27), .inl (cI, 64, .inl (fun _ => 0)))] := hD
  refine lv_aload_n hx hb dX12_copyPersons_109 rfl (lv_at hl 0 rfl) ?_
  refine va_get (D := D) (ci := 12) (v := .ref (qM 24)) (C := RX12) (T := TX12) (N := 97) hx hb htg iwG_12 hown hE.1 hP 0 rfl rfl 24 (by decide) (htg _ wm_490) (fun _ h9 => h9) rfl dX12_copyPersons_110 ?_
  refine lv_bipush (v := 16) hx hb dX12_copyPersons_113 (by decide +kernel) ?_
  refine lv_iload_n hx hb dX12_copyPersons_115 rfl (lv_at hl 1 rfl) ?_
  refine lv_iload_n hx hb dX12_copyPersons_116 rfl (lv_at hl 2 rfl) ?_
  refine g_av (D := D) (wc := [((qM 24), .inl (cI, 64, .inl (fun _ => 0)))]) (wr := [(aM, oM qM 0 0 0 0 0 0 0 0 0 0 0 0 0 0 0 0 0 0), ((qM 25), .inl (cI, 64, .inl (fun _ => 0))), ((qM 26), .inl (cZ, 64, .inl (fun _ => 0))), ((qM 27), .inl (cI, 64, .inl (fun _ => 0)))]) hP hD hS hA [1] [0, 2, 3, 4] rfl rfl rfl rfl (by decide) (fun hPc hDc => va_runS (As := [.ref (qM 24), .int 16, .int 0, .int y0]) (rest := []) hF (c_X12_move_16 (l := l) (D := D) (cI := cI) (cB := cB) (cS := cS) (cZ := cZ) (cW := cW) (aV := (qM 24)) (y0 := y0) (g := (fun _ => 0)) (hy0 := (by omega))) (va_cwS 4 hts (gGS (fun _ h => List.mem_cons_of_mem _ h) wm_574 wm_575 wm_550 wm_576) rfl rfl rfl (by decide +kernel) ⟨Nat.le_of_ble_eq_true rfl, Nat.le_of_ble_eq_true rfl⟩) (g_preS hE hPc hDc) rfl rfl hl.1 rfl (lv_room (Nat.le_of_ble_eq_true rfl)) dX12_copyPersons_117 ⟨Nat.le_of_ble_eq_true rfl, Nat.le_of_ble_eq_true rfl⟩) (fun u32 H locs p33 hP hD hS => ?_)
  have hP : va_P D vwCl [(aM, oM qM 0 0 0 0 0 0 0 0 0 0 0 0 0 0 0 0 0 0), ((qM 25), .inl (cI, 64, .inl (fun _ => 0))), ((qM 26), .inl (cZ, 64, .inl (fun _ => 0))), ((qM 27), .inl (cI, 64, .inl (fun _ => 0)))] H := hP
  have hD : va_D A [(aM, oM qM 0 0 0 0 0 0 0 0 0 0 0 0 0 0 0 0 0 0), ((qM 25), .inl (cI, 64, .inl (fun _ => 0))), ((qM 26), .inl (cZ, 64, .inl (fun _ => 0))), ((qM 27), .inl (cI, 64, .inl (fun _ => 0)))] := hD
  refine lv_aload_n hx hb dX12_copyPersons_120 rfl (lv_at hl 0 rfl) ?_
  refine va_get (D := D) (ci := 12) (v := .ref (qM 25)) (C := RX12) (T := TX12) (N := 97) hx hb htg iwG_12 hown hE.1 hP 0 rfl rfl 25 (by decide) (htg _ wm_491) (fun _ h9 => h9) rfl dX12_copyPersons_121 ?_
  refine lv_bipush (v := 16) hx hb dX12_copyPersons_124 (by decide +kernel) ?_
  refine lv_iload_n hx hb dX12_copyPersons_126 rfl (lv_at hl 1 rfl) ?_
  refine lv_iload_n hx hb dX12_copyPersons_127 rfl (lv_at hl 2 rfl) ?_
  refine g_av (D := D) (wc := [((qM 25), .inl (cI, 64, .inl (fun _ => 0)))]) (wr := [(aM, oM qM 0 0 0 0 0 0 0 0 0 0 0 0 0 0 0 0 0 0), ((qM 26), .inl (cZ, 64, .inl (fun _ => 0))), ((qM 27), .inl (cI, 64, .inl (fun _ => 0)))]) hP hD hS hA [1] [0, 2, 3] rfl rfl rfl rfl (by decide) (fun hPc hDc => va_runS (As := [.ref (qM 25), .int 16, .int 0, .int y0]) (rest := []) hF (c_X12_move_16 (l := l) (D := D) (cI := cI) (cB := cB) (cS := cS) (cZ := cZ) (cW := cW) (aV := (qM 25)) (y0 := y0) (g := (fun _ => 0)) (hy0 := (by omega))) (va_cwS 4 hts (gGS (fun _ h => List.mem_cons_of_mem _ h) wm_574 wm_575 wm_550 wm_576) rfl rfl rfl (by decide +kernel) ⟨Nat.le_of_ble_eq_true rfl, Nat.le_of_ble_eq_true rfl⟩) (g_preS hE hPc hDc) rfl rfl hl.1 rfl (lv_room (Nat.le_of_ble_eq_true rfl)) dX12_copyPersons_128 ⟨Nat.le_of_ble_eq_true rfl, Nat.le_of_ble_eq_true rfl⟩) (fun u35 H locs p36 hP hD hS => ?_)
  have hP : va_P D vwCl [(aM, oM qM 0 0 0 0 0 0 0 0 0 0 0 0 0 0 0 0 0 0), ((qM 26), .inl (cZ, 64, .inl (fun _ => 0))), ((qM 27), .inl (cI, 64, .inl (fun _ => 0)))] H := hP
  have hD : va_D A [(aM, oM qM 0 0 0 0 0 0 0 0 0 0 0 0 0 0 0 0 0 0), ((qM 26), .inl (cZ, 64, .inl (fun _ => 0))), ((qM 27), .inl (cI, 64, .inl (fun _ => 0)))] := hD
  refine lv_aload_n hx hb dX12_copyPersons_131 rfl (lv_at hl 0 rfl) ?_
  refine va_get (D := D) (ci := 12) (v := .ref (qM 26)) (C := RX12) (T := TX12) (N := 97) hx hb htg iwG_12 hown hE.1 hP 0 rfl rfl 26 (by decide) (htg _ wm_493) (fun _ h9 => h9) rfl dX12_copyPersons_132 ?_
  refine lv_bipush (v := 16) hx hb dX12_copyPersons_135 (by decide +kernel) ?_
  refine lv_iload_n hx hb dX12_copyPersons_137 rfl (lv_at hl 1 rfl) ?_
  refine lv_iload_n hx hb dX12_copyPersons_138 rfl (lv_at hl 2 rfl) ?_
  refine g_av (D := D) (wc := [((qM 26), .inl (cZ, 64, .inl (fun _ => 0)))]) (wr := [(aM, oM qM 0 0 0 0 0 0 0 0 0 0 0 0 0 0 0 0 0 0), ((qM 27), .inl (cI, 64, .inl (fun _ => 0)))]) hP hD hS hA [1] [0, 2] rfl rfl rfl rfl (by decide) (fun hPc hDc => va_runS (As := [.ref (qM 26), .int 16, .int 0, .int y0]) (rest := []) hF (c_X12_moveBits_16 (l := l) (D := D) (cI := cI) (cB := cB) (cS := cS) (cZ := cZ) (cW := cW) (aV := (qM 26)) (y0 := y0) (g := (fun _ => 0)) (hy0 := (by omega))) (va_cwS 4 hts (gGS (fun _ h => List.mem_cons_of_mem _ h) wm_577 wm_578 wm_550 wm_579) rfl rfl rfl (by decide +kernel) ⟨Nat.le_of_ble_eq_true rfl, Nat.le_of_ble_eq_true rfl⟩) (g_preS hE hPc hDc) rfl rfl hl.1 rfl (lv_room (Nat.le_of_ble_eq_true rfl)) dX12_copyPersons_139 ⟨Nat.le_of_ble_eq_true rfl, Nat.le_of_ble_eq_true rfl⟩) (fun u38 H locs p39 hP hD hS => ?_)
  have hP : va_P D vwCl [(aM, oM qM 0 0 0 0 0 0 0 0 0 0 0 0 0 0 0 0 0 0), ((qM 27), .inl (cI, 64, .inl (fun _ => 0)))] H := hP
  have hD : va_D A [(aM, oM qM 0 0 0 0 0 0 0 0 0 0 0 0 0 0 0 0 0 0), ((qM 27), .inl (cI, 64, .inl (fun _ => 0)))] := hD
  refine lv_aload_n hx hb dX12_copyPersons_142 rfl (lv_at hl 0 rfl) ?_
  refine va_get (D := D) (ci := 12) (v := .ref (qM 27)) (C := RX12) (T := TX12) (N := 97) hx hb htg iwG_12 hown hE.1 hP 0 rfl rfl 27 (by decide) (htg _ wm_494) (fun _ h9 => h9) rfl dX12_copyPersons_143 ?_
  refine lv_bipush (v := 16) hx hb dX12_copyPersons_146 (by decide +kernel) ?_
  refine lv_iload_n hx hb dX12_copyPersons_148 rfl (lv_at hl 1 rfl) ?_
  refine lv_iload_n hx hb dX12_copyPersons_149 rfl (lv_at hl 2 rfl) ?_
  refine g_av (D := D) (wc := [((qM 27), .inl (cI, 64, .inl (fun _ => 0)))]) (wr := [(aM, oM qM 0 0 0 0 0 0 0 0 0 0 0 0 0 0 0 0 0 0)]) hP hD hS hA [1] [0] rfl rfl rfl rfl (by decide) (fun hPc hDc => va_runS (As := [.ref (qM 27), .int 16, .int 0, .int y0]) (rest := []) hF (c_X12_move_16 (l := l) (D := D) (cI := cI) (cB := cB) (cS := cS) (cZ := cZ) (cW := cW) (aV := (qM 27)) (y0 := y0) (g := (fun _ => 0)) (hy0 := (by omega))) (va_cwS 4 hts (gGS (fun _ h => List.mem_cons_of_mem _ h) wm_574 wm_575 wm_550 wm_576) rfl rfl rfl (by decide +kernel) ⟨Nat.le_of_ble_eq_true rfl, Nat.le_of_ble_eq_true rfl⟩) (g_preS hE hPc hDc) rfl rfl hl.1 rfl (lv_room (Nat.le_of_ble_eq_true rfl)) dX12_copyPersons_150 ⟨Nat.le_of_ble_eq_true rfl, Nat.le_of_ble_eq_true rfl⟩) (fun u41 H locs p42 hP hD hS => ?_)
  have hP : va_P D vwCl [(aM, oM qM 0 0 0 0 0 0 0 0 0 0 0 0 0 0 0 0 0 0)] H := hP
  have hD : va_D A [(aM, oM qM 0 0 0 0 0 0 0 0 0 0 0 0 0 0 0 0 0 0)] := hD
  exact g_vret () hF hr hlocks (hP.sub [0] rfl) (hD.sub [0] rfl rfl) hS trivial dX12_copyPersons_153 (Nat.le_of_ble_eq_true rfl) (Nat.le_of_ble_eq_true rfl)
