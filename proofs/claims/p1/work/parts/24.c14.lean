set_option maxHeartbeats 8000000 in
set_option maxRecDepth 100000 in
theorem c_X12_move_16 {l : Launch} {D : va_G} {cI cB cS cZ cW : ClassId} {aV : Nat} {y0 : Int32} {g : Nat → Int32} (hy0 : 1 ≤ y0.toInt ∧ y0.toInt ≤ 3) {sz : Nat} : MV l D (gT cI cB cS cZ cW) yX12_move (wG yX12_move cX12_move 5 none) { frames := 0, cells := 0, slots := 0, locals := 0 } [.ref aV, .int 16, .int 0, .int y0] [(aV, .inl (cI, 64, .inl g))] sz (fun (u : Unit) => True) (fun (u : Unit) => [] : (Unit) → va_W) 0 0 := by
  refine g_enter (y := yX12_move) (w := (wG yX12_move cX12_move 5 none)) (As := [.ref aV, .int 16, .int 0, .int y0]) (D := D) (T := gT cI cB cS cZ cW) (ws := [(aV, .inl (cI, 64, .inl g))]) (gQv D (fun (u : Unit) => True) (fun (u : Unit) => [] : (Unit) → va_W)) (cc := cX12_move) (maxL := 5) (ret := none) (by decide) rfl (Nat.le_of_ble_eq_true rfl) ?_
  intro p e s m below meth c A ls hF hr hlocks hname hsz hE hA hP hD hS hl
  have hF : CallFix p m c cX12_move 5 s ([.ref aV, .int 16, .int 0, .int y0] : List Value).toArray (wG yX12_move cX12_move 5 none) RX12 := hF
  obtain ⟨hx, hb, hml, hown, hts⟩ := id hF
  have htg : ∀ w ∈ GL, w.before ([.ref aV, .int 16, .int 0, .int y0] : List Value).toArray s = true := fun w h => hts w (List.mem_cons_of_mem _ h)
  have hl : lv_has ls 5 [(0, .ref aV), (1, .int 16), (2, .int 0), (3, .int y0)] := hl
  have z0 := t_0
  have z16 := t_16
  refine lv_iconst (v := 0) hx hb dX12_move_0 (by decide +kernel) ?_
  refine lv_istore (lv' := [(4, .int 0), (0, .ref aV), (1, .int 16), (2, .int 0), (3, .int y0)]) hx hb dX12_move_1 hl (by decide) rfl (fun ls hl => ?_)
  have LP4 : ∀ (n3 k2 : Nat), k2 + n3 = 16 → ∀ (g1 : Nat → Int32) (H : Heap) (locs : List Loc) (ls : Array Slot), va_P D vwCl [(aV, .inl (cI, 64, .inl g1))] H → va_D A [(aV, .inl (cI, 64, .inl g1))] → va_S A s.heap H locs → lv_has ls 5 [(4, .int (nI k2)), (0, .ref aV), (1, .int 16), (2, .int 0), (3, .int y0)] → W p l e ({ frames := 0, cells := 0, slots := 0, locals := 0 } : Room) s m ([.ref aV, .int 16, .int 0, .int y0] : List Value).toArray below meth c H locs 0 0 (MQ below (gQv D (fun (u : Unit) => True) (fun (u : Unit) => [] : (Unit) → va_W) A) ([.ref aV, .int 16, .int 0, .int y0] : List Value).toArray s 0 0 A) (F0 m 3 ls []) := by
    intro n3
    induction n3 with
    | zero =>
      intro k2 hk g1 H locs ls hP hD hS hl
      obtain rfl : k2 = 16 := by omega
      have hl : lv_has ls 5 [(4, .int 16), (0, .ref aV), (1, .int 16), (2, .int 0), (3, .int y0)] := hl
      refine lv_iload hx hb dX12_move_3 (lv_at hl 0 rfl) ?_
      refine lv_iload_n hx hb dX12_move_5 rfl (lv_at hl 2 rfl) ?_
      refine lv_icmp_ge (tgt := 31) hx hb dX12_move_6 (by decide) (fun _ => ?_) (fun c9 => absurd c9 (by decide +kernel))
      exact g_vret () hF hr hlocks (hP.sub [] rfl) (hD.sub [] rfl rfl) hS trivial dX12_move_31 (Nat.le_of_ble_eq_true rfl) (Nat.le_of_ble_eq_true rfl)
    | succ n3 ih =>
      intro k2 hk g1 H locs ls hP hD hS hl
      have hk2 : k2 < 16 := by omega
      have ikk2 : (nI k2).toInt = k2 := nI_toInt (by omega)
      refine lv_iload hx hb dX12_move_3 (lv_at hl 0 rfl) ?_
      refine lv_iload_n hx hb dX12_move_5 rfl (lv_at hl 2 rfl) ?_
      refine lv_icmp_ge (tgt := 31) hx hb dX12_move_6 (by decide) (fun c9 => absurd (i_le.mp c9) (by omega)) (fun _ => ?_)
      refine lv_aload_n hx hb dX12_move_9 rfl (lv_at hl 1 rfl) ?_
      refine lv_iload_n hx hb dX12_move_10 rfl (lv_at hl 2 rfl) ?_
      refine lv_iload_n hx hb dX12_move_11 rfl (lv_at hl 4 rfl) ?_
      refine lv_imul hx hb dX12_move_12 ?_
      refine lv_topi (fun v5 ev5 => ?_)
      have iv5 : v5.toInt = 16 * y0.toInt := by
        have h := fb_mulI (x := 16) (y := y0) (by rw [t_16]; omega) (by rw [t_16]; omega)
        rw [t_16] at h; rw [ev5]; exact h
      refine lv_iload hx hb dX12_move_13 (lv_at hl 0 rfl) ?_
      refine lv_iadd hx hb dX12_move_15 ?_
      refine lv_topi (fun v6 ev6 => ?_)
      have iv6 : v6.toInt = (v5 : Int32).toInt + ((nI k2) : Int32).toInt := by rw [ev6]; exact fb_addI (by omega) (by omega)
      refine lv_aload_n hx hb dX12_move_16 rfl (lv_at hl 1 rfl) ?_
      refine lv_iload_n hx hb dX12_move_17 rfl (lv_at hl 2 rfl) ?_
      refine lv_iload_n hx hb dX12_move_18 rfl (lv_at hl 3 rfl) ?_
      refine lv_imul hx hb dX12_move_19 ?_
      refine g_top 0 (by decide +kernel) ?_
      refine lv_iload hx hb dX12_move_20 (lv_at hl 0 rfl) ?_
      refine lv_iadd hx hb dX12_move_22 ?_
      refine lv_topi (fun v7 ev7 => ?_)
      have iv7 : v7.toInt = (0 : Int32).toInt + ((nI k2) : Int32).toInt := by rw [ev7]; exact fb_addI (by omega) (by omega)
      refine va_iald hx hb hE.1 hP 0 0 rfl rfl (vp_in_iff.mpr ⟨by omega, by omega⟩) dX12_move_23 ?_
      refine lv_topi (fun v8 ev8 => ?_)
      refine va_iast hx hb hE.1 hP hD hS 0 0 rfl rfl (vp_in_iff.mpr ⟨by omega, by omega⟩) dX12_move_24 (fun H locs hP hD hS => ?_)
      obtain ⟨g9, eg9⟩ : ∃ gz : Nat → Int32, gz = upd g1 (v6 : Int32).toNatClampNeg v8 := ⟨_, rfl⟩
      have hP : va_P D vwCl [(aV, .inl (cI, 64, .inl g9))] H := by rw [eg9]; exact hP
      have hD : va_D A [(aV, .inl (cI, 64, .inl g9))] := by rw [eg9]; exact hD
      refine lv_iinc (v := (nI (k2 + 1))) (lv' := [(4, .int (nI (k2 + 1))), (0, .ref aV), (1, .int 16), (2, .int 0), (3, .int y0)]) hx hb dX12_move_25 hl (k := 0) rfl (show nI k2 + Int32.ofInt 1 = nI (k2 + 1) from nI_1 k2) (by decide) rfl (fun ls hl => ?_)
      refine lv_goto (tgt := 3) hx hb dX12_move_28 (by decide) ?_
      exact ih (k2 + 1) (by omega) _ _ _ _ (hP.sub [0] rfl) (hD.sub [0] rfl rfl) hS (lv_sub hl [0, 1, 2, 3, 4] rfl)
  exact LP4 16 0 rfl g _ _ _ hP hD hS (lv_sub hl [0, 1, 2, 3, 4] rfl)
set_option maxHeartbeats 8000000 in
set_option maxRecDepth 100000 in
theorem c_X12_move_24 {l : Launch} {D : va_G} {cI cB cS cZ cW : ClassId} {aV : Nat} {y0 : Int32} {g : Nat → Int32} (hy0 : 1 ≤ y0.toInt ∧ y0.toInt ≤ 3) {sz : Nat} : MV l D (gT cI cB cS cZ cW) yX12_move (wG yX12_move cX12_move 5 none) { frames := 0, cells := 0, slots := 0, locals := 0 } [.ref aV, .int 24, .int 0, .int y0] [(aV, .inl (cI, 96, .inl g))] sz (fun (u : Unit) => True) (fun (u : Unit) => [] : (Unit) → va_W) 0 0 := by
  refine g_enter (y := yX12_move) (w := (wG yX12_move cX12_move 5 none)) (As := [.ref aV, .int 24, .int 0, .int y0]) (D := D) (T := gT cI cB cS cZ cW) (ws := [(aV, .inl (cI, 96, .inl g))]) (gQv D (fun (u : Unit) => True) (fun (u : Unit) => [] : (Unit) → va_W)) (cc := cX12_move) (maxL := 5) (ret := none) (by decide) rfl (Nat.le_of_ble_eq_true rfl) ?_
  intro p e s m below meth c A ls hF hr hlocks hname hsz hE hA hP hD hS hl
  have hF : CallFix p m c cX12_move 5 s ([.ref aV, .int 24, .int 0, .int y0] : List Value).toArray (wG yX12_move cX12_move 5 none) RX12 := hF
  obtain ⟨hx, hb, hml, hown, hts⟩ := id hF
  have htg : ∀ w ∈ GL, w.before ([.ref aV, .int 24, .int 0, .int y0] : List Value).toArray s = true := fun w h => hts w (List.mem_cons_of_mem _ h)
  have hl : lv_has ls 5 [(0, .ref aV), (1, .int 24), (2, .int 0), (3, .int y0)] := hl
  have z0 := t_0
  have z24 := t_24
  refine lv_iconst (v := 0) hx hb dX12_move_0 (by decide +kernel) ?_
  refine lv_istore (lv' := [(4, .int 0), (0, .ref aV), (1, .int 24), (2, .int 0), (3, .int y0)]) hx hb dX12_move_1 hl (by decide) rfl (fun ls hl => ?_)
  have LP4 : ∀ (n3 k2 : Nat), k2 + n3 = 24 → ∀ (g1 : Nat → Int32) (H : Heap) (locs : List Loc) (ls : Array Slot), va_P D vwCl [(aV, .inl (cI, 96, .inl g1))] H → va_D A [(aV, .inl (cI, 96, .inl g1))] → va_S A s.heap H locs → lv_has ls 5 [(4, .int (nI k2)), (0, .ref aV), (1, .int 24), (2, .int 0), (3, .int y0)] → W p l e ({ frames := 0, cells := 0, slots := 0, locals := 0 } : Room) s m ([.ref aV, .int 24, .int 0, .int y0] : List Value).toArray below meth c H locs 0 0 (MQ below (gQv D (fun (u : Unit) => True) (fun (u : Unit) => [] : (Unit) → va_W) A) ([.ref aV, .int 24, .int 0, .int y0] : List Value).toArray s 0 0 A) (F0 m 3 ls []) := by
    intro n3
    induction n3 with
    | zero =>
      intro k2 hk g1 H locs ls hP hD hS hl
      obtain rfl : k2 = 24 := by omega
      have hl : lv_has ls 5 [(4, .int 24), (0, .ref aV), (1, .int 24), (2, .int 0), (3, .int y0)] := hl
      refine lv_iload hx hb dX12_move_3 (lv_at hl 0 rfl) ?_
      refine lv_iload_n hx hb dX12_move_5 rfl (lv_at hl 2 rfl) ?_
      refine lv_icmp_ge (tgt := 31) hx hb dX12_move_6 (by decide) (fun _ => ?_) (fun c9 => absurd c9 (by decide +kernel))
      exact g_vret () hF hr hlocks (hP.sub [] rfl) (hD.sub [] rfl rfl) hS trivial dX12_move_31 (Nat.le_of_ble_eq_true rfl) (Nat.le_of_ble_eq_true rfl)
    | succ n3 ih =>
      intro k2 hk g1 H locs ls hP hD hS hl
      have hk2 : k2 < 24 := by omega
      have ikk2 : (nI k2).toInt = k2 := nI_toInt (by omega)
      refine lv_iload hx hb dX12_move_3 (lv_at hl 0 rfl) ?_
      refine lv_iload_n hx hb dX12_move_5 rfl (lv_at hl 2 rfl) ?_
      refine lv_icmp_ge (tgt := 31) hx hb dX12_move_6 (by decide) (fun c9 => absurd (i_le.mp c9) (by omega)) (fun _ => ?_)
      refine lv_aload_n hx hb dX12_move_9 rfl (lv_at hl 1 rfl) ?_
      refine lv_iload_n hx hb dX12_move_10 rfl (lv_at hl 2 rfl) ?_
      refine lv_iload_n hx hb dX12_move_11 rfl (lv_at hl 4 rfl) ?_
      refine lv_imul hx hb dX12_move_12 ?_
      refine lv_topi (fun v5 ev5 => ?_)
      have iv5 : v5.toInt = 24 * y0.toInt := by
        have h := fb_mulI (x := 24) (y := y0) (by rw [t_24]; omega) (by rw [t_24]; omega)
        rw [t_24] at h; rw [ev5]; exact h
      refine lv_iload hx hb dX12_move_13 (lv_at hl 0 rfl) ?_
      refine lv_iadd hx hb dX12_move_15 ?_
      refine lv_topi (fun v6 ev6 => ?_)
      have iv6 : v6.toInt = (v5 : Int32).toInt + ((nI k2) : Int32).toInt := by rw [ev6]; exact fb_addI (by omega) (by omega)
      refine lv_aload_n hx hb dX12_move_16 rfl (lv_at hl 1 rfl) ?_
      refine lv_iload_n hx hb dX12_move_17 rfl (lv_at hl 2 rfl) ?_
      refine lv_iload_n hx hb dX12_move_18 rfl (lv_at hl 3 rfl) ?_
      refine lv_imul hx hb dX12_move_19 ?_
      refine g_top 0 (by decide +kernel) ?_
      refine lv_iload hx hb dX12_move_20 (lv_at hl 0 rfl) ?_
      refine lv_iadd hx hb dX12_move_22 ?_
      refine lv_topi (fun v7 ev7 => ?_)
      have iv7 : v7.toInt = (0 : Int32).toInt + ((nI k2) : Int32).toInt := by rw [ev7]; exact fb_addI (by omega) (by omega)
      refine va_iald hx hb hE.1 hP 0 0 rfl rfl (vp_in_iff.mpr ⟨by omega, by omega⟩) dX12_move_23 ?_
      refine lv_topi (fun v8 ev8 => ?_)
      refine va_iast hx hb hE.1 hP hD hS 0 0 rfl rfl (vp_in_iff.mpr ⟨by omega, by omega⟩) dX12_move_24 (fun H locs hP hD hS => ?_)
      obtain ⟨g9, eg9⟩ : ∃ gz : Nat → Int32, gz = upd g1 (v6 : Int32).toNatClampNeg v8 := ⟨_, rfl⟩
      have hP : va_P D vwCl [(aV, .inl (cI, 96, .inl g9))] H := by rw [eg9]; exact hP
      have hD : va_D A [(aV, .inl (cI, 96, .inl g9))] := by rw [eg9]; exact hD
      refine lv_iinc (v := (nI (k2 + 1))) (lv' := [(4, .int (nI (k2 + 1))), (0, .ref aV), (1, .int 24), (2, .int 0), (3, .int y0)]) hx hb dX12_move_25 hl (k := 0) rfl (show nI k2 + Int32.ofInt 1 = nI (k2 + 1) from nI_1 k2) (by decide) rfl (fun ls hl => ?_)
      refine lv_goto (tgt := 3) hx hb dX12_move_28 (by decide) ?_
      exact ih (k2 + 1) (by omega) _ _ _ _ (hP.sub [0] rfl) (hD.sub [0] rfl rfl) hS (lv_sub hl [0, 1, 2, 3, 4] rfl)
  exact LP4 24 0 rfl g _ _ _ hP hD hS (lv_sub hl [0, 1, 2, 3, 4] rfl)
set_option maxHeartbeats 8000000 in
set_option maxRecDepth 100000 in
theorem c_X12_move_32 {l : Launch} {D : va_G} {cI cB cS cZ cW : ClassId} {aV : Nat} {y0 : Int32} {g : Nat → Int32} (hy0 : 1 ≤ y0.toInt ∧ y0.toInt ≤ 3) {sz : Nat} : MV l D (gT cI cB cS cZ cW) yX12_move (wG yX12_move cX12_move 5 none) { frames := 0, cells := 0, slots := 0, locals := 0 } [.ref aV, .int 32, .int 0, .int y0] [(aV, .inl (cI, 128, .inl g))] sz (fun (u : Unit) => True) (fun (u : Unit) => [] : (Unit) → va_W) 0 0 := by
  refine g_enter (y := yX12_move) (w := (wG yX12_move cX12_move 5 none)) (As := [.ref aV, .int 32, .int 0, .int y0]) (D := D) (T := gT cI cB cS cZ cW) (ws := [(aV, .inl (cI, 128, .inl g))]) (gQv D (fun (u : Unit) => True) (fun (u : Unit) => [] : (Unit) → va_W)) (cc := cX12_move) (maxL := 5) (ret := none) (by decide) rfl (Nat.le_of_ble_eq_true rfl) ?_
  intro p e s m below meth c A ls hF hr hlocks hname hsz hE hA hP hD hS hl
  have hF : CallFix p m c cX12_move 5 s ([.ref aV, .int 32, .int 0, .int y0] : List Value).toArray (wG yX12_move cX12_move 5 none) RX12 := hF
  obtain ⟨hx, hb, hml, hown, hts⟩ := id hF
  have htg : ∀ w ∈ GL, w.before ([.ref aV, .int 32, .int 0, .int y0] : List Value).toArray s = true := fun w h => hts w (List.mem_cons_of_mem _ h)
  have hl : lv_has ls 5 [(0, .ref aV), (1, .int 32), (2, .int 0), (3, .int y0)] := hl
  have z0 := t_0
  have z32 := t_32
  refine lv_iconst (v := 0) hx hb dX12_move_0 (by decide +kernel) ?_
  refine lv_istore (lv' := [(4, .int 0), (0, .ref aV), (1, .int 32), (2, .int 0), (3, .int y0)]) hx hb dX12_move_1 hl (by decide) rfl (fun ls hl => ?_)
  have LP4 : ∀ (n3 k2 : Nat), k2 + n3 = 32 → ∀ (g1 : Nat → Int32) (H : Heap) (locs : List Loc) (ls : Array Slot), va_P D vwCl [(aV, .inl (cI, 128, .inl g1))] H → va_D A [(aV, .inl (cI, 128, .inl g1))] → va_S A s.heap H locs → lv_has ls 5 [(4, .int (nI k2)), (0, .ref aV), (1, .int 32), (2, .int 0), (3, .int y0)] → W p l e ({ frames := 0, cells := 0, slots := 0, locals := 0 } : Room) s m ([.ref aV, .int 32, .int 0, .int y0] : List Value).toArray below meth c H locs 0 0 (MQ below (gQv D (fun (u : Unit) => True) (fun (u : Unit) => [] : (Unit) → va_W) A) ([.ref aV, .int 32, .int 0, .int y0] : List Value).toArray s 0 0 A) (F0 m 3 ls []) := by
    intro n3
    induction n3 with
    | zero =>
      intro k2 hk g1 H locs ls hP hD hS hl
      obtain rfl : k2 = 32 := by omega
      have hl : lv_has ls 5 [(4, .int 32), (0, .ref aV), (1, .int 32), (2, .int 0), (3, .int y0)] := hl
      refine lv_iload hx hb dX12_move_3 (lv_at hl 0 rfl) ?_
      refine lv_iload_n hx hb dX12_move_5 rfl (lv_at hl 2 rfl) ?_
      refine lv_icmp_ge (tgt := 31) hx hb dX12_move_6 (by decide) (fun _ => ?_) (fun c9 => absurd c9 (by decide +kernel))
      exact g_vret () hF hr hlocks (hP.sub [] rfl) (hD.sub [] rfl rfl) hS trivial dX12_move_31 (Nat.le_of_ble_eq_true rfl) (Nat.le_of_ble_eq_true rfl)
    | succ n3 ih =>
      intro k2 hk g1 H locs ls hP hD hS hl
      have hk2 : k2 < 32 := by omega
      have ikk2 : (nI k2).toInt = k2 := nI_toInt (by omega)
      refine lv_iload hx hb dX12_move_3 (lv_at hl 0 rfl) ?_
      refine lv_iload_n hx hb dX12_move_5 rfl (lv_at hl 2 rfl) ?_
      refine lv_icmp_ge (tgt := 31) hx hb dX12_move_6 (by decide) (fun c9 => absurd (i_le.mp c9) (by omega)) (fun _ => ?_)
      refine lv_aload_n hx hb dX12_move_9 rfl (lv_at hl 1 rfl) ?_
      refine lv_iload_n hx hb dX12_move_10 rfl (lv_at hl 2 rfl) ?_
      refine lv_iload_n hx hb dX12_move_11 rfl (lv_at hl 4 rfl) ?_
      refine lv_imul hx hb dX12_move_12 ?_
      refine lv_topi (fun v5 ev5 => ?_)
      have iv5 : v5.toInt = 32 * y0.toInt := by
        have h := fb_mulI (x := 32) (y := y0) (by rw [t_32]; omega) (by rw [t_32]; omega)
        rw [t_32] at h; rw [ev5]; exact h
      refine lv_iload hx hb dX12_move_13 (lv_at hl 0 rfl) ?_
      refine lv_iadd hx hb dX12_move_15 ?_
      refine lv_topi (fun v6 ev6 => ?_)
      have iv6 : v6.toInt = (v5 : Int32).toInt + ((nI k2) : Int32).toInt := by rw [ev6]; exact fb_addI (by omega) (by omega)
      refine lv_aload_n hx hb dX12_move_16 rfl (lv_at hl 1 rfl) ?_
      refine lv_iload_n hx hb dX12_move_17 rfl (lv_at hl 2 rfl) ?_
      refine lv_iload_n hx hb dX12_move_18 rfl (lv_at hl 3 rfl) ?_
      refine lv_imul hx hb dX12_move_19 ?_
      refine g_top 0 (by decide +kernel) ?_
      refine lv_iload hx hb dX12_move_20 (lv_at hl 0 rfl) ?_
      refine lv_iadd hx hb dX12_move_22 ?_
      refine lv_topi (fun v7 ev7 => ?_)
      have iv7 : v7.toInt = (0 : Int32).toInt + ((nI k2) : Int32).toInt := by rw [ev7]; exact fb_addI (by omega) (by omega)
      refine va_iald hx hb hE.1 hP 0 0 rfl rfl (vp_in_iff.mpr ⟨by omega, by omega⟩) dX12_move_23 ?_
      refine lv_topi (fun v8 ev8 => ?_)
      refine va_iast hx hb hE.1 hP hD hS 0 0 rfl rfl (vp_in_iff.mpr ⟨by omega, by omega⟩) dX12_move_24 (fun H locs hP hD hS => ?_)
      obtain ⟨g9, eg9⟩ : ∃ gz : Nat → Int32, gz = upd g1 (v6 : Int32).toNatClampNeg v8 := ⟨_, rfl⟩
      have hP : va_P D vwCl [(aV, .inl (cI, 128, .inl g9))] H := by rw [eg9]; exact hP
      have hD : va_D A [(aV, .inl (cI, 128, .inl g9))] := by rw [eg9]; exact hD
      refine lv_iinc (v := (nI (k2 + 1))) (lv' := [(4, .int (nI (k2 + 1))), (0, .ref aV), (1, .int 32), (2, .int 0), (3, .int y0)]) hx hb dX12_move_25 hl (k := 0) rfl (show nI k2 + Int32.ofInt 1 = nI (k2 + 1) from nI_1 k2) (by decide) rfl (fun ls hl => ?_)
      refine lv_goto (tgt := 3) hx hb dX12_move_28 (by decide) ?_
      exact ih (k2 + 1) (by omega) _ _ _ _ (hP.sub [0] rfl) (hD.sub [0] rfl rfl) hS (lv_sub hl [0, 1, 2, 3, 4] rfl)
  exact LP4 32 0 rfl g _ _ _ hP hD hS (lv_sub hl [0, 1, 2, 3, 4] rfl)
set_option maxHeartbeats 8000000 in
set_option maxRecDepth 100000 in
theorem c_X12_move_36 {l : Launch} {D : va_G} {cI cB cS cZ cW : ClassId} {aV : Nat} {y0 : Int32} {g : Nat → Int32} (hy0 : 1 ≤ y0.toInt ∧ y0.toInt ≤ 3) {sz : Nat} : MV l D (gT cI cB cS cZ cW) yX12_move (wG yX12_move cX12_move 5 none) { frames := 0, cells := 0, slots := 0, locals := 0 } [.ref aV, .int 36, .int 0, .int y0] [(aV, .inl (cI, 144, .inl g))] sz (fun (u : Unit) => True) (fun (u : Unit) => [] : (Unit) → va_W) 0 0 := by
  refine g_enter (y := yX12_move) (w := (wG yX12_move cX12_move 5 none)) (As := [.ref aV, .int 36, .int 0, .int y0]) (D := D) (T := gT cI cB cS cZ cW) (ws := [(aV, .inl (cI, 144, .inl g))]) (gQv D (fun (u : Unit) => True) (fun (u : Unit) => [] : (Unit) → va_W)) (cc := cX12_move) (maxL := 5) (ret := none) (by decide) rfl (Nat.le_of_ble_eq_true rfl) ?_
  intro p e s m below meth c A ls hF hr hlocks hname hsz hE hA hP hD hS hl
  have hF : CallFix p m c cX12_move 5 s ([.ref aV, .int 36, .int 0, .int y0] : List Value).toArray (wG yX12_move cX12_move 5 none) RX12 := hF
  obtain ⟨hx, hb, hml, hown, hts⟩ := id hF
  have htg : ∀ w ∈ GL, w.before ([.ref aV, .int 36, .int 0, .int y0] : List Value).toArray s = true := fun w h => hts w (List.mem_cons_of_mem _ h)
  have hl : lv_has ls 5 [(0, .ref aV), (1, .int 36), (2, .int 0), (3, .int y0)] := hl
  have z0 := t_0
  have z36 := t_36
  refine lv_iconst (v := 0) hx hb dX12_move_0 (by decide +kernel) ?_
  refine lv_istore (lv' := [(4, .int 0), (0, .ref aV), (1, .int 36), (2, .int 0), (3, .int y0)]) hx hb dX12_move_1 hl (by decide) rfl (fun ls hl => ?_)
  have LP4 : ∀ (n3 k2 : Nat), k2 + n3 = 36 → ∀ (g1 : Nat → Int32) (H : Heap) (locs : List Loc) (ls : Array Slot), va_P D vwCl [(aV, .inl (cI, 144, .inl g1))] H → va_D A [(aV, .inl (cI, 144, .inl g1))] → va_S A s.heap H locs → lv_has ls 5 [(4, .int (nI k2)), (0, .ref aV), (1, .int 36), (2, .int 0), (3, .int y0)] → W p l e ({ frames := 0, cells := 0, slots := 0, locals := 0 } : Room) s m ([.ref aV, .int 36, .int 0, .int y0] : List Value).toArray below meth c H locs 0 0 (MQ below (gQv D (fun (u : Unit) => True) (fun (u : Unit) => [] : (Unit) → va_W) A) ([.ref aV, .int 36, .int 0, .int y0] : List Value).toArray s 0 0 A) (F0 m 3 ls []) := by
    intro n3
    induction n3 with
    | zero =>
      intro k2 hk g1 H locs ls hP hD hS hl
      obtain rfl : k2 = 36 := by omega
      have hl : lv_has ls 5 [(4, .int 36), (0, .ref aV), (1, .int 36), (2, .int 0), (3, .int y0)] := hl
      refine lv_iload hx hb dX12_move_3 (lv_at hl 0 rfl) ?_
      refine lv_iload_n hx hb dX12_move_5 rfl (lv_at hl 2 rfl) ?_
      refine lv_icmp_ge (tgt := 31) hx hb dX12_move_6 (by decide) (fun _ => ?_) (fun c9 => absurd c9 (by decide +kernel))
      exact g_vret () hF hr hlocks (hP.sub [] rfl) (hD.sub [] rfl rfl) hS trivial dX12_move_31 (Nat.le_of_ble_eq_true rfl) (Nat.le_of_ble_eq_true rfl)
    | succ n3 ih =>
      intro k2 hk g1 H locs ls hP hD hS hl
      have hk2 : k2 < 36 := by omega
      have ikk2 : (nI k2).toInt = k2 := nI_toInt (by omega)
      refine lv_iload hx hb dX12_move_3 (lv_at hl 0 rfl) ?_
      refine lv_iload_n hx hb dX12_move_5 rfl (lv_at hl 2 rfl) ?_
      refine lv_icmp_ge (tgt := 31) hx hb dX12_move_6 (by decide) (fun c9 => absurd (i_le.mp c9) (by omega)) (fun _ => ?_)
      refine lv_aload_n hx hb dX12_move_9 rfl (lv_at hl 1 rfl) ?_
      refine lv_iload_n hx hb dX12_move_10 rfl (lv_at hl 2 rfl) ?_
      refine lv_iload_n hx hb dX12_move_11 rfl (lv_at hl 4 rfl) ?_
      refine lv_imul hx hb dX12_move_12 ?_
      refine lv_topi (fun v5 ev5 => ?_)
      have iv5 : v5.toInt = 36 * y0.toInt := by
        have h := fb_mulI (x := 36) (y := y0) (by rw [t_36]; omega) (by rw [t_36]; omega)
        rw [t_36] at h; rw [ev5]; exact h
      refine lv_iload hx hb dX12_move_13 (lv_at hl 0 rfl) ?_
      refine lv_iadd hx hb dX12_move_15 ?_
      refine lv_topi (fun v6 ev6 => ?_)
      have iv6 : v6.toInt = (v5 : Int32).toInt + ((nI k2) : Int32).toInt := by rw [ev6]; exact fb_addI (by omega) (by omega)
      refine lv_aload_n hx hb dX12_move_16 rfl (lv_at hl 1 rfl) ?_
      refine lv_iload_n hx hb dX12_move_17 rfl (lv_at hl 2 rfl) ?_
      refine lv_iload_n hx hb dX12_move_18 rfl (lv_at hl 3 rfl) ?_
      refine lv_imul hx hb dX12_move_19 ?_
      refine g_top 0 (by decide +kernel) ?_
      refine lv_iload hx hb dX12_move_20 (lv_at hl 0 rfl) ?_
      refine lv_iadd hx hb dX12_move_22 ?_
      refine lv_topi (fun v7 ev7 => ?_)
      have iv7 : v7.toInt = (0 : Int32).toInt + ((nI k2) : Int32).toInt := by rw [ev7]; exact fb_addI (by omega) (by omega)
      refine va_iald hx hb hE.1 hP 0 0 rfl rfl (vp_in_iff.mpr ⟨by omega, by omega⟩) dX12_move_23 ?_
      refine lv_topi (fun v8 ev8 => ?_)
      refine va_iast hx hb hE.1 hP hD hS 0 0 rfl rfl (vp_in_iff.mpr ⟨by omega, by omega⟩) dX12_move_24 (fun H locs hP hD hS => ?_)
      obtain ⟨g9, eg9⟩ : ∃ gz : Nat → Int32, gz = upd g1 (v6 : Int32).toNatClampNeg v8 := ⟨_, rfl⟩
      have hP : va_P D vwCl [(aV, .inl (cI, 144, .inl g9))] H := by rw [eg9]; exact hP
      have hD : va_D A [(aV, .inl (cI, 144, .inl g9))] := by rw [eg9]; exact hD
      refine lv_iinc (v := (nI (k2 + 1))) (lv' := [(4, .int (nI (k2 + 1))), (0, .ref aV), (1, .int 36), (2, .int 0), (3, .int y0)]) hx hb dX12_move_25 hl (k := 0) rfl (show nI k2 + Int32.ofInt 1 = nI (k2 + 1) from nI_1 k2) (by decide) rfl (fun ls hl => ?_)
      refine lv_goto (tgt := 3) hx hb dX12_move_28 (by decide) ?_
      exact ih (k2 + 1) (by omega) _ _ _ _ (hP.sub [0] rfl) (hD.sub [0] rfl rfl) hS (lv_sub hl [0, 1, 2, 3, 4] rfl)
  exact LP4 36 0 rfl g _ _ _ hP hD hS (lv_sub hl [0, 1, 2, 3, 4] rfl)
set_option maxHeartbeats 8000000 in
set_option maxRecDepth 100000 in
theorem c_X12_move_40 {l : Launch} {D : va_G} {cI cB cS cZ cW : ClassId} {aV : Nat} {y0 : Int32} {g : Nat → Int32} (hy0 : 1 ≤ y0.toInt ∧ y0.toInt ≤ 3) {sz : Nat} : MV l D (gT cI cB cS cZ cW) yX12_move (wG yX12_move cX12_move 5 none) { frames := 0, cells := 0, slots := 0, locals := 0 } [.ref aV, .int 40, .int 0, .int y0] [(aV, .inl (cI, 160, .inl g))] sz (fun (u : Unit) => True) (fun (u : Unit) => [] : (Unit) → va_W) 0 0 := by
  refine g_enter (y := yX12_move) (w := (wG yX12_move cX12_move 5 none)) (As := [.ref aV, .int 40, .int 0, .int y0]) (D := D) (T := gT cI cB cS cZ cW) (ws := [(aV, .inl (cI, 160, .inl g))]) (gQv D (fun (u : Unit) => True) (fun (u : Unit) => [] : (Unit) → va_W)) (cc := cX12_move) (maxL := 5) (ret := none) (by decide) rfl (Nat.le_of_ble_eq_true rfl) ?_
  intro p e s m below meth c A ls hF hr hlocks hname hsz hE hA hP hD hS hl
  have hF : CallFix p m c cX12_move 5 s ([.ref aV, .int 40, .int 0, .int y0] : List Value).toArray (wG yX12_move cX12_move 5 none) RX12 := hF
  obtain ⟨hx, hb, hml, hown, hts⟩ := id hF
  have htg : ∀ w ∈ GL, w.before ([.ref aV, .int 40, .int 0, .int y0] : List Value).toArray s = true := fun w h => hts w (List.mem_cons_of_mem _ h)
  have hl : lv_has ls 5 [(0, .ref aV), (1, .int 40), (2, .int 0), (3, .int y0)] := hl
  have z0 := t_0
  have z40 := t_40
  refine lv_iconst (v := 0) hx hb dX12_move_0 (by decide +kernel) ?_
  refine lv_istore (lv' := [(4, .int 0), (0, .ref aV), (1, .int 40), (2, .int 0), (3, .int y0)]) hx hb dX12_move_1 hl (by decide) rfl (fun ls hl => ?_)
  have LP4 : ∀ (n3 k2 : Nat), k2 + n3 = 40 → ∀ (g1 : Nat → Int32) (H : Heap) (locs : List Loc) (ls : Array Slot), va_P D vwCl [(aV, .inl (cI, 160, .inl g1))] H → va_D A [(aV, .inl (cI, 160, .inl g1))] → va_S A s.heap H locs → lv_has ls 5 [(4, .int (nI k2)), (0, .ref aV), (1, .int 40), (2, .int 0), (3, .int y0)] → W p l e ({ frames := 0, cells := 0, slots := 0, locals := 0 } : Room) s m ([.ref aV, .int 40, .int 0, .int y0] : List Value).toArray below meth c H locs 0 0 (MQ below (gQv D (fun (u : Unit) => True) (fun (u : Unit) => [] : (Unit) → va_W) A) ([.ref aV, .int 40, .int 0, .int y0] : List Value).toArray s 0 0 A) (F0 m 3 ls []) := by
    intro n3
    induction n3 with
    | zero =>
      intro k2 hk g1 H locs ls hP hD hS hl
      obtain rfl : k2 = 40 := by omega
      have hl : lv_has ls 5 [(4, .int 40), (0, .ref aV), (1, .int 40), (2, .int 0), (3, .int y0)] := hl
      refine lv_iload hx hb dX12_move_3 (lv_at hl 0 rfl) ?_
      refine lv_iload_n hx hb dX12_move_5 rfl (lv_at hl 2 rfl) ?_
      refine lv_icmp_ge (tgt := 31) hx hb dX12_move_6 (by decide) (fun _ => ?_) (fun c9 => absurd c9 (by decide +kernel))
      exact g_vret () hF hr hlocks (hP.sub [] rfl) (hD.sub [] rfl rfl) hS trivial dX12_move_31 (Nat.le_of_ble_eq_true rfl) (Nat.le_of_ble_eq_true rfl)
    | succ n3 ih =>
      intro k2 hk g1 H locs ls hP hD hS hl
      have hk2 : k2 < 40 := by omega
      have ikk2 : (nI k2).toInt = k2 := nI_toInt (by omega)
      refine lv_iload hx hb dX12_move_3 (lv_at hl 0 rfl) ?_
      refine lv_iload_n hx hb dX12_move_5 rfl (lv_at hl 2 rfl) ?_
      refine lv_icmp_ge (tgt := 31) hx hb dX12_move_6 (by decide) (fun c9 => absurd (i_le.mp c9) (by omega)) (fun _ => ?_)
      refine lv_aload_n hx hb dX12_move_9 rfl (lv_at hl 1 rfl) ?_
      refine lv_iload_n hx hb dX12_move_10 rfl (lv_at hl 2 rfl) ?_
      refine lv_iload_n hx hb dX12_move_11 rfl (lv_at hl 4 rfl) ?_
      refine lv_imul hx hb dX12_move_12 ?_
      refine lv_topi (fun v5 ev5 => ?_)
      have iv5 : v5.toInt = 40 * y0.toInt := by
        have h := fb_mulI (x := 40) (y := y0) (by rw [t_40]; omega) (by rw [t_40]; omega)
        rw [t_40] at h; rw [ev5]; exact h
      refine lv_iload hx hb dX12_move_13 (lv_at hl 0 rfl) ?_
      refine lv_iadd hx hb dX12_move_15 ?_
      refine lv_topi (fun v6 ev6 => ?_)
      have iv6 : v6.toInt = (v5 : Int32).toInt + ((nI k2) : Int32).toInt := by rw [ev6]; exact fb_addI (by omega) (by omega)
      refine lv_aload_n hx hb dX12_move_16 rfl (lv_at hl 1 rfl) ?_
      refine lv_iload_n hx hb dX12_move_17 rfl (lv_at hl 2 rfl) ?_
      refine lv_iload_n hx hb dX12_move_18 rfl (lv_at hl 3 rfl) ?_
      refine lv_imul hx hb dX12_move_19 ?_
      refine g_top 0 (by decide +kernel) ?_
      refine lv_iload hx hb dX12_move_20 (lv_at hl 0 rfl) ?_
      refine lv_iadd hx hb dX12_move_22 ?_
      refine lv_topi (fun v7 ev7 => ?_)
      have iv7 : v7.toInt = (0 : Int32).toInt + ((nI k2) : Int32).toInt := by rw [ev7]; exact fb_addI (by omega) (by omega)
      refine va_iald hx hb hE.1 hP 0 0 rfl rfl (vp_in_iff.mpr ⟨by omega, by omega⟩) dX12_move_23 ?_
      refine lv_topi (fun v8 ev8 => ?_)
      refine va_iast hx hb hE.1 hP hD hS 0 0 rfl rfl (vp_in_iff.mpr ⟨by omega, by omega⟩) dX12_move_24 (fun H locs hP hD hS => ?_)
      obtain ⟨g9, eg9⟩ : ∃ gz : Nat → Int32, gz = upd g1 (v6 : Int32).toNatClampNeg v8 := ⟨_, rfl⟩
      have hP : va_P D vwCl [(aV, .inl (cI, 160, .inl g9))] H := by rw [eg9]; exact hP
      have hD : va_D A [(aV, .inl (cI, 160, .inl g9))] := by rw [eg9]; exact hD
      refine lv_iinc (v := (nI (k2 + 1))) (lv' := [(4, .int (nI (k2 + 1))), (0, .ref aV), (1, .int 40), (2, .int 0), (3, .int y0)]) hx hb dX12_move_25 hl (k := 0) rfl (show nI k2 + Int32.ofInt 1 = nI (k2 + 1) from nI_1 k2) (by decide) rfl (fun ls hl => ?_)
      refine lv_goto (tgt := 3) hx hb dX12_move_28 (by decide) ?_
      exact ih (k2 + 1) (by omega) _ _ _ _ (hP.sub [0] rfl) (hD.sub [0] rfl rfl) hS (lv_sub hl [0, 1, 2, 3, 4] rfl)
  exact LP4 40 0 rfl g _ _ _ hP hD hS (lv_sub hl [0, 1, 2, 3, 4] rfl)
set_option maxHeartbeats 8000000 in
set_option maxRecDepth 100000 in
theorem c_X12_move_80 {l : Launch} {D : va_G} {cI cB cS cZ cW : ClassId} {aV : Nat} {y0 : Int32} {g : Nat → Int32} (hy0 : 1 ≤ y0.toInt ∧ y0.toInt ≤ 3) {sz : Nat} : MV l D (gT cI cB cS cZ cW) yX12_move (wG yX12_move cX12_move 5 none) { frames := 0, cells := 0, slots := 0, locals := 0 } [.ref aV, .int 80, .int 0, .int y0] [(aV, .inl (cI, 320, .inl g))] sz (fun (u : Unit) => True) (fun (u : Unit) => [] : (Unit) → va_W) 0 0 := by
  refine g_enter (y := yX12_move) (w := (wG yX12_move cX12_move 5 none)) (As := [.ref aV, .int 80, .int 0, .int y0]) (D := D) (T := gT cI cB cS cZ cW) (ws := [(aV, .inl (cI, 320, .inl g))]) (gQv D (fun (u : Unit) => True) (fun (u : Unit) => [] : (Unit) → va_W)) (cc := cX12_move) (maxL := 5) (ret := none) (by decide) rfl (Nat.le_of_ble_eq_true rfl) ?_
  intro p e s m below meth c A ls hF hr hlocks hname hsz hE hA hP hD hS hl
  have hF : CallFix p m c cX12_move 5 s ([.ref aV, .int 80, .int 0, .int y0] : List Value).toArray (wG yX12_move cX12_move 5 none) RX12 := hF
  obtain ⟨hx, hb, hml, hown, hts⟩ := id hF
  have htg : ∀ w ∈ GL, w.before ([.ref aV, .int 80, .int 0, .int y0] : List Value).toArray s = true := fun w h => hts w (List.mem_cons_of_mem _ h)
  have hl : lv_has ls 5 [(0, .ref aV), (1, .int 80), (2, .int 0), (3, .int y0)] := hl
  have z0 := t_0
  have z80 := t_80
  refine lv_iconst (v := 0) hx hb dX12_move_0 (by decide +kernel) ?_
  refine lv_istore (lv' := [(4, .int 0), (0, .ref aV), (1, .int 80), (2, .int 0), (3, .int y0)]) hx hb dX12_move_1 hl (by decide) rfl (fun ls hl => ?_)
  have LP4 : ∀ (n3 k2 : Nat), k2 + n3 = 80 → ∀ (g1 : Nat → Int32) (H : Heap) (locs : List Loc) (ls : Array Slot), va_P D vwCl [(aV, .inl (cI, 320, .inl g1))] H → va_D A [(aV, .inl (cI, 320, .inl g1))] → va_S A s.heap H locs → lv_has ls 5 [(4, .int (nI k2)), (0, .ref aV), (1, .int 80), (2, .int 0), (3, .int y0)] → W p l e ({ frames := 0, cells := 0, slots := 0, locals := 0 } : Room) s m ([.ref aV, .int 80, .int 0, .int y0] : List Value).toArray below meth c H locs 0 0 (MQ below (gQv D (fun (u : Unit) => True) (fun (u : Unit) => [] : (Unit) → va_W) A) ([.ref aV, .int 80, .int 0, .int y0] : List Value).toArray s 0 0 A) (F0 m 3 ls []) := by
    intro n3
    induction n3 with
    | zero =>
      intro k2 hk g1 H locs ls hP hD hS hl
      obtain rfl : k2 = 80 := by omega
      have hl : lv_has ls 5 [(4, .int 80), (0, .ref aV), (1, .int 80), (2, .int 0), (3, .int y0)] := hl
      refine lv_iload hx hb dX12_move_3 (lv_at hl 0 rfl) ?_
      refine lv_iload_n hx hb dX12_move_5 rfl (lv_at hl 2 rfl) ?_
      refine lv_icmp_ge (tgt := 31) hx hb dX12_move_6 (by decide) (fun _ => ?_) (fun c9 => absurd c9 (by decide +kernel))
      exact g_vret () hF hr hlocks (hP.sub [] rfl) (hD.sub [] rfl rfl) hS trivial dX12_move_31 (Nat.le_of_ble_eq_true rfl) (Nat.le_of_ble_eq_true rfl)
    | succ n3 ih =>
      intro k2 hk g1 H locs ls hP hD hS hl
      have hk2 : k2 < 80 := by omega
      have ikk2 : (nI k2).toInt = k2 := nI_toInt (by omega)
      refine lv_iload hx hb dX12_move_3 (lv_at hl 0 rfl) ?_
      refine lv_iload_n hx hb dX12_move_5 rfl (lv_at hl 2 rfl) ?_
      refine lv_icmp_ge (tgt := 31) hx hb dX12_move_6 (by decide) (fun c9 => absurd (i_le.mp c9) (by omega)) (fun _ => ?_)
      refine lv_aload_n hx hb dX12_move_9 rfl (lv_at hl 1 rfl) ?_
      refine lv_iload_n hx hb dX12_move_10 rfl (lv_at hl 2 rfl) ?_
      refine lv_iload_n hx hb dX12_move_11 rfl (lv_at hl 4 rfl) ?_
      refine lv_imul hx hb dX12_move_12 ?_
      refine lv_topi (fun v5 ev5 => ?_)
      have iv5 : v5.toInt = 80 * y0.toInt := by
        have h := fb_mulI (x := 80) (y := y0) (by rw [t_80]; omega) (by rw [t_80]; omega)
        rw [t_80] at h; rw [ev5]; exact h
      refine lv_iload hx hb dX12_move_13 (lv_at hl 0 rfl) ?_
      refine lv_iadd hx hb dX12_move_15 ?_
      refine lv_topi (fun v6 ev6 => ?_)
      have iv6 : v6.toInt = (v5 : Int32).toInt + ((nI k2) : Int32).toInt := by rw [ev6]; exact fb_addI (by omega) (by omega)
      refine lv_aload_n hx hb dX12_move_16 rfl (lv_at hl 1 rfl) ?_
      refine lv_iload_n hx hb dX12_move_17 rfl (lv_at hl 2 rfl) ?_
      refine lv_iload_n hx hb dX12_move_18 rfl (lv_at hl 3 rfl) ?_
      refine lv_imul hx hb dX12_move_19 ?_
      refine g_top 0 (by decide +kernel) ?_
      refine lv_iload hx hb dX12_move_20 (lv_at hl 0 rfl) ?_
      refine lv_iadd hx hb dX12_move_22 ?_
      refine lv_topi (fun v7 ev7 => ?_)
      have iv7 : v7.toInt = (0 : Int32).toInt + ((nI k2) : Int32).toInt := by rw [ev7]; exact fb_addI (by omega) (by omega)
      refine va_iald hx hb hE.1 hP 0 0 rfl rfl (vp_in_iff.mpr ⟨by omega, by omega⟩) dX12_move_23 ?_
      refine lv_topi (fun v8 ev8 => ?_)
      refine va_iast hx hb hE.1 hP hD hS 0 0 rfl rfl (vp_in_iff.mpr ⟨by omega, by omega⟩) dX12_move_24 (fun H locs hP hD hS => ?_)
      obtain ⟨g9, eg9⟩ : ∃ gz : Nat → Int32, gz = upd g1 (v6 : Int32).toNatClampNeg v8 := ⟨_, rfl⟩
      have hP : va_P D vwCl [(aV, .inl (cI, 320, .inl g9))] H := by rw [eg9]; exact hP
      have hD : va_D A [(aV, .inl (cI, 320, .inl g9))] := by rw [eg9]; exact hD
      refine lv_iinc (v := (nI (k2 + 1))) (lv' := [(4, .int (nI (k2 + 1))), (0, .ref aV), (1, .int 80), (2, .int 0), (3, .int y0)]) hx hb dX12_move_25 hl (k := 0) rfl (show nI k2 + Int32.ofInt 1 = nI (k2 + 1) from nI_1 k2) (by decide) rfl (fun ls hl => ?_)
      refine lv_goto (tgt := 3) hx hb dX12_move_28 (by decide) ?_
      exact ih (k2 + 1) (by omega) _ _ _ _ (hP.sub [0] rfl) (hD.sub [0] rfl rfl) hS (lv_sub hl [0, 1, 2, 3, 4] rfl)
  exact LP4 80 0 rfl g _ _ _ hP hD hS (lv_sub hl [0, 1, 2, 3, 4] rfl)
set_option maxHeartbeats 8000000 in
set_option maxRecDepth 100000 in
theorem c_X12_move_120 {l : Launch} {D : va_G} {cI cB cS cZ cW : ClassId} {aV : Nat} {y0 : Int32} {g : Nat → Int32} (hy0 : 1 ≤ y0.toInt ∧ y0.toInt ≤ 3) {sz : Nat} : MV l D (gT cI cB cS cZ cW) yX12_move (wG yX12_move cX12_move 5 none) { frames := 0, cells := 0, slots := 0, locals := 0 } [.ref aV, .int 120, .int 0, .int y0] [(aV, .inl (cI, 480, .inl g))] sz (fun (u : Unit) => True) (fun (u : Unit) => [] : (Unit) → va_W) 0 0 := by
  refine g_enter (y := yX12_move) (w := (wG yX12_move cX12_move 5 none)) (As := [.ref aV, .int 120, .int 0, .int y0]) (D := D) (T := gT cI cB cS cZ cW) (ws := [(aV, .inl (cI, 480, .inl g))]) (gQv D (fun (u : Unit) => True) (fun (u : Unit) => [] : (Unit) → va_W)) (cc := cX12_move) (maxL := 5) (ret := none) (by decide) rfl (Nat.le_of_ble_eq_true rfl) ?_
  intro p e s m below meth c A ls hF hr hlocks hname hsz hE hA hP hD hS hl
  have hF : CallFix p m c cX12_move 5 s ([.ref aV, .int 120, .int 0, .int y0] : List Value).toArray (wG yX12_move cX12_move 5 none) RX12 := hF
  obtain ⟨hx, hb, hml, hown, hts⟩ := id hF
  have htg : ∀ w ∈ GL, w.before ([.ref aV, .int 120, .int 0, .int y0] : List Value).toArray s = true := fun w h => hts w (List.mem_cons_of_mem _ h)
  have hl : lv_has ls 5 [(0, .ref aV), (1, .int 120), (2, .int 0), (3, .int y0)] := hl
  have z0 := t_0
  have z120 := t_120
  refine lv_iconst (v := 0) hx hb dX12_move_0 (by decide +kernel) ?_
  refine lv_istore (lv' := [(4, .int 0), (0, .ref aV), (1, .int 120), (2, .int 0), (3, .int y0)]) hx hb dX12_move_1 hl (by decide) rfl (fun ls hl => ?_)
  have LP4 : ∀ (n3 k2 : Nat), k2 + n3 = 120 → ∀ (g1 : Nat → Int32) (H : Heap) (locs : List Loc) (ls : Array Slot), va_P D vwCl [(aV, .inl (cI, 480, .inl g1))] H → va_D A [(aV, .inl (cI, 480, .inl g1))] → va_S A s.heap H locs → lv_has ls 5 [(4, .int (nI k2)), (0, .ref aV), (1, .int 120), (2, .int 0), (3, .int y0)] → W p l e ({ frames := 0, cells := 0, slots := 0, locals := 0 } : Room) s m ([.ref aV, .int 120, .int 0, .int y0] : List Value).toArray below meth c H locs 0 0 (MQ below (gQv D (fun (u : Unit) => True) (fun (u : Unit) => [] : (Unit) → va_W) A) ([.ref aV, .int 120, .int 0, .int y0] : List Value).toArray s 0 0 A) (F0 m 3 ls []) := by
    intro n3
    induction n3 with
    | zero =>
      intro k2 hk g1 H locs ls hP hD hS hl
      obtain rfl : k2 = 120 := by omega
      have hl : lv_has ls 5 [(4, .int 120), (0, .ref aV), (1, .int 120), (2, .int 0), (3, .int y0)] := hl
      refine lv_iload hx hb dX12_move_3 (lv_at hl 0 rfl) ?_
      refine lv_iload_n hx hb dX12_move_5 rfl (lv_at hl 2 rfl) ?_
      refine lv_icmp_ge (tgt := 31) hx hb dX12_move_6 (by decide) (fun _ => ?_) (fun c9 => absurd c9 (by decide +kernel))
      exact g_vret () hF hr hlocks (hP.sub [] rfl) (hD.sub [] rfl rfl) hS trivial dX12_move_31 (Nat.le_of_ble_eq_true rfl) (Nat.le_of_ble_eq_true rfl)
    | succ n3 ih =>
      intro k2 hk g1 H locs ls hP hD hS hl
      have hk2 : k2 < 120 := by omega
      have ikk2 : (nI k2).toInt = k2 := nI_toInt (by omega)
      refine lv_iload hx hb dX12_move_3 (lv_at hl 0 rfl) ?_
      refine lv_iload_n hx hb dX12_move_5 rfl (lv_at hl 2 rfl) ?_
      refine lv_icmp_ge (tgt := 31) hx hb dX12_move_6 (by decide) (fun c9 => absurd (i_le.mp c9) (by omega)) (fun _ => ?_)
      refine lv_aload_n hx hb dX12_move_9 rfl (lv_at hl 1 rfl) ?_
      refine lv_iload_n hx hb dX12_move_10 rfl (lv_at hl 2 rfl) ?_
      refine lv_iload_n hx hb dX12_move_11 rfl (lv_at hl 4 rfl) ?_
      refine lv_imul hx hb dX12_move_12 ?_
      refine lv_topi (fun v5 ev5 => ?_)
      have iv5 : v5.toInt = 120 * y0.toInt := by
        have h := fb_mulI (x := 120) (y := y0) (by rw [t_120]; omega) (by rw [t_120]; omega)
        rw [t_120] at h; rw [ev5]; exact h
      refine lv_iload hx hb dX12_move_13 (lv_at hl 0 rfl) ?_
      refine lv_iadd hx hb dX12_move_15 ?_
      refine lv_topi (fun v6 ev6 => ?_)
      have iv6 : v6.toInt = (v5 : Int32).toInt + ((nI k2) : Int32).toInt := by rw [ev6]; exact fb_addI (by omega) (by omega)
      refine lv_aload_n hx hb dX12_move_16 rfl (lv_at hl 1 rfl) ?_
      refine lv_iload_n hx hb dX12_move_17 rfl (lv_at hl 2 rfl) ?_
      refine lv_iload_n hx hb dX12_move_18 rfl (lv_at hl 3 rfl) ?_
      refine lv_imul hx hb dX12_move_19 ?_
      refine g_top 0 (by decide +kernel) ?_
      refine lv_iload hx hb dX12_move_20 (lv_at hl 0 rfl) ?_
      refine lv_iadd hx hb dX12_move_22 ?_
      refine lv_topi (fun v7 ev7 => ?_)
      have iv7 : v7.toInt = (0 : Int32).toInt + ((nI k2) : Int32).toInt := by rw [ev7]; exact fb_addI (by omega) (by omega)
      refine va_iald hx hb hE.1 hP 0 0 rfl rfl (vp_in_iff.mpr ⟨by omega, by omega⟩) dX12_move_23 ?_
      refine lv_topi (fun v8 ev8 => ?_)
      refine va_iast hx hb hE.1 hP hD hS 0 0 rfl rfl (vp_in_iff.mpr ⟨by omega, by omega⟩) dX12_move_24 (fun H locs hP hD hS => ?_)
      obtain ⟨g9, eg9⟩ : ∃ gz : Nat → Int32, gz = upd g1 (v6 : Int32).toNatClampNeg v8 := ⟨_, rfl⟩
      have hP : va_P D vwCl [(aV, .inl (cI, 480, .inl g9))] H := by rw [eg9]; exact hP
      have hD : va_D A [(aV, .inl (cI, 480, .inl g9))] := by rw [eg9]; exact hD
      refine lv_iinc (v := (nI (k2 + 1))) (lv' := [(4, .int (nI (k2 + 1))), (0, .ref aV), (1, .int 120), (2, .int 0), (3, .int y0)]) hx hb dX12_move_25 hl (k := 0) rfl (show nI k2 + Int32.ofInt 1 = nI (k2 + 1) from nI_1 k2) (by decide) rfl (fun ls hl => ?_)
      refine lv_goto (tgt := 3) hx hb dX12_move_28 (by decide) ?_
      exact ih (k2 + 1) (by omega) _ _ _ _ (hP.sub [0] rfl) (hD.sub [0] rfl rfl) hS (lv_sub hl [0, 1, 2, 3, 4] rfl)
  exact LP4 120 0 rfl g _ _ _ hP hD hS (lv_sub hl [0, 1, 2, 3, 4] rfl)
set_option maxHeartbeats 8000000 in
set_option maxRecDepth 100000 in
theorem c_X12_move_144 {l : Launch} {D : va_G} {cI cB cS cZ cW : ClassId} {aV : Nat} {y0 : Int32} {g : Nat → Int32} (hy0 : 1 ≤ y0.toInt ∧ y0.toInt ≤ 3) {sz : Nat} : MV l D (gT cI cB cS cZ cW) yX12_move (wG yX12_move cX12_move 5 none) { frames := 0, cells := 0, slots := 0, locals := 0 } [.ref aV, .int 144, .int 0, .int y0] [(aV, .inl (cI, 576, .inl g))] sz (fun (u : Unit) => True) (fun (u : Unit) => [] : (Unit) → va_W) 0 0 := by
  refine g_enter (y := yX12_move) (w := (wG yX12_move cX12_move 5 none)) (As := [.ref aV, .int 144, .int 0, .int y0]) (D := D) (T := gT cI cB cS cZ cW) (ws := [(aV, .inl (cI, 576, .inl g))]) (gQv D (fun (u : Unit) => True) (fun (u : Unit) => [] : (Unit) → va_W)) (cc := cX12_move) (maxL := 5) (ret := none) (by decide) rfl (Nat.le_of_ble_eq_true rfl) ?_
  intro p e s m below meth c A ls hF hr hlocks hname hsz hE hA hP hD hS hl
  have hF : CallFix p m c cX12_move 5 s ([.ref aV, .int 144, .int 0, .int y0] : List Value).toArray (wG yX12_move cX12_move 5 none) RX12 := hF
  obtain ⟨hx, hb, hml, hown, hts⟩ := id hF
  have htg : ∀ w ∈ GL, w.before ([.ref aV, .int 144, .int 0, .int y0] : List Value).toArray s = true := fun w h => hts w (List.mem_cons_of_mem _ h)
  have hl : lv_has ls 5 [(0, .ref aV), (1, .int 144), (2, .int 0), (3, .int y0)] := hl
  have z0 := t_0
  have z144 := t_144
  refine lv_iconst (v := 0) hx hb dX12_move_0 (by decide +kernel) ?_
  refine lv_istore (lv' := [(4, .int 0), (0, .ref aV), (1, .int 144), (2, .int 0), (3, .int y0)]) hx hb dX12_move_1 hl (by decide) rfl (fun ls hl => ?_)
  have LP4 : ∀ (n3 k2 : Nat), k2 + n3 = 144 → ∀ (g1 : Nat → Int32) (H : Heap) (locs : List Loc) (ls : Array Slot), va_P D vwCl [(aV, .inl (cI, 576, .inl g1))] H → va_D A [(aV, .inl (cI, 576, .inl g1))] → va_S A s.heap H locs → lv_has ls 5 [(4, .int (nI k2)), (0, .ref aV), (1, .int 144), (2, .int 0), (3, .int y0)] → W p l e ({ frames := 0, cells := 0, slots := 0, locals := 0 } : Room) s m ([.ref aV, .int 144, .int 0, .int y0] : List Value).toArray below meth c H locs 0 0 (MQ below (gQv D (fun (u : Unit) => True) (fun (u : Unit) => [] : (Unit) → va_W) A) ([.ref aV, .int 144, .int 0, .int y0] : List Value).toArray s 0 0 A) (F0 m 3 ls []) := by
    intro n3
    induction n3 with
    | zero =>
      intro k2 hk g1 H locs ls hP hD hS hl
      obtain rfl : k2 = 144 := by omega
      have hl : lv_has ls 5 [(4, .int 144), (0, .ref aV), (1, .int 144), (2, .int 0), (3, .int y0)] := hl
      refine lv_iload hx hb dX12_move_3 (lv_at hl 0 rfl) ?_
      refine lv_iload_n hx hb dX12_move_5 rfl (lv_at hl 2 rfl) ?_
      refine lv_icmp_ge (tgt := 31) hx hb dX12_move_6 (by decide) (fun _ => ?_) (fun c9 => absurd c9 (by decide +kernel))
      exact g_vret () hF hr hlocks (hP.sub [] rfl) (hD.sub [] rfl rfl) hS trivial dX12_move_31 (Nat.le_of_ble_eq_true rfl) (Nat.le_of_ble_eq_true rfl)
    | succ n3 ih =>
      intro k2 hk g1 H locs ls hP hD hS hl
      have hk2 : k2 < 144 := by omega
      have ikk2 : (nI k2).toInt = k2 := nI_toInt (by omega)
      refine lv_iload hx hb dX12_move_3 (lv_at hl 0 rfl) ?_
      refine lv_iload_n hx hb dX12_move_5 rfl (lv_at hl 2 rfl) ?_
      refine lv_icmp_ge (tgt := 31) hx hb dX12_move_6 (by decide) (fun c9 => absurd (i_le.mp c9) (by omega)) (fun _ => ?_)
      refine lv_aload_n hx hb dX12_move_9 rfl (lv_at hl 1 rfl) ?_
      refine lv_iload_n hx hb dX12_move_10 rfl (lv_at hl 2 rfl) ?_
      refine lv_iload_n hx hb dX12_move_11 rfl (lv_at hl 4 rfl) ?_
      refine lv_imul hx hb dX12_move_12 ?_
      refine lv_topi (fun v5 ev5 => ?_)
      have iv5 : v5.toInt = 144 * y0.toInt := by
        have h := fb_mulI (x := 144) (y := y0) (by rw [t_144]; omega) (by rw [t_144]; omega)
        rw [t_144] at h; rw [ev5]; exact h
      refine lv_iload hx hb dX12_move_13 (lv_at hl 0 rfl) ?_
      refine lv_iadd hx hb dX12_move_15 ?_
      refine lv_topi (fun v6 ev6 => ?_)
      have iv6 : v6.toInt = (v5 : Int32).toInt + ((nI k2) : Int32).toInt := by rw [ev6]; exact fb_addI (by omega) (by omega)
      refine lv_aload_n hx hb dX12_move_16 rfl (lv_at hl 1 rfl) ?_
      refine lv_iload_n hx hb dX12_move_17 rfl (lv_at hl 2 rfl) ?_
      refine lv_iload_n hx hb dX12_move_18 rfl (lv_at hl 3 rfl) ?_
      refine lv_imul hx hb dX12_move_19 ?_
      refine g_top 0 (by decide +kernel) ?_
      refine lv_iload hx hb dX12_move_20 (lv_at hl 0 rfl) ?_
      refine lv_iadd hx hb dX12_move_22 ?_
      refine lv_topi (fun v7 ev7 => ?_)
      have iv7 : v7.toInt = (0 : Int32).toInt + ((nI k2) : Int32).toInt := by rw [ev7]; exact fb_addI (by omega) (by omega)
      refine va_iald hx hb hE.1 hP 0 0 rfl rfl (vp_in_iff.mpr ⟨by omega, by omega⟩) dX12_move_23 ?_
      refine lv_topi (fun v8 ev8 => ?_)
      refine va_iast hx hb hE.1 hP hD hS 0 0 rfl rfl (vp_in_iff.mpr ⟨by omega, by omega⟩) dX12_move_24 (fun H locs hP hD hS => ?_)
      obtain ⟨g9, eg9⟩ : ∃ gz : Nat → Int32, gz = upd g1 (v6 : Int32).toNatClampNeg v8 := ⟨_, rfl⟩
      have hP : va_P D vwCl [(aV, .inl (cI, 576, .inl g9))] H := by rw [eg9]; exact hP
      have hD : va_D A [(aV, .inl (cI, 576, .inl g9))] := by rw [eg9]; exact hD
      refine lv_iinc (v := (nI (k2 + 1))) (lv' := [(4, .int (nI (k2 + 1))), (0, .ref aV), (1, .int 144), (2, .int 0), (3, .int y0)]) hx hb dX12_move_25 hl (k := 0) rfl (show nI k2 + Int32.ofInt 1 = nI (k2 + 1) from nI_1 k2) (by decide) rfl (fun ls hl => ?_)
      refine lv_goto (tgt := 3) hx hb dX12_move_28 (by decide) ?_
      exact ih (k2 + 1) (by omega) _ _ _ _ (hP.sub [0] rfl) (hD.sub [0] rfl rfl) hS (lv_sub hl [0, 1, 2, 3, 4] rfl)
  exact LP4 144 0 rfl g _ _ _ hP hD hS (lv_sub hl [0, 1, 2, 3, 4] rfl)
