set_option maxHeartbeats 8000000 in
set_option maxRecDepth 100000 in
theorem c_X2_takeText {l : Launch} {D : va_G} {cI cB cS cZ cW : ClassId} {aC : Nat} {aR : Nat} {y0 : Int32} {qC : Nat → Nat} {qR : Nat → Nat}  {sz : Nat} : MI l D (gT cI cB cS cZ cW) yX2_takeText (wG yX2_takeText cX2_takeText 3 (some .int)) { frames := 3, cells := 0, slots := 0, locals := 87 } [.ref aC, .ref aR, .int y0] [(aC, .inr (2, [.ref (qC 0), .int 0, .int 0, .int (-1), .int 0, .ref (qC 5), .ref (qC 6), .ref (qC 7), .ref (qC 8), .ref (qC 9), .ref (qC 10)])), ((qC 5), .inl (cI, 4, .inl (fun _ => 0))), ((qC 6), .inl (cI, 4, .inl (fun _ => 0))), (aR, .inr (7, [.ref aC, .ref (qR 1), .ref (qR 2), .int 0, .int 0, .int (-1), .int (-1)])), ((qR 1), .inl (cI, 501, .inl (fun _ => 0))), ((qR 2), .inl (cI, 501, .inl (fun _ => 0)))] sz (fun (r : Int32) (u : Unit) => r = S_custom y0) (fun (u : Unit) => [] : (Unit) → va_W) 0 0 := by
  refine g_enter (y := yX2_takeText) (w := (wG yX2_takeText cX2_takeText 3 (some .int))) (As := [.ref aC, .ref aR, .int y0]) (D := D) (T := gT cI cB cS cZ cW) (ws := [(aC, .inr (2, [.ref (qC 0), .int 0, .int 0, .int (-1), .int 0, .ref (qC 5), .ref (qC 6), .ref (qC 7), .ref (qC 8), .ref (qC 9), .ref (qC 10)])), ((qC 5), .inl (cI, 4, .inl (fun _ => 0))), ((qC 6), .inl (cI, 4, .inl (fun _ => 0))), (aR, .inr (7, [.ref aC, .ref (qR 1), .ref (qR 2), .int 0, .int 0, .int (-1), .int (-1)])), ((qR 1), .inl (cI, 501, .inl (fun _ => 0))), ((qR 2), .inl (cI, 501, .inl (fun _ => 0)))]) (gQi D (fun (r : Int32) (u : Unit) => r = S_custom y0) (fun (u : Unit) => [] : (Unit) → va_W)) (cc := cX2_takeText) (maxL := 3) (ret := (some .int)) (by decide) rfl (Nat.le_of_ble_eq_true rfl) ?_
  intro p e s m below meth c A ls hF hr hlocks hname hsz hE hA hP hD hS hl
  have hF : CallFix p m c cX2_takeText 3 s ([.ref aC, .ref aR, .int y0] : List Value).toArray (wG yX2_takeText cX2_takeText 3 (some .int)) RX2 := hF
  obtain ⟨hx, hb, hml, hown, hts⟩ := id hF
  have htg : ∀ w ∈ GL, w.before ([.ref aC, .ref aR, .int y0] : List Value).toArray s = true := fun w h => hts w (List.mem_cons_of_mem _ h)
  have hl : lv_has ls 3 [(0, .ref aC), (1, .ref aR), (2, .int y0)] := hl
  have zm2 := tm_2
  have zm1 := tm_1
  have z0 := t_0
  have z1 := t_1
  have z4 := t_4
  have z999 := t_999
  refine lv_aload_n hx hb dX2_takeText_0 rfl (lv_at hl 0 rfl) ?_
  refine lv_iconst (v := 0) hx hb dX2_takeText_1 (by decide +kernel) ?_
  refine va_put (D := D) (ci := 2) (v := .int 0) (ty := tyX2 2) (C := RX2) (T := TX2) (N := 11) hx hb htg iwG_2 tyX2 tyX2_ok nmX2 hown hE.1 hP hD hS 0 rfl rfl 2 (by decide) (htg _ wm_36) (fun _ h9 => h9) rfl (by decide +kernel) rfl rfl (Nat.le_of_ble_eq_true rfl) dX2_takeText_2 (fun H locs hP hD hS => ?_)
  have hP : va_P D vwCl [(aC, .inr (2, [.ref (qC 0), .int 0, .int 0, .int (-1), .int 0, .ref (qC 5), .ref (qC 6), .ref (qC 7), .ref (qC 8), .ref (qC 9), .ref (qC 10)])), ((qC 5), .inl (cI, 4, .inl (fun _ => 0))), ((qC 6), .inl (cI, 4, .inl (fun _ => 0))), (aR, .inr (7, [.ref aC, .ref (qR 1), .ref (qR 2), .int 0, .int 0, .int (-1), .int (-1)])), ((qR 1), .inl (cI, 501, .inl (fun _ => 0))), ((qR 2), .inl (cI, 501, .inl (fun _ => 0)))] H := hP
  have hD : va_D A [(aC, .inr (2, [.ref (qC 0), .int 0, .int 0, .int (-1), .int 0, .ref (qC 5), .ref (qC 6), .ref (qC 7), .ref (qC 8), .ref (qC 9), .ref (qC 10)])), ((qC 5), .inl (cI, 4, .inl (fun _ => 0))), ((qC 6), .inl (cI, 4, .inl (fun _ => 0))), (aR, .inr (7, [.ref aC, .ref (qR 1), .ref (qR 2), .int 0, .int 0, .int (-1), .int (-1)])), ((qR 1), .inl (cI, 501, .inl (fun _ => 0))), ((qR 2), .inl (cI, 501, .inl (fun _ => 0)))] := hD
  refine lv_aload_n hx hb dX2_takeText_5 rfl (lv_at hl 0 rfl) ?_
  refine lv_iconst (v := (-1)) hx hb dX2_takeText_6 (by decide +kernel) ?_
  refine va_put (D := D) (ci := 2) (v := .int (-1)) (ty := tyX2 3) (C := RX2) (T := TX2) (N := 11) hx hb htg iwG_2 tyX2 tyX2_ok nmX2 hown hE.1 hP hD hS 0 rfl rfl 3 (by decide) (htg _ wm_37) (fun _ h9 => h9) rfl (by decide +kernel) rfl rfl (Nat.le_of_ble_eq_true rfl) dX2_takeText_7 (fun H locs hP hD hS => ?_)
  have hP : va_P D vwCl [(aC, .inr (2, [.ref (qC 0), .int 0, .int 0, .int (-1), .int 0, .ref (qC 5), .ref (qC 6), .ref (qC 7), .ref (qC 8), .ref (qC 9), .ref (qC 10)])), ((qC 5), .inl (cI, 4, .inl (fun _ => 0))), ((qC 6), .inl (cI, 4, .inl (fun _ => 0))), (aR, .inr (7, [.ref aC, .ref (qR 1), .ref (qR 2), .int 0, .int 0, .int (-1), .int (-1)])), ((qR 1), .inl (cI, 501, .inl (fun _ => 0))), ((qR 2), .inl (cI, 501, .inl (fun _ => 0)))] H := hP
  have hD : va_D A [(aC, .inr (2, [.ref (qC 0), .int 0, .int 0, .int (-1), .int 0, .ref (qC 5), .ref (qC 6), .ref (qC 7), .ref (qC 8), .ref (qC 9), .ref (qC 10)])), ((qC 5), .inl (cI, 4, .inl (fun _ => 0))), ((qC 6), .inl (cI, 4, .inl (fun _ => 0))), (aR, .inr (7, [.ref aC, .ref (qR 1), .ref (qR 2), .int 0, .int 0, .int (-1), .int (-1)])), ((qR 1), .inl (cI, 501, .inl (fun _ => 0))), ((qR 2), .inl (cI, 501, .inl (fun _ => 0)))] := hD
  refine lv_aload_n hx hb dX2_takeText_10 rfl (lv_at hl 0 rfl) ?_
  refine va_get (D := D) (ci := 2) (v := .int 0) (C := RX2) (T := TX2) (N := 11) hx hb htg iwG_2 hown hE.1 hP 0 rfl rfl 4 (by decide) (htg _ wm_38) (fun _ h9 => h9) rfl dX2_takeText_11 ?_
  refine lv_iconst (v := 4) hx hb dX2_takeText_14 (by decide +kernel) ?_
  refine lv_icmp_ge (tgt := 29) hx hb dX2_takeText_15 (by decide) (fun c9 => absurd c9 (by decide +kernel)) (fun _ => ?_)
  refine lv_iload_n hx hb dX2_takeText_18 rfl (lv_at hl 2 rfl) ?_
  refine lv_iconst (v := 0) hx hb dX2_takeText_19 (by decide +kernel) ?_
  refine lv_sipush (v := 999) hx hb dX2_takeText_20 (by decide +kernel) ?_
  refine g_ai (D := D) (wc := []) (wr := [(aC, .inr (2, [.ref (qC 0), .int 0, .int 0, .int (-1), .int 0, .ref (qC 5), .ref (qC 6), .ref (qC 7), .ref (qC 8), .ref (qC 9), .ref (qC 10)])), ((qC 5), .inl (cI, 4, .inl (fun _ => 0))), ((qC 6), .inl (cI, 4, .inl (fun _ => 0))), (aR, .inr (7, [.ref aC, .ref (qR 1), .ref (qR 2), .int 0, .int 0, .int (-1), .int (-1)])), ((qR 1), .inl (cI, 501, .inl (fun _ => 0))), ((qR 2), .inl (cI, 501, .inl (fun _ => 0)))]) hP hD hS hA [] [0, 1, 2, 3, 4, 5] rfl rfl rfl rfl (by decide) (fun hPc hDc => va_runSN (As := [.int y0, .int 0, .int 999]) (rest := []) hF (c_X11_within (l := l) (D := D) (cI := cI) (cB := cB) (cS := cS) (cZ := cZ) (cW := cW) (y0 := y0) (y1 := 0) (y2 := 999)) ⟨(va_cnB (host := "LastTongue") 3 hts (gGI (fun _ h => List.mem_cons_of_mem _ h) wm_150) rfl rfl rfl (hE.2.1 (RX2, 56, yX11_within, "LastTongue") (List.mem_of_getElem? (i := 9) rfl)) (htg _ wm_151) (by decide +kernel) ⟨Nat.le_of_ble_eq_true rfl, Nat.le_of_ble_eq_true rfl⟩), (htg _ wm_152), trivial⟩ (g_preS hE hPc hDc) rfl rfl hl.1 rfl (lv_room (Nat.le_of_ble_eq_true rfl)) dX2_takeText_23 ⟨Nat.le_of_ble_eq_true rfl, Nat.le_of_ble_eq_true rfl⟩) (fun r1 u2 H locs p3 hP hD hS => ?_)
  have hP : va_P D vwCl [(aC, .inr (2, [.ref (qC 0), .int 0, .int 0, .int (-1), .int 0, .ref (qC 5), .ref (qC 6), .ref (qC 7), .ref (qC 8), .ref (qC 9), .ref (qC 10)])), ((qC 5), .inl (cI, 4, .inl (fun _ => 0))), ((qC 6), .inl (cI, 4, .inl (fun _ => 0))), (aR, .inr (7, [.ref aC, .ref (qR 1), .ref (qR 2), .int 0, .int 0, .int (-1), .int (-1)])), ((qR 1), .inl (cI, 501, .inl (fun _ => 0))), ((qR 2), .inl (cI, 501, .inl (fun _ => 0)))] H := hP
  have hD : va_D A [(aC, .inr (2, [.ref (qC 0), .int 0, .int 0, .int (-1), .int 0, .ref (qC 5), .ref (qC 6), .ref (qC 7), .ref (qC 8), .ref (qC 9), .ref (qC 10)])), ((qC 5), .inl (cI, 4, .inl (fun _ => 0))), ((qC 6), .inl (cI, 4, .inl (fun _ => 0))), (aR, .inr (7, [.ref aC, .ref (qR 1), .ref (qR 2), .int 0, .int 0, .int (-1), .int (-1)])), ((qR 1), .inl (cI, 501, .inl (fun _ => 0))), ((qR 2), .inl (cI, 501, .inl (fun _ => 0)))] := hD
  rcases p3 with ⟨rfl, p3a⟩ | ⟨rfl, p3a⟩
  · skip
    refine lv_if_ne (tgt := 37) hx hb dX2_takeText_26 (by decide) (fun _ => ?_) (fun c9 => absurd c9 (by decide +kernel))
    refine lv_aload_n hx hb dX2_takeText_37 rfl (lv_at hl 1 rfl) ?_
    refine g_av (D := D) (wc := [(aC, .inr (2, [.ref (qC 0), .int 0, .int 0, .int (-1), .int 0, .ref (qC 5), .ref (qC 6), .ref (qC 7), .ref (qC 8), .ref (qC 9), .ref (qC 10)])), (aR, .inr (7, [.ref aC, .ref (qR 1), .ref (qR 2), .int 0, .int 0, .int (-1), .int (-1)])), ((qR 1), .inl (cI, 501, .inl (fun _ => 0))), ((qR 2), .inl (cI, 501, .inl (fun _ => 0)))]) (wr := [((qC 5), .inl (cI, 4, .inl (fun _ => 0))), ((qC 6), .inl (cI, 4, .inl (fun _ => 0)))]) hP hD hS hA [0, 3, 4, 5] [1, 2] rfl rfl rfl rfl (by decide) (fun hPc hDc => va_runV (As := []) (rest := []) hF (c_X7_split (l := l) (D := D) (cI := cI) (cB := cB) (cS := cS) (cZ := cZ) (cW := cW) (aR := aR) (aC := aC) (qC := qC) (qR := qR)) (cwV 0 hts (gGV (fun _ h => List.mem_cons_of_mem _ h) wm_198 wm_199 wm_200 wm_177 wm_201) rfl rfl rfl (by decide +kernel) ⟨Nat.le_of_ble_eq_true rfl, Nat.le_of_ble_eq_true rfl⟩) (g_preV (q := (RX7, TX7, 7)) (ci := 7) (q0 := 1) hE hPc hDc rfl rfl) rfl rfl hl.1 rfl (lv_room (Nat.le_of_ble_eq_true rfl)) dX2_takeText_38 ⟨Nat.le_of_ble_eq_true rfl, Nat.le_of_ble_eq_true rfl⟩) (fun u5 H locs p6 hP hD hS => ?_)
    obtain ⟨g7, g8⟩ := u5
    have f9 := p6
    have hP : va_P D vwCl [((qC 5), .inl (cI, 4, .inl (fun _ => 0))), ((qC 6), .inl (cI, 4, .inl (fun _ => 0))), (aC, .inr (2, [.ref (qC 0), .int 0, .int 0, .int (-1), .int 0, .ref (qC 5), .ref (qC 6), .ref (qC 7), .ref (qC 8), .ref (qC 9), .ref (qC 10)])), (aR, .inr (7, [.ref aC, .ref (qR 1), .ref (qR 2), .int 0, .int 0, .int (-1), .int (-1)])), ((qR 1), .inl (cI, 501, .inl g7)), ((qR 2), .inl (cI, 501, .inl g8))] H := hP
    have hD : va_D A [((qC 5), .inl (cI, 4, .inl (fun _ => 0))), ((qC 6), .inl (cI, 4, .inl (fun _ => 0))), (aC, .inr (2, [.ref (qC 0), .int 0, .int 0, .int (-1), .int 0, .ref (qC 5), .ref (qC 6), .ref (qC 7), .ref (qC 8), .ref (qC 9), .ref (qC 10)])), (aR, .inr (7, [.ref aC, .ref (qR 1), .ref (qR 2), .int 0, .int 0, .int (-1), .int (-1)])), ((qR 1), .inl (cI, 501, .inl g7)), ((qR 2), .inl (cI, 501, .inl g8))] := hD
    refine lv_aload_n hx hb dX2_takeText_41 rfl (lv_at hl 0 rfl) ?_
    refine lv_aload_n hx hb dX2_takeText_42 rfl (lv_at hl 1 rfl) ?_
    refine lv_aload_n hx hb dX2_takeText_43 rfl (lv_at hl 0 rfl) ?_
    refine va_get (D := D) (ci := 2) (v := .int 0) (C := RX2) (T := TX2) (N := 11) hx hb htg iwG_2 hown hE.1 hP 2 rfl rfl 4 (by decide) (htg _ wm_38) (fun _ h9 => h9) rfl dX2_takeText_44 ?_
    refine g_ai (D := D) (wc := [(aC, .inr (2, [.ref (qC 0), .int 0, .int 0, .int (-1), .int 0, .ref (qC 5), .ref (qC 6), .ref (qC 7), .ref (qC 8), .ref (qC 9), .ref (qC 10)])), ((qC 6), .inl (cI, 4, .inl (fun _ => 0))), (aR, .inr (7, [.ref aC, .ref (qR 1), .ref (qR 2), .int 0, .int 0, .int (-1), .int (-1)])), ((qR 1), .inl (cI, 501, .inl g7))]) (wr := [((qC 5), .inl (cI, 4, .inl (fun _ => 0))), ((qR 2), .inl (cI, 501, .inl g8))]) hP hD hS hA [2, 1, 3, 4] [0, 5] rfl rfl rfl rfl (by decide) (fun hPc hDc => va_runV (As := [.int 0]) (rest := [.ref aC]) hF (c_X7_readText (l := l) (D := D) (cI := cI) (cB := cB) (cS := cS) (cZ := cZ) (cW := cW) (aR := aR) (aC := aC) (qC := qC) (qR := qR) (g := g7) (hg := f9)) (cwV 1 hts (gGV (fun _ h => List.mem_cons_of_mem _ h) wm_202 wm_203 wm_204 wm_177 wm_205) rfl rfl rfl (by decide +kernel) ⟨Nat.le_of_ble_eq_true rfl, Nat.le_of_ble_eq_true rfl⟩) (g_preV (q := (RX7, TX7, 7)) (ci := 7) (q0 := 2) hE hPc hDc rfl rfl) rfl rfl hl.1 rfl (lv_room (Nat.le_of_ble_eq_true rfl)) dX2_takeText_47 ⟨Nat.le_of_ble_eq_true rfl, Nat.le_of_ble_eq_true rfl⟩) (fun r10 u11 H locs p12 hP hD hS => ?_)
    obtain ⟨g13, rfl⟩ : ∃ z, z = u11 := ⟨_, rfl⟩
    have hP : va_P D vwCl [((qC 5), .inl (cI, 4, .inl (fun _ => 0))), ((qR 2), .inl (cI, 501, .inl g8)), (aC, .inr (2, [.ref (qC 0), .int 0, .int 0, .int (-1), .int 0, .ref (qC 5), .ref (qC 6), .ref (qC 7), .ref (qC 8), .ref (qC 9), .ref (qC 10)])), ((qC 6), .inl (cI, 4, .inl g13)), (aR, .inr (7, [.ref aC, .ref (qR 1), .ref (qR 2), .int 0, .int 0, .int (-1), .int (-1)])), ((qR 1), .inl (cI, 501, .inl g7))] H := hP
    have hD : va_D A [((qC 5), .inl (cI, 4, .inl (fun _ => 0))), ((qR 2), .inl (cI, 501, .inl g8)), (aC, .inr (2, [.ref (qC 0), .int 0, .int 0, .int (-1), .int 0, .ref (qC 5), .ref (qC 6), .ref (qC 7), .ref (qC 8), .ref (qC 9), .ref (qC 10)])), ((qC 6), .inl (cI, 4, .inl g13)), (aR, .inr (7, [.ref aC, .ref (qR 1), .ref (qR 2), .int 0, .int 0, .int (-1), .int (-1)])), ((qR 1), .inl (cI, 501, .inl g7))] := hD
    obtain rfl := p12
    refine va_put (D := D) (ci := 2) (v := .int 0) (ty := tyX2 2) (C := RX2) (T := TX2) (N := 11) hx hb htg iwG_2 tyX2 tyX2_ok nmX2 hown hE.1 hP hD hS 2 rfl rfl 2 (by decide) (htg _ wm_36) (fun _ h9 => h9) rfl (by decide +kernel) rfl rfl (Nat.le_of_ble_eq_true rfl) dX2_takeText_50 (fun H locs hP hD hS => ?_)
    have hP : va_P D vwCl [((qC 5), .inl (cI, 4, .inl (fun _ => 0))), ((qR 2), .inl (cI, 501, .inl g8)), (aC, .inr (2, [.ref (qC 0), .int 0, .int 0, .int (-1), .int 0, .ref (qC 5), .ref (qC 6), .ref (qC 7), .ref (qC 8), .ref (qC 9), .ref (qC 10)])), ((qC 6), .inl (cI, 4, .inl g13)), (aR, .inr (7, [.ref aC, .ref (qR 1), .ref (qR 2), .int 0, .int 0, .int (-1), .int (-1)])), ((qR 1), .inl (cI, 501, .inl g7))] H := hP
    have hD : va_D A [((qC 5), .inl (cI, 4, .inl (fun _ => 0))), ((qR 2), .inl (cI, 501, .inl g8)), (aC, .inr (2, [.ref (qC 0), .int 0, .int 0, .int (-1), .int 0, .ref (qC 5), .ref (qC 6), .ref (qC 7), .ref (qC 8), .ref (qC 9), .ref (qC 10)])), ((qC 6), .inl (cI, 4, .inl g13)), (aR, .inr (7, [.ref aC, .ref (qR 1), .ref (qR 2), .int 0, .int 0, .int (-1), .int (-1)])), ((qR 1), .inl (cI, 501, .inl g7))] := hD
    refine lv_aload_n hx hb dX2_takeText_53 rfl (lv_at hl 0 rfl) ?_
    refine lv_aload_n hx hb dX2_takeText_54 rfl (lv_at hl 1 rfl) ?_
    refine va_get (D := D) (ci := 7) (v := .int (-1)) (C := RX7) (T := TX7) (N := 7) hx hb htg iwG_7 hown hE.1 hP 4 rfl rfl 5 (by decide) (htg _ wm_206) (fun _ h9 => h9) rfl dX2_takeText_55 ?_
    refine va_put (D := D) (ci := 2) (v := .int (-1)) (ty := tyX2 3) (C := RX2) (T := TX2) (N := 11) hx hb htg iwG_2 tyX2 tyX2_ok nmX2 hown hE.1 hP hD hS 2 rfl rfl 3 (by decide) (htg _ wm_37) (fun _ h9 => h9) rfl (by decide +kernel) rfl rfl (Nat.le_of_ble_eq_true rfl) dX2_takeText_58 (fun H locs hP hD hS => ?_)
    have hP : va_P D vwCl [((qC 5), .inl (cI, 4, .inl (fun _ => 0))), ((qR 2), .inl (cI, 501, .inl g8)), (aC, .inr (2, [.ref (qC 0), .int 0, .int 0, .int (-1), .int 0, .ref (qC 5), .ref (qC 6), .ref (qC 7), .ref (qC 8), .ref (qC 9), .ref (qC 10)])), ((qC 6), .inl (cI, 4, .inl g13)), (aR, .inr (7, [.ref aC, .ref (qR 1), .ref (qR 2), .int 0, .int 0, .int (-1), .int (-1)])), ((qR 1), .inl (cI, 501, .inl g7))] H := hP
    have hD : va_D A [((qC 5), .inl (cI, 4, .inl (fun _ => 0))), ((qR 2), .inl (cI, 501, .inl g8)), (aC, .inr (2, [.ref (qC 0), .int 0, .int 0, .int (-1), .int 0, .ref (qC 5), .ref (qC 6), .ref (qC 7), .ref (qC 8), .ref (qC 9), .ref (qC 10)])), ((qC 6), .inl (cI, 4, .inl g13)), (aR, .inr (7, [.ref aC, .ref (qR 1), .ref (qR 2), .int 0, .int 0, .int (-1), .int (-1)])), ((qR 1), .inl (cI, 501, .inl g7))] := hD
    refine lv_aload_n hx hb dX2_takeText_61 rfl (lv_at hl 0 rfl) ?_
    refine lv_iconst (v := 0) hx hb dX2_takeText_62 (by decide +kernel) ?_
    refine va_put (D := D) (ci := 2) (v := .int 0) (ty := tyX2 1) (C := RX2) (T := TX2) (N := 11) hx hb htg iwG_2 tyX2 tyX2_ok nmX2 hown hE.1 hP hD hS 2 rfl rfl 1 (by decide) (htg _ wm_35) (fun _ h9 => h9) rfl (by decide +kernel) rfl rfl (Nat.le_of_ble_eq_true rfl) dX2_takeText_63 (fun H locs hP hD hS => ?_)
    have hP : va_P D vwCl [((qC 5), .inl (cI, 4, .inl (fun _ => 0))), ((qR 2), .inl (cI, 501, .inl g8)), (aC, .inr (2, [.ref (qC 0), .int 0, .int 0, .int (-1), .int 0, .ref (qC 5), .ref (qC 6), .ref (qC 7), .ref (qC 8), .ref (qC 9), .ref (qC 10)])), ((qC 6), .inl (cI, 4, .inl g13)), (aR, .inr (7, [.ref aC, .ref (qR 1), .ref (qR 2), .int 0, .int 0, .int (-1), .int (-1)])), ((qR 1), .inl (cI, 501, .inl g7))] H := hP
    have hD : va_D A [((qC 5), .inl (cI, 4, .inl (fun _ => 0))), ((qR 2), .inl (cI, 501, .inl g8)), (aC, .inr (2, [.ref (qC 0), .int 0, .int 0, .int (-1), .int 0, .ref (qC 5), .ref (qC 6), .ref (qC 7), .ref (qC 8), .ref (qC 9), .ref (qC 10)])), ((qC 6), .inl (cI, 4, .inl g13)), (aR, .inr (7, [.ref aC, .ref (qR 1), .ref (qR 2), .int 0, .int 0, .int (-1), .int (-1)])), ((qR 1), .inl (cI, 501, .inl g7))] := hD
    refine lv_aload_n hx hb dX2_takeText_66 rfl (lv_at hl 0 rfl) ?_
    refine va_get (D := D) (ci := 2) (v := .int 0) (C := RX2) (T := TX2) (N := 11) hx hb htg iwG_2 hown hE.1 hP 2 rfl rfl 2 (by decide) (htg _ wm_36) (fun _ h9 => h9) rfl dX2_takeText_67 ?_
    refine lv_if_eq (tgt := 75) hx hb dX2_takeText_70 (by decide) (fun _ => ?_) (fun c9 => absurd c9 (by decide +kernel))
    refine lv_aload_n hx hb dX2_takeText_75 rfl (lv_at hl 0 rfl) ?_
    refine va_get (D := D) (ci := 2) (v := .ref (qC 5)) (C := RX2) (T := TX2) (N := 11) hx hb htg iwG_2 hown hE.1 hP 2 rfl rfl 5 (by decide) (htg _ wm_39) (fun _ h9 => h9) rfl dX2_takeText_76 ?_
    refine lv_aload_n hx hb dX2_takeText_79 rfl (lv_at hl 0 rfl) ?_
    refine va_get (D := D) (ci := 2) (v := .int 0) (C := RX2) (T := TX2) (N := 11) hx hb htg iwG_2 hown hE.1 hP 2 rfl rfl 4 (by decide) (htg _ wm_38) (fun _ h9 => h9) rfl dX2_takeText_80 ?_
    refine lv_iload_n hx hb dX2_takeText_83 rfl (lv_at hl 2 rfl) ?_
    refine va_iast hx hb hE.1 hP hD hS 0 0 rfl rfl (vp_in_iff.mpr ⟨by decide +kernel, by decide +kernel⟩) dX2_takeText_84 (fun H locs hP hD hS => ?_)
    obtain ⟨g14, eg14⟩ : ∃ gz : Nat → Int32, gz = upd (fun _ => 0) (0 : Int32).toNatClampNeg y0 := ⟨_, rfl⟩
    have hP : va_P D vwCl [((qC 5), .inl (cI, 4, .inl g14)), ((qR 2), .inl (cI, 501, .inl g8)), (aC, .inr (2, [.ref (qC 0), .int 0, .int 0, .int (-1), .int 0, .ref (qC 5), .ref (qC 6), .ref (qC 7), .ref (qC 8), .ref (qC 9), .ref (qC 10)])), ((qC 6), .inl (cI, 4, .inl g13)), (aR, .inr (7, [.ref aC, .ref (qR 1), .ref (qR 2), .int 0, .int 0, .int (-1), .int (-1)])), ((qR 1), .inl (cI, 501, .inl g7))] H := by rw [eg14]; exact hP
    have hD : va_D A [((qC 5), .inl (cI, 4, .inl g14)), ((qR 2), .inl (cI, 501, .inl g8)), (aC, .inr (2, [.ref (qC 0), .int 0, .int 0, .int (-1), .int 0, .ref (qC 5), .ref (qC 6), .ref (qC 7), .ref (qC 8), .ref (qC 9), .ref (qC 10)])), ((qC 6), .inl (cI, 4, .inl g13)), (aR, .inr (7, [.ref aC, .ref (qR 1), .ref (qR 2), .int 0, .int 0, .int (-1), .int (-1)])), ((qR 1), .inl (cI, 501, .inl g7))] := by rw [eg14]; exact hD
    refine lv_aload_n hx hb dX2_takeText_85 rfl (lv_at hl 0 rfl) ?_
    refine lv_dup hx hb dX2_takeText_86 rfl ?_
    refine va_get (D := D) (ci := 2) (v := .int 0) (C := RX2) (T := TX2) (N := 11) hx hb htg iwG_2 hown hE.1 hP 2 rfl rfl 4 (by decide) (htg _ wm_38) (fun _ h9 => h9) rfl dX2_takeText_87 ?_
    refine lv_iconst (v := 1) hx hb dX2_takeText_90 (by decide +kernel) ?_
    refine lv_iadd hx hb dX2_takeText_91 ?_
    refine g_top 1 (by decide +kernel) ?_
    refine va_put (D := D) (ci := 2) (v := .int 1) (ty := tyX2 4) (C := RX2) (T := TX2) (N := 11) hx hb htg iwG_2 tyX2 tyX2_ok nmX2 hown hE.1 hP hD hS 2 rfl rfl 4 (by decide) (htg _ wm_38) (fun _ h9 => h9) rfl (by decide +kernel) rfl rfl (Nat.le_of_ble_eq_true rfl) dX2_takeText_92 (fun H locs hP hD hS => ?_)
    have hP : va_P D vwCl [((qC 5), .inl (cI, 4, .inl g14)), ((qR 2), .inl (cI, 501, .inl g8)), (aC, .inr (2, [.ref (qC 0), .int 0, .int 0, .int (-1), .int 1, .ref (qC 5), .ref (qC 6), .ref (qC 7), .ref (qC 8), .ref (qC 9), .ref (qC 10)])), ((qC 6), .inl (cI, 4, .inl g13)), (aR, .inr (7, [.ref aC, .ref (qR 1), .ref (qR 2), .int 0, .int 0, .int (-1), .int (-1)])), ((qR 1), .inl (cI, 501, .inl g7))] H := hP
    have hD : va_D A [((qC 5), .inl (cI, 4, .inl g14)), ((qR 2), .inl (cI, 501, .inl g8)), (aC, .inr (2, [.ref (qC 0), .int 0, .int 0, .int (-1), .int 1, .ref (qC 5), .ref (qC 6), .ref (qC 7), .ref (qC 8), .ref (qC 9), .ref (qC 10)])), ((qC 6), .inl (cI, 4, .inl g13)), (aR, .inr (7, [.ref aC, .ref (qR 1), .ref (qR 2), .int 0, .int 0, .int (-1), .int (-1)])), ((qR 1), .inl (cI, 501, .inl g7))] := hD
    refine lv_aload_n hx hb dX2_takeText_95 rfl (lv_at hl 0 rfl) ?_
    refine va_get (D := D) (ci := 2) (v := .int 1) (C := RX2) (T := TX2) (N := 11) hx hb htg iwG_2 hown hE.1 hP 2 rfl rfl 4 (by decide) (htg _ wm_38) (fun _ h9 => h9) rfl dX2_takeText_96 ?_
    refine lv_iconst (v := 1) hx hb dX2_takeText_99 (by decide +kernel) ?_
    refine lv_isub hx hb dX2_takeText_100 ?_
    refine g_top 0 (by decide +kernel) ?_
    exact g_iret () hF hr rfl hlocks (hP.sub [] rfl) (hD.sub [] rfl rfl) hS (by show (_ : Int32) = _; unfold S_custom; (repeat' split) <;> first | rfl | (exfalso; omega) | omega) dX2_takeText_101 (Nat.le_of_ble_eq_true rfl) (Nat.le_of_ble_eq_true rfl)
  · skip
    refine lv_if_ne (tgt := 37) hx hb dX2_takeText_26 (by decide) (fun c9 => absurd c9 (by decide +kernel)) (fun _ => ?_)
    refine lv_aload_n hx hb dX2_takeText_29 rfl (lv_at hl 0 rfl) ?_
    refine lv_iconst (v := 0) hx hb dX2_takeText_30 (by decide +kernel) ?_
    refine va_put (D := D) (ci := 2) (v := .int 0) (ty := tyX2 1) (C := RX2) (T := TX2) (N := 11) hx hb htg iwG_2 tyX2 tyX2_ok nmX2 hown hE.1 hP hD hS 0 rfl rfl 1 (by decide) (htg _ wm_35) (fun _ h9 => h9) rfl (by decide +kernel) rfl rfl (Nat.le_of_ble_eq_true rfl) dX2_takeText_31 (fun H locs hP hD hS => ?_)
    have hP : va_P D vwCl [(aC, .inr (2, [.ref (qC 0), .int 0, .int 0, .int (-1), .int 0, .ref (qC 5), .ref (qC 6), .ref (qC 7), .ref (qC 8), .ref (qC 9), .ref (qC 10)])), ((qC 5), .inl (cI, 4, .inl (fun _ => 0))), ((qC 6), .inl (cI, 4, .inl (fun _ => 0))), (aR, .inr (7, [.ref aC, .ref (qR 1), .ref (qR 2), .int 0, .int 0, .int (-1), .int (-1)])), ((qR 1), .inl (cI, 501, .inl (fun _ => 0))), ((qR 2), .inl (cI, 501, .inl (fun _ => 0)))] H := hP
    have hD : va_D A [(aC, .inr (2, [.ref (qC 0), .int 0, .int 0, .int (-1), .int 0, .ref (qC 5), .ref (qC 6), .ref (qC 7), .ref (qC 8), .ref (qC 9), .ref (qC 10)])), ((qC 5), .inl (cI, 4, .inl (fun _ => 0))), ((qC 6), .inl (cI, 4, .inl (fun _ => 0))), (aR, .inr (7, [.ref aC, .ref (qR 1), .ref (qR 2), .int 0, .int 0, .int (-1), .int (-1)])), ((qR 1), .inl (cI, 501, .inl (fun _ => 0))), ((qR 2), .inl (cI, 501, .inl (fun _ => 0)))] := hD
    refine lv_bipush (v := (-2)) hx hb dX2_takeText_34 (by decide +kernel) ?_
    exact g_iret () hF hr rfl hlocks (hP.sub [] rfl) (hD.sub [] rfl rfl) hS (by show (_ : Int32) = _; unfold S_custom; (repeat' split) <;> first | rfl | (exfalso; omega) | omega) dX2_takeText_36 (Nat.le_of_ble_eq_true rfl) (Nat.le_of_ble_eq_true rfl)
set_option maxHeartbeats 8000000 in
set_option maxRecDepth 100000 in
theorem c_X0_hasTape {l : Launch} {D : va_G} {cI cB cS cZ cW : ClassId} {aA : Nat} {y0 : Int32} {qA : Nat → Nat}  {sz : Nat} : MI l D (gT cI cB cS cZ cW) yX0_hasTape (wG yX0_hasTape cX0_hasTape 2 (some .boolean)) { frames := 0, cells := 0, slots := 0, locals := 0 } [.ref aA, .int y0] [(aA, .inr (0, [.ref (qA 0), .int 0, .ref (qA 2), .ref (qA 3), .int 0, .ref (qA 5), .ref (qA 6), .ref (qA 7), .ref (qA 8), .ref (qA 9), .ref (qA 10), .ref (qA 11), .ref (qA 12), .ref (qA 13)]))] sz (fun (r : Int32) (u : Unit) => r = 0) (fun (u : Unit) => [(aA, .inr (0, [.ref (qA 0), .int 0, .ref (qA 2), .ref (qA 3), .int 0, .ref (qA 5), .ref (qA 6), .ref (qA 7), .ref (qA 8), .ref (qA 9), .ref (qA 10), .ref (qA 11), .ref (qA 12), .ref (qA 13)]))] : (Unit) → va_W) 0 0 := by
  refine g_enter (y := yX0_hasTape) (w := (wG yX0_hasTape cX0_hasTape 2 (some .boolean))) (As := [.ref aA, .int y0]) (D := D) (T := gT cI cB cS cZ cW) (ws := [(aA, .inr (0, [.ref (qA 0), .int 0, .ref (qA 2), .ref (qA 3), .int 0, .ref (qA 5), .ref (qA 6), .ref (qA 7), .ref (qA 8), .ref (qA 9), .ref (qA 10), .ref (qA 11), .ref (qA 12), .ref (qA 13)]))]) (gQi D (fun (r : Int32) (u : Unit) => r = 0) (fun (u : Unit) => [(aA, .inr (0, [.ref (qA 0), .int 0, .ref (qA 2), .ref (qA 3), .int 0, .ref (qA 5), .ref (qA 6), .ref (qA 7), .ref (qA 8), .ref (qA 9), .ref (qA 10), .ref (qA 11), .ref (qA 12), .ref (qA 13)]))] : (Unit) → va_W)) (cc := cX0_hasTape) (maxL := 2) (ret := (some .boolean)) (by decide) rfl (Nat.le_of_ble_eq_true rfl) ?_
  intro p e s m below meth c A ls hF hr hlocks hname hsz hE hA hP hD hS hl
  have hF : CallFix p m c cX0_hasTape 2 s ([.ref aA, .int y0] : List Value).toArray (wG yX0_hasTape cX0_hasTape 2 (some .boolean)) RX0 := hF
  obtain ⟨hx, hb, hml, hown, hts⟩ := id hF
  have htg : ∀ w ∈ GL, w.before ([.ref aA, .int y0] : List Value).toArray s = true := fun w h => hts w (List.mem_cons_of_mem _ h)
  have hl : lv_has ls 2 [(0, .ref aA), (1, .int y0)] := hl
  have z0 := t_0
  refine lv_iload_n hx hb dX0_hasTape_0 rfl (lv_at hl 1 rfl) ?_
  refine lv_if_lt (tgt := 16) hx hb dX0_hasTape_1 (by decide) (fun c1 => ?_) (fun c1 => ?_)
  · rw [i_lt] at c1
    refine lv_iconst (v := 0) hx hb dX0_hasTape_16 (by decide +kernel) ?_
    exact g_iret () hF hr rfl hlocks (hP.sub [0] rfl) (hD.sub [0] rfl rfl) hS rfl dX0_hasTape_17 (Nat.le_of_ble_eq_true rfl) (Nat.le_of_ble_eq_true rfl)
  · rw [i_lt] at c1
    refine lv_iload_n hx hb dX0_hasTape_4 rfl (lv_at hl 1 rfl) ?_
    refine lv_aload_n hx hb dX0_hasTape_5 rfl (lv_at hl 0 rfl) ?_
    refine va_get (D := D) (ci := 0) (v := .int 0) (C := RX0) (T := TX0) (N := 14) hx hb htg iwG_0 hown hE.1 hP 0 rfl rfl 1 (by decide) (htg _ wm_47) (fun _ h9 => h9) rfl dX0_hasTape_6 ?_
    refine lv_icmp_ge (tgt := 16) hx hb dX0_hasTape_9 (by decide) (fun _ => ?_) (fun c9 => absurd (i_le.mpr (by omega)) c9)
    refine lv_iconst (v := 0) hx hb dX0_hasTape_16 (by decide +kernel) ?_
    exact g_iret () hF hr rfl hlocks (hP.sub [0] rfl) (hD.sub [0] rfl rfl) hS rfl dX0_hasTape_17 (Nat.le_of_ble_eq_true rfl) (Nat.le_of_ble_eq_true rfl)
set_option maxHeartbeats 8000000 in
set_option maxRecDepth 100000 in
theorem c_X0_hasRow {l : Launch} {D : va_G} {cI cB cS cZ cW : ClassId} {aA : Nat} {y0 : Int32} {qA : Nat → Nat}  {sz : Nat} : MI l D (gT cI cB cS cZ cW) yX0_hasRow (wG yX0_hasRow cX0_hasRow 2 (some .boolean)) { frames := 0, cells := 0, slots := 0, locals := 0 } [.ref aA, .int y0] [(aA, .inr (0, [.ref (qA 0), .int 0, .ref (qA 2), .ref (qA 3), .int 0, .ref (qA 5), .ref (qA 6), .ref (qA 7), .ref (qA 8), .ref (qA 9), .ref (qA 10), .ref (qA 11), .ref (qA 12), .ref (qA 13)]))] sz (fun (r : Int32) (u : Unit) => r = 0) (fun (u : Unit) => [(aA, .inr (0, [.ref (qA 0), .int 0, .ref (qA 2), .ref (qA 3), .int 0, .ref (qA 5), .ref (qA 6), .ref (qA 7), .ref (qA 8), .ref (qA 9), .ref (qA 10), .ref (qA 11), .ref (qA 12), .ref (qA 13)]))] : (Unit) → va_W) 0 0 := by
  refine g_enter (y := yX0_hasRow) (w := (wG yX0_hasRow cX0_hasRow 2 (some .boolean))) (As := [.ref aA, .int y0]) (D := D) (T := gT cI cB cS cZ cW) (ws := [(aA, .inr (0, [.ref (qA 0), .int 0, .ref (qA 2), .ref (qA 3), .int 0, .ref (qA 5), .ref (qA 6), .ref (qA 7), .ref (qA 8), .ref (qA 9), .ref (qA 10), .ref (qA 11), .ref (qA 12), .ref (qA 13)]))]) (gQi D (fun (r : Int32) (u : Unit) => r = 0) (fun (u : Unit) => [(aA, .inr (0, [.ref (qA 0), .int 0, .ref (qA 2), .ref (qA 3), .int 0, .ref (qA 5), .ref (qA 6), .ref (qA 7), .ref (qA 8), .ref (qA 9), .ref (qA 10), .ref (qA 11), .ref (qA 12), .ref (qA 13)]))] : (Unit) → va_W)) (cc := cX0_hasRow) (maxL := 2) (ret := (some .boolean)) (by decide) rfl (Nat.le_of_ble_eq_true rfl) ?_
  intro p e s m below meth c A ls hF hr hlocks hname hsz hE hA hP hD hS hl
  have hF : CallFix p m c cX0_hasRow 2 s ([.ref aA, .int y0] : List Value).toArray (wG yX0_hasRow cX0_hasRow 2 (some .boolean)) RX0 := hF
  obtain ⟨hx, hb, hml, hown, hts⟩ := id hF
  have htg : ∀ w ∈ GL, w.before ([.ref aA, .int y0] : List Value).toArray s = true := fun w h => hts w (List.mem_cons_of_mem _ h)
  have hl : lv_has ls 2 [(0, .ref aA), (1, .int y0)] := hl
  have z0 := t_0
  refine lv_iload_n hx hb dX0_hasRow_0 rfl (lv_at hl 1 rfl) ?_
  refine lv_if_lt (tgt := 16) hx hb dX0_hasRow_1 (by decide) (fun c1 => ?_) (fun c1 => ?_)
  · rw [i_lt] at c1
    refine lv_iconst (v := 0) hx hb dX0_hasRow_16 (by decide +kernel) ?_
    exact g_iret () hF hr rfl hlocks (hP.sub [0] rfl) (hD.sub [0] rfl rfl) hS rfl dX0_hasRow_17 (Nat.le_of_ble_eq_true rfl) (Nat.le_of_ble_eq_true rfl)
  · rw [i_lt] at c1
    refine lv_iload_n hx hb dX0_hasRow_4 rfl (lv_at hl 1 rfl) ?_
    refine lv_aload_n hx hb dX0_hasRow_5 rfl (lv_at hl 0 rfl) ?_
    refine va_get (D := D) (ci := 0) (v := .int 0) (C := RX0) (T := TX0) (N := 14) hx hb htg iwG_0 hown hE.1 hP 0 rfl rfl 4 (by decide) (htg _ wm_50) (fun _ h9 => h9) rfl dX0_hasRow_6 ?_
    refine lv_icmp_ge (tgt := 16) hx hb dX0_hasRow_9 (by decide) (fun _ => ?_) (fun c9 => absurd (i_le.mpr (by omega)) c9)
    refine lv_iconst (v := 0) hx hb dX0_hasRow_16 (by decide +kernel) ?_
    exact g_iret () hF hr rfl hlocks (hP.sub [0] rfl) (hD.sub [0] rfl rfl) hS rfl dX0_hasRow_17 (Nat.le_of_ble_eq_true rfl) (Nat.le_of_ble_eq_true rfl)
set_option maxHeartbeats 8000000 in
set_option maxRecDepth 100000 in
theorem c_X0_lasts {l : Launch} {D : va_G} {cI cB cS cZ cW : ClassId} {aA : Nat} {y0 : Int32} {qA : Nat → Nat}  {sz : Nat} : MI l D (gT cI cB cS cZ cW) yX0_lasts (wG yX0_lasts cX0_lasts 3 (some .boolean)) { frames := 0, cells := 0, slots := 0, locals := 0 } [.ref aA, .int y0, .int 0] [(aA, .inr (0, [.ref (qA 0), .int 0, .ref (qA 2), .ref (qA 3), .int 0, .ref (qA 5), .ref (qA 6), .ref (qA 7), .ref (qA 8), .ref (qA 9), .ref (qA 10), .ref (qA 11), .ref (qA 12), .ref (qA 13)]))] sz (fun (r : Int32) (u : Unit) => r = 0) (fun (u : Unit) => [(aA, .inr (0, [.ref (qA 0), .int 0, .ref (qA 2), .ref (qA 3), .int 0, .ref (qA 5), .ref (qA 6), .ref (qA 7), .ref (qA 8), .ref (qA 9), .ref (qA 10), .ref (qA 11), .ref (qA 12), .ref (qA 13)]))] : (Unit) → va_W) 0 0 := by
  refine g_enter (y := yX0_lasts) (w := (wG yX0_lasts cX0_lasts 3 (some .boolean))) (As := [.ref aA, .int y0, .int 0]) (D := D) (T := gT cI cB cS cZ cW) (ws := [(aA, .inr (0, [.ref (qA 0), .int 0, .ref (qA 2), .ref (qA 3), .int 0, .ref (qA 5), .ref (qA 6), .ref (qA 7), .ref (qA 8), .ref (qA 9), .ref (qA 10), .ref (qA 11), .ref (qA 12), .ref (qA 13)]))]) (gQi D (fun (r : Int32) (u : Unit) => r = 0) (fun (u : Unit) => [(aA, .inr (0, [.ref (qA 0), .int 0, .ref (qA 2), .ref (qA 3), .int 0, .ref (qA 5), .ref (qA 6), .ref (qA 7), .ref (qA 8), .ref (qA 9), .ref (qA 10), .ref (qA 11), .ref (qA 12), .ref (qA 13)]))] : (Unit) → va_W)) (cc := cX0_lasts) (maxL := 3) (ret := (some .boolean)) (by decide) rfl (Nat.le_of_ble_eq_true rfl) ?_
  intro p e s m below meth c A ls hF hr hlocks hname hsz hE hA hP hD hS hl
  have hF : CallFix p m c cX0_lasts 3 s ([.ref aA, .int y0, .int 0] : List Value).toArray (wG yX0_lasts cX0_lasts 3 (some .boolean)) RX0 := hF
  obtain ⟨hx, hb, hml, hown, hts⟩ := id hF
  have htg : ∀ w ∈ GL, w.before ([.ref aA, .int y0, .int 0] : List Value).toArray s = true := fun w h => hts w (List.mem_cons_of_mem _ h)
  have hl : lv_has ls 3 [(0, .ref aA), (1, .int y0), (2, .int 0)] := hl
  have z0 := t_0
  refine lv_iload_n hx hb dX0_lasts_0 rfl (lv_at hl 1 rfl) ?_
  refine lv_if_lt (tgt := 33) hx hb dX0_lasts_1 (by decide) (fun c1 => ?_) (fun c1 => ?_)
  · rw [i_lt] at c1
    refine lv_iconst (v := 0) hx hb dX0_lasts_33 (by decide +kernel) ?_
    exact g_iret () hF hr rfl hlocks (hP.sub [0] rfl) (hD.sub [0] rfl rfl) hS rfl dX0_lasts_34 (Nat.le_of_ble_eq_true rfl) (Nat.le_of_ble_eq_true rfl)
  · rw [i_lt] at c1
    refine lv_iload_n hx hb dX0_lasts_4 rfl (lv_at hl 1 rfl) ?_
    refine lv_aload_n hx hb dX0_lasts_5 rfl (lv_at hl 0 rfl) ?_
    refine va_get (D := D) (ci := 0) (v := .int 0) (C := RX0) (T := TX0) (N := 14) hx hb htg iwG_0 hown hE.1 hP 0 rfl rfl 1 (by decide) (htg _ wm_47) (fun _ h9 => h9) rfl dX0_lasts_6 ?_
    refine lv_icmp_ge (tgt := 33) hx hb dX0_lasts_9 (by decide) (fun _ => ?_) (fun c9 => absurd (i_le.mpr (by omega)) c9)
    refine lv_iconst (v := 0) hx hb dX0_lasts_33 (by decide +kernel) ?_
    exact g_iret () hF hr rfl hlocks (hP.sub [0] rfl) (hD.sub [0] rfl rfl) hS rfl dX0_lasts_34 (Nat.le_of_ble_eq_true rfl) (Nat.le_of_ble_eq_true rfl)
set_option maxHeartbeats 8000000 in
set_option maxRecDepth 100000 in
theorem c_X0_latestOf {l : Launch} {D : va_G} {cI cB cS cZ cW : ClassId} {aA : Nat} {y0 : Int32} {y1 : Int32} {qA : Nat → Nat}  {sz : Nat} : MI l D (gT cI cB cS cZ cW) yX0_latestOf (wG yX0_latestOf cX0_latestOf 4 (some .int)) { frames := 0, cells := 0, slots := 0, locals := 0 } [.ref aA, .int y0, .int y1] [(aA, .inr (0, [.ref (qA 0), .int 0, .ref (qA 2), .ref (qA 3), .int 0, .ref (qA 5), .ref (qA 6), .ref (qA 7), .ref (qA 8), .ref (qA 9), .ref (qA 10), .ref (qA 11), .ref (qA 12), .ref (qA 13)]))] sz (fun (r : Int32) (u : Unit) => r = (-1)) (fun (u : Unit) => [(aA, .inr (0, [.ref (qA 0), .int 0, .ref (qA 2), .ref (qA 3), .int 0, .ref (qA 5), .ref (qA 6), .ref (qA 7), .ref (qA 8), .ref (qA 9), .ref (qA 10), .ref (qA 11), .ref (qA 12), .ref (qA 13)]))] : (Unit) → va_W) 0 0 := by
  refine g_enter (y := yX0_latestOf) (w := (wG yX0_latestOf cX0_latestOf 4 (some .int))) (As := [.ref aA, .int y0, .int y1]) (D := D) (T := gT cI cB cS cZ cW) (ws := [(aA, .inr (0, [.ref (qA 0), .int 0, .ref (qA 2), .ref (qA 3), .int 0, .ref (qA 5), .ref (qA 6), .ref (qA 7), .ref (qA 8), .ref (qA 9), .ref (qA 10), .ref (qA 11), .ref (qA 12), .ref (qA 13)]))]) (gQi D (fun (r : Int32) (u : Unit) => r = (-1)) (fun (u : Unit) => [(aA, .inr (0, [.ref (qA 0), .int 0, .ref (qA 2), .ref (qA 3), .int 0, .ref (qA 5), .ref (qA 6), .ref (qA 7), .ref (qA 8), .ref (qA 9), .ref (qA 10), .ref (qA 11), .ref (qA 12), .ref (qA 13)]))] : (Unit) → va_W)) (cc := cX0_latestOf) (maxL := 4) (ret := (some .int)) (by decide) rfl (Nat.le_of_ble_eq_true rfl) ?_
  intro p e s m below meth c A ls hF hr hlocks hname hsz hE hA hP hD hS hl
  have hF : CallFix p m c cX0_latestOf 4 s ([.ref aA, .int y0, .int y1] : List Value).toArray (wG yX0_latestOf cX0_latestOf 4 (some .int)) RX0 := hF
  obtain ⟨hx, hb, hml, hown, hts⟩ := id hF
  have htg : ∀ w ∈ GL, w.before ([.ref aA, .int y0, .int y1] : List Value).toArray s = true := fun w h => hts w (List.mem_cons_of_mem _ h)
  have hl : lv_has ls 4 [(0, .ref aA), (1, .int y0), (2, .int y1)] := hl
  have zm1 := tm_1
  have z0 := t_0
  have z1 := t_1
  refine lv_aload_n hx hb dX0_latestOf_0 rfl (lv_at hl 0 rfl) ?_
  refine va_get (D := D) (ci := 0) (v := .int 0) (C := RX0) (T := TX0) (N := 14) hx hb htg iwG_0 hown hE.1 hP 0 rfl rfl 4 (by decide) (htg _ wm_50) (fun _ h9 => h9) rfl dX0_latestOf_1 ?_
  refine lv_iconst (v := 1) hx hb dX0_latestOf_4 (by decide +kernel) ?_
  refine lv_isub hx hb dX0_latestOf_5 ?_
  refine g_top (-1) (by decide +kernel) ?_
  refine lv_istore_n (lv' := [(3, .int (-1)), (0, .ref aA), (1, .int y0), (2, .int y1)]) hx hb dX0_latestOf_6 rfl hl (by decide) rfl (fun ls hl => ?_)
  refine lv_iload_n hx hb dX0_latestOf_7 rfl (lv_at hl 0 rfl) ?_
  refine lv_if_lt (tgt := 39) hx hb dX0_latestOf_8 (by decide) (fun _ => ?_) (fun c9 => absurd c9 (by decide +kernel))
  refine lv_iconst (v := (-1)) hx hb dX0_latestOf_39 (by decide +kernel) ?_
  exact g_iret () hF hr rfl hlocks (hP.sub [0] rfl) (hD.sub [0] rfl rfl) hS rfl dX0_latestOf_40 (Nat.le_of_ble_eq_true rfl) (Nat.le_of_ble_eq_true rfl)
set_option maxHeartbeats 8000000 in
set_option maxRecDepth 100000 in
theorem c_X0_setLetter {l : Launch} {D : va_G} {cI cB cS cZ cW : ClassId} {aA : Nat} {y0 : Int32} {y1 : Int32} {y2 : Int32} {qA : Nat → Nat} {fL : Nat → Int32}  {sz : Nat} : MI l D (gT cI cB cS cZ cW) yX0_setLetter (wG yX0_setLetter cX0_setLetter 5 (some .boolean)) { frames := 1, cells := 0, slots := 0, locals := 22 } [.ref aA, .int y0, .int y1, .int y2] [(aA, .inr (0, [.ref (qA 0), .int 0, .ref (qA 2), .ref (qA 3), .int 0, .ref (qA 5), .ref (qA 6), .ref (qA 7), .ref (qA 8), .ref (qA 9), .ref (qA 10), .ref (qA 11), .ref (qA 12), .ref (qA 13)])), ((qA 0), .inl (cI, 32, .inl fL))] sz (fun (r : Int32) (u : Unit) => r = S_letter y0 y1 y2) (fun (u : Unit) => [] : (Unit) → va_W) 0 0 := by
  refine g_enter (y := yX0_setLetter) (w := (wG yX0_setLetter cX0_setLetter 5 (some .boolean))) (As := [.ref aA, .int y0, .int y1, .int y2]) (D := D) (T := gT cI cB cS cZ cW) (ws := [(aA, .inr (0, [.ref (qA 0), .int 0, .ref (qA 2), .ref (qA 3), .int 0, .ref (qA 5), .ref (qA 6), .ref (qA 7), .ref (qA 8), .ref (qA 9), .ref (qA 10), .ref (qA 11), .ref (qA 12), .ref (qA 13)])), ((qA 0), .inl (cI, 32, .inl fL))]) (gQi D (fun (r : Int32) (u : Unit) => r = S_letter y0 y1 y2) (fun (u : Unit) => [] : (Unit) → va_W)) (cc := cX0_setLetter) (maxL := 5) (ret := (some .boolean)) (by decide) rfl (Nat.le_of_ble_eq_true rfl) ?_
  intro p e s m below meth c A ls hF hr hlocks hname hsz hE hA hP hD hS hl
  have hF : CallFix p m c cX0_setLetter 5 s ([.ref aA, .int y0, .int y1, .int y2] : List Value).toArray (wG yX0_setLetter cX0_setLetter 5 (some .boolean)) RX0 := hF
  obtain ⟨hx, hb, hml, hown, hts⟩ := id hF
  have htg : ∀ w ∈ GL, w.before ([.ref aA, .int y0, .int y1, .int y2] : List Value).toArray s = true := fun w h => hts w (List.mem_cons_of_mem _ h)
  have hl : lv_has ls 5 [(0, .ref aA), (1, .int y0), (2, .int y1), (3, .int y2)] := hl
  have z0 := t_0
  have z1 := t_1
  have z3 := t_3
  have z8 := t_8
  have z15 := t_15
  refine lv_iload_n hx hb dX0_setLetter_0 rfl (lv_at hl 1 rfl) ?_
  refine lv_iconst (v := 0) hx hb dX0_setLetter_1 (by decide +kernel) ?_
  refine lv_iconst (v := 3) hx hb dX0_setLetter_2 (by decide +kernel) ?_
  refine g_ai (D := D) (wc := []) (wr := [(aA, .inr (0, [.ref (qA 0), .int 0, .ref (qA 2), .ref (qA 3), .int 0, .ref (qA 5), .ref (qA 6), .ref (qA 7), .ref (qA 8), .ref (qA 9), .ref (qA 10), .ref (qA 11), .ref (qA 12), .ref (qA 13)])), ((qA 0), .inl (cI, 32, .inl fL))]) hP hD hS hA [] [0, 1] rfl rfl rfl rfl (by decide) (fun hPc hDc => va_runSN (As := [.int y0, .int 0, .int 3]) (rest := []) hF (c_X11_within (l := l) (D := D) (cI := cI) (cB := cB) (cS := cS) (cZ := cZ) (cW := cW) (y0 := y0) (y1 := 0) (y2 := 3)) ⟨(va_cnB (host := "LastTongue") 3 hts (gGI (fun _ h => List.mem_cons_of_mem _ h) wm_150) rfl rfl rfl (hE.2.1 (RX0, 67, yX11_within, "LastTongue") (List.mem_of_getElem? (i := 12) rfl)) (htg _ wm_151) (by decide +kernel) ⟨Nat.le_of_ble_eq_true rfl, Nat.le_of_ble_eq_true rfl⟩), (htg _ wm_152), trivial⟩ (g_preS hE hPc hDc) rfl rfl hl.1 rfl (lv_room (Nat.le_of_ble_eq_true rfl)) dX0_setLetter_3 ⟨Nat.le_of_ble_eq_true rfl, Nat.le_of_ble_eq_true rfl⟩) (fun r1 u2 H locs p3 hP hD hS => ?_)
  have hP : va_P D vwCl [(aA, .inr (0, [.ref (qA 0), .int 0, .ref (qA 2), .ref (qA 3), .int 0, .ref (qA 5), .ref (qA 6), .ref (qA 7), .ref (qA 8), .ref (qA 9), .ref (qA 10), .ref (qA 11), .ref (qA 12), .ref (qA 13)])), ((qA 0), .inl (cI, 32, .inl fL))] H := hP
  have hD : va_D A [(aA, .inr (0, [.ref (qA 0), .int 0, .ref (qA 2), .ref (qA 3), .int 0, .ref (qA 5), .ref (qA 6), .ref (qA 7), .ref (qA 8), .ref (qA 9), .ref (qA 10), .ref (qA 11), .ref (qA 12), .ref (qA 13)])), ((qA 0), .inl (cI, 32, .inl fL))] := hD
  rcases p3 with ⟨rfl, p3a⟩ | ⟨rfl, p3a⟩
  · skip
    refine lv_if_eq (tgt := 33) hx hb dX0_setLetter_6 (by decide) (fun c9 => absurd c9 (by decide +kernel)) (fun _ => ?_)
    refine lv_iload_n hx hb dX0_setLetter_9 rfl (lv_at hl 2 rfl) ?_
    refine lv_iconst (v := 1) hx hb dX0_setLetter_10 (by decide +kernel) ?_
    refine lv_bipush (v := 8) hx hb dX0_setLetter_11 (by decide +kernel) ?_
    refine g_ai (D := D) (wc := []) (wr := [(aA, .inr (0, [.ref (qA 0), .int 0, .ref (qA 2), .ref (qA 3), .int 0, .ref (qA 5), .ref (qA 6), .ref (qA 7), .ref (qA 8), .ref (qA 9), .ref (qA 10), .ref (qA 11), .ref (qA 12), .ref (qA 13)])), ((qA 0), .inl (cI, 32, .inl fL))]) hP hD hS hA [] [0, 1] rfl rfl rfl rfl (by decide) (fun hPc hDc => va_runSN (As := [.int y1, .int 1, .int 8]) (rest := []) hF (c_X11_within (l := l) (D := D) (cI := cI) (cB := cB) (cS := cS) (cZ := cZ) (cW := cW) (y0 := y1) (y1 := 1) (y2 := 8)) ⟨(va_cnB (host := "LastTongue") 3 hts (gGI (fun _ h => List.mem_cons_of_mem _ h) wm_150) rfl rfl rfl (hE.2.1 (RX0, 67, yX11_within, "LastTongue") (List.mem_of_getElem? (i := 12) rfl)) (htg _ wm_151) (by decide +kernel) ⟨Nat.le_of_ble_eq_true rfl, Nat.le_of_ble_eq_true rfl⟩), (htg _ wm_152), trivial⟩ (g_preS hE hPc hDc) rfl rfl hl.1 rfl (lv_room (Nat.le_of_ble_eq_true rfl)) dX0_setLetter_13 ⟨Nat.le_of_ble_eq_true rfl, Nat.le_of_ble_eq_true rfl⟩) (fun r4 u5 H locs p6 hP hD hS => ?_)
    have hP : va_P D vwCl [(aA, .inr (0, [.ref (qA 0), .int 0, .ref (qA 2), .ref (qA 3), .int 0, .ref (qA 5), .ref (qA 6), .ref (qA 7), .ref (qA 8), .ref (qA 9), .ref (qA 10), .ref (qA 11), .ref (qA 12), .ref (qA 13)])), ((qA 0), .inl (cI, 32, .inl fL))] H := hP
    have hD : va_D A [(aA, .inr (0, [.ref (qA 0), .int 0, .ref (qA 2), .ref (qA 3), .int 0, .ref (qA 5), .ref (qA 6), .ref (qA 7), .ref (qA 8), .ref (qA 9), .ref (qA 10), .ref (qA 11), .ref (qA 12), .ref (qA 13)])), ((qA 0), .inl (cI, 32, .inl fL))] := hD
    rcases p6 with ⟨rfl, p6a⟩ | ⟨rfl, p6a⟩
    · skip
      refine lv_if_eq (tgt := 33) hx hb dX0_setLetter_16 (by decide) (fun c9 => absurd c9 (by decide +kernel)) (fun _ => ?_)
      refine lv_iload_n hx hb dX0_setLetter_19 rfl (lv_at hl 3 rfl) ?_
      refine lv_iconst (v := 1) hx hb dX0_setLetter_20 (by decide +kernel) ?_
      refine lv_bipush (v := 15) hx hb dX0_setLetter_21 (by decide +kernel) ?_
      refine g_ai (D := D) (wc := []) (wr := [(aA, .inr (0, [.ref (qA 0), .int 0, .ref (qA 2), .ref (qA 3), .int 0, .ref (qA 5), .ref (qA 6), .ref (qA 7), .ref (qA 8), .ref (qA 9), .ref (qA 10), .ref (qA 11), .ref (qA 12), .ref (qA 13)])), ((qA 0), .inl (cI, 32, .inl fL))]) hP hD hS hA [] [0, 1] rfl rfl rfl rfl (by decide) (fun hPc hDc => va_runSN (As := [.int y2, .int 1, .int 15]) (rest := []) hF (c_X11_within (l := l) (D := D) (cI := cI) (cB := cB) (cS := cS) (cZ := cZ) (cW := cW) (y0 := y2) (y1 := 1) (y2 := 15)) ⟨(va_cnB (host := "LastTongue") 3 hts (gGI (fun _ h => List.mem_cons_of_mem _ h) wm_150) rfl rfl rfl (hE.2.1 (RX0, 67, yX11_within, "LastTongue") (List.mem_of_getElem? (i := 12) rfl)) (htg _ wm_151) (by decide +kernel) ⟨Nat.le_of_ble_eq_true rfl, Nat.le_of_ble_eq_true rfl⟩), (htg _ wm_152), trivial⟩ (g_preS hE hPc hDc) rfl rfl hl.1 rfl (lv_room (Nat.le_of_ble_eq_true rfl)) dX0_setLetter_23 ⟨Nat.le_of_ble_eq_true rfl, Nat.le_of_ble_eq_true rfl⟩) (fun r7 u8 H locs p9 hP hD hS => ?_)
      have hP : va_P D vwCl [(aA, .inr (0, [.ref (qA 0), .int 0, .ref (qA 2), .ref (qA 3), .int 0, .ref (qA 5), .ref (qA 6), .ref (qA 7), .ref (qA 8), .ref (qA 9), .ref (qA 10), .ref (qA 11), .ref (qA 12), .ref (qA 13)])), ((qA 0), .inl (cI, 32, .inl fL))] H := hP
      have hD : va_D A [(aA, .inr (0, [.ref (qA 0), .int 0, .ref (qA 2), .ref (qA 3), .int 0, .ref (qA 5), .ref (qA 6), .ref (qA 7), .ref (qA 8), .ref (qA 9), .ref (qA 10), .ref (qA 11), .ref (qA 12), .ref (qA 13)])), ((qA 0), .inl (cI, 32, .inl fL))] := hD
      rcases p9 with ⟨rfl, p9a⟩ | ⟨rfl, p9a⟩
      · skip
        refine lv_if_eq (tgt := 33) hx hb dX0_setLetter_26 (by decide) (fun c9 => absurd c9 (by decide +kernel)) (fun _ => ?_)
        refine lv_iconst (v := 1) hx hb dX0_setLetter_29 (by decide +kernel) ?_
        refine lv_goto (tgt := 34) hx hb dX0_setLetter_30 (by decide) ?_
        refine lv_istore (lv' := [(4, .int 1), (0, .ref aA), (1, .int y0), (2, .int y1), (3, .int y2)]) hx hb dX0_setLetter_34 hl (by decide) rfl (fun ls hl => ?_)
        refine lv_iload hx hb dX0_setLetter_36 (lv_at hl 0 rfl) ?_
        refine lv_if_ne (tgt := 43) hx hb dX0_setLetter_38 (by decide) (fun _ => ?_) (fun c9 => absurd c9 (by decide +kernel))
        refine lv_aload_n hx hb dX0_setLetter_43 rfl (lv_at hl 1 rfl) ?_
        refine va_get (D := D) (ci := 0) (v := .ref (qA 0)) (C := RX0) (T := TX0) (N := 14) hx hb htg iwG_0 hown hE.1 hP 0 rfl rfl 0 (by decide) (htg _ wm_46) (fun _ h9 => h9) rfl dX0_setLetter_44 ?_
        refine lv_iload_n hx hb dX0_setLetter_47 rfl (lv_at hl 2 rfl) ?_
        refine lv_bipush (v := 8) hx hb dX0_setLetter_48 (by decide +kernel) ?_
        refine lv_imul hx hb dX0_setLetter_50 ?_
        refine lv_topi (fun v10 ev10 => ?_)
        have iv10 : v10.toInt = y0.toInt * 8 := by
          have h := fb_mulI (x := y0) (y := 8) (by rw [t_8]; omega) (by rw [t_8]; omega)
          rw [t_8] at h; rw [ev10]; exact h
        refine lv_iload_n hx hb dX0_setLetter_51 rfl (lv_at hl 3 rfl) ?_
        refine lv_iadd hx hb dX0_setLetter_52 ?_
        refine lv_topi (fun v11 ev11 => ?_)
        have iv11 : v11.toInt = (v10 : Int32).toInt + (y1 : Int32).toInt := by rw [ev11]; exact fb_addI (by omega) (by omega)
        refine lv_iconst (v := 1) hx hb dX0_setLetter_53 (by decide +kernel) ?_
        refine lv_isub hx hb dX0_setLetter_54 ?_
        refine lv_topi (fun v12 ev12 => ?_)
        have iv12 : v12.toInt = (v11 : Int32).toInt - (1 : Int32).toInt := by rw [ev12]; exact fb_subI (by omega) (by omega)
        refine lv_iload_n hx hb dX0_setLetter_55 rfl (lv_at hl 4 rfl) ?_
        refine va_iast hx hb hE.1 hP hD hS 1 0 rfl rfl (vp_in_iff.mpr ⟨by omega, by omega⟩) dX0_setLetter_56 (fun H locs hP hD hS => ?_)
        obtain ⟨g13, eg13⟩ : ∃ gz : Nat → Int32, gz = upd fL (v12 : Int32).toNatClampNeg y2 := ⟨_, rfl⟩
        have hP : va_P D vwCl [(aA, .inr (0, [.ref (qA 0), .int 0, .ref (qA 2), .ref (qA 3), .int 0, .ref (qA 5), .ref (qA 6), .ref (qA 7), .ref (qA 8), .ref (qA 9), .ref (qA 10), .ref (qA 11), .ref (qA 12), .ref (qA 13)])), ((qA 0), .inl (cI, 32, .inl g13))] H := by rw [eg13]; exact hP
        have hD : va_D A [(aA, .inr (0, [.ref (qA 0), .int 0, .ref (qA 2), .ref (qA 3), .int 0, .ref (qA 5), .ref (qA 6), .ref (qA 7), .ref (qA 8), .ref (qA 9), .ref (qA 10), .ref (qA 11), .ref (qA 12), .ref (qA 13)])), ((qA 0), .inl (cI, 32, .inl g13))] := by rw [eg13]; exact hD
        refine lv_iconst (v := 1) hx hb dX0_setLetter_57 (by decide +kernel) ?_
        exact g_iret () hF hr rfl hlocks (hP.sub [] rfl) (hD.sub [] rfl rfl) hS (by show (_ : Int32) = _; unfold S_letter; (repeat' split) <;> first | rfl | (exfalso; omega) | omega) dX0_setLetter_58 (Nat.le_of_ble_eq_true rfl) (Nat.le_of_ble_eq_true rfl)
      · skip
        refine lv_if_eq (tgt := 33) hx hb dX0_setLetter_26 (by decide) (fun _ => ?_) (fun c9 => absurd c9 (by decide +kernel))
        refine lv_iconst (v := 0) hx hb dX0_setLetter_33 (by decide +kernel) ?_
        refine lv_istore (lv' := [(4, .int 0), (0, .ref aA), (1, .int y0), (2, .int y1), (3, .int y2)]) hx hb dX0_setLetter_34 hl (by decide) rfl (fun ls hl => ?_)
        refine lv_iload hx hb dX0_setLetter_36 (lv_at hl 0 rfl) ?_
        refine lv_if_ne (tgt := 43) hx hb dX0_setLetter_38 (by decide) (fun c9 => absurd c9 (by decide +kernel)) (fun _ => ?_)
        refine lv_iconst (v := 0) hx hb dX0_setLetter_41 (by decide +kernel) ?_
        exact g_iret () hF hr rfl hlocks (hP.sub [] rfl) (hD.sub [] rfl rfl) hS (by show (_ : Int32) = _; unfold S_letter; (repeat' split) <;> first | rfl | (exfalso; omega) | omega) dX0_setLetter_42 (Nat.le_of_ble_eq_true rfl) (Nat.le_of_ble_eq_true rfl)
    · skip
      refine lv_if_eq (tgt := 33) hx hb dX0_setLetter_16 (by decide) (fun _ => ?_) (fun c9 => absurd c9 (by decide +kernel))
      refine lv_iconst (v := 0) hx hb dX0_setLetter_33 (by decide +kernel) ?_
      refine lv_istore (lv' := [(4, .int 0), (0, .ref aA), (1, .int y0), (2, .int y1), (3, .int y2)]) hx hb dX0_setLetter_34 hl (by decide) rfl (fun ls hl => ?_)
      refine lv_iload hx hb dX0_setLetter_36 (lv_at hl 0 rfl) ?_
      refine lv_if_ne (tgt := 43) hx hb dX0_setLetter_38 (by decide) (fun c9 => absurd c9 (by decide +kernel)) (fun _ => ?_)
      refine lv_iconst (v := 0) hx hb dX0_setLetter_41 (by decide +kernel) ?_
      exact g_iret () hF hr rfl hlocks (hP.sub [] rfl) (hD.sub [] rfl rfl) hS (by show (_ : Int32) = _; unfold S_letter; (repeat' split) <;> first | rfl | (exfalso; omega) | omega) dX0_setLetter_42 (Nat.le_of_ble_eq_true rfl) (Nat.le_of_ble_eq_true rfl)
  · skip
    refine lv_if_eq (tgt := 33) hx hb dX0_setLetter_6 (by decide) (fun _ => ?_) (fun c9 => absurd c9 (by decide +kernel))
    refine lv_iconst (v := 0) hx hb dX0_setLetter_33 (by decide +kernel) ?_
    refine lv_istore (lv' := [(4, .int 0), (0, .ref aA), (1, .int y0), (2, .int y1), (3, .int y2)]) hx hb dX0_setLetter_34 hl (by decide) rfl (fun ls hl => ?_)
    refine lv_iload hx hb dX0_setLetter_36 (lv_at hl 0 rfl) ?_
    refine lv_if_ne (tgt := 43) hx hb dX0_setLetter_38 (by decide) (fun c9 => absurd c9 (by decide +kernel)) (fun _ => ?_)
    refine lv_iconst (v := 0) hx hb dX0_setLetter_41 (by decide +kernel) ?_
    exact g_iret () hF hr rfl hlocks (hP.sub [] rfl) (hD.sub [] rfl rfl) hS (by show (_ : Int32) = _; unfold S_letter; (repeat' split) <;> first | rfl | (exfalso; omega) | omega) dX0_setLetter_42 (Nat.le_of_ble_eq_true rfl) (Nat.le_of_ble_eq_true rfl)
set_option maxHeartbeats 8000000 in
set_option maxRecDepth 100000 in
theorem c_X0_addTape {l : Launch} {D : va_G} {cI cB cS cZ cW : ClassId} {aA : Nat} {y0 : Int32} {qA : Nat → Nat}  {sz : Nat} : MI l D (gT cI cB cS cZ cW) yX0_addTape (wG yX0_addTape cX0_addTape 3 (some .int)) { frames := 1, cells := 0, slots := 0, locals := 22 } [.ref aA, .int y0, .int 0] [(aA, .inr (0, [.ref (qA 0), .int 0, .ref (qA 2), .ref (qA 3), .int 0, .ref (qA 5), .ref (qA 6), .ref (qA 7), .ref (qA 8), .ref (qA 9), .ref (qA 10), .ref (qA 11), .ref (qA 12), .ref (qA 13)])), ((qA 2), .inl (cI, 16, .inl (fun _ => 0))), ((qA 3), .inl (cI, 16, .inl (fun _ => 0)))] sz (fun (r : Int32) (u : Unit) => r = S_tape y0) (fun (u : Unit) => [] : (Unit) → va_W) 0 0 := by
  refine g_enter (y := yX0_addTape) (w := (wG yX0_addTape cX0_addTape 3 (some .int))) (As := [.ref aA, .int y0, .int 0]) (D := D) (T := gT cI cB cS cZ cW) (ws := [(aA, .inr (0, [.ref (qA 0), .int 0, .ref (qA 2), .ref (qA 3), .int 0, .ref (qA 5), .ref (qA 6), .ref (qA 7), .ref (qA 8), .ref (qA 9), .ref (qA 10), .ref (qA 11), .ref (qA 12), .ref (qA 13)])), ((qA 2), .inl (cI, 16, .inl (fun _ => 0))), ((qA 3), .inl (cI, 16, .inl (fun _ => 0)))]) (gQi D (fun (r : Int32) (u : Unit) => r = S_tape y0) (fun (u : Unit) => [] : (Unit) → va_W)) (cc := cX0_addTape) (maxL := 3) (ret := (some .int)) (by decide) rfl (Nat.le_of_ble_eq_true rfl) ?_
  intro p e s m below meth c A ls hF hr hlocks hname hsz hE hA hP hD hS hl
  have hF : CallFix p m c cX0_addTape 3 s ([.ref aA, .int y0, .int 0] : List Value).toArray (wG yX0_addTape cX0_addTape 3 (some .int)) RX0 := hF
  obtain ⟨hx, hb, hml, hown, hts⟩ := id hF
  have htg : ∀ w ∈ GL, w.before ([.ref aA, .int y0, .int 0] : List Value).toArray s = true := fun w h => hts w (List.mem_cons_of_mem _ h)
  have hl : lv_has ls 3 [(0, .ref aA), (1, .int y0), (2, .int 0)] := hl
  have zm1 := tm_1
  have z0 := t_0
  have z1 := t_1
  have z16 := t_16
  have z400 := t_400
  refine lv_aload_n hx hb dX0_addTape_0 rfl (lv_at hl 0 rfl) ?_
  refine va_get (D := D) (ci := 0) (v := .int 0) (C := RX0) (T := TX0) (N := 14) hx hb htg iwG_0 hown hE.1 hP 0 rfl rfl 1 (by decide) (htg _ wm_47) (fun _ h9 => h9) rfl dX0_addTape_1 ?_
  refine lv_bipush (v := 16) hx hb dX0_addTape_4 (by decide +kernel) ?_
  refine lv_icmp_ge (tgt := 20) hx hb dX0_addTape_6 (by decide) (fun c9 => absurd c9 (by decide +kernel)) (fun _ => ?_)
  refine lv_iload_n hx hb dX0_addTape_9 rfl (lv_at hl 1 rfl) ?_
  refine lv_iconst (v := 1) hx hb dX0_addTape_10 (by decide +kernel) ?_
  refine lv_sipush (v := 400) hx hb dX0_addTape_11 (by decide +kernel) ?_
  refine g_ai (D := D) (wc := []) (wr := [(aA, .inr (0, [.ref (qA 0), .int 0, .ref (qA 2), .ref (qA 3), .int 0, .ref (qA 5), .ref (qA 6), .ref (qA 7), .ref (qA 8), .ref (qA 9), .ref (qA 10), .ref (qA 11), .ref (qA 12), .ref (qA 13)])), ((qA 2), .inl (cI, 16, .inl (fun _ => 0))), ((qA 3), .inl (cI, 16, .inl (fun _ => 0)))]) hP hD hS hA [] [0, 1, 2] rfl rfl rfl rfl (by decide) (fun hPc hDc => va_runSN (As := [.int y0, .int 1, .int 400]) (rest := []) hF (c_X11_within (l := l) (D := D) (cI := cI) (cB := cB) (cS := cS) (cZ := cZ) (cW := cW) (y0 := y0) (y1 := 1) (y2 := 400)) ⟨(va_cnB (host := "LastTongue") 3 hts (gGI (fun _ h => List.mem_cons_of_mem _ h) wm_150) rfl rfl rfl (hE.2.1 (RX0, 67, yX11_within, "LastTongue") (List.mem_of_getElem? (i := 12) rfl)) (htg _ wm_151) (by decide +kernel) ⟨Nat.le_of_ble_eq_true rfl, Nat.le_of_ble_eq_true rfl⟩), (htg _ wm_152), trivial⟩ (g_preS hE hPc hDc) rfl rfl hl.1 rfl (lv_room (Nat.le_of_ble_eq_true rfl)) dX0_addTape_14 ⟨Nat.le_of_ble_eq_true rfl, Nat.le_of_ble_eq_true rfl⟩) (fun r1 u2 H locs p3 hP hD hS => ?_)
  have hP : va_P D vwCl [(aA, .inr (0, [.ref (qA 0), .int 0, .ref (qA 2), .ref (qA 3), .int 0, .ref (qA 5), .ref (qA 6), .ref (qA 7), .ref (qA 8), .ref (qA 9), .ref (qA 10), .ref (qA 11), .ref (qA 12), .ref (qA 13)])), ((qA 2), .inl (cI, 16, .inl (fun _ => 0))), ((qA 3), .inl (cI, 16, .inl (fun _ => 0)))] H := hP
  have hD : va_D A [(aA, .inr (0, [.ref (qA 0), .int 0, .ref (qA 2), .ref (qA 3), .int 0, .ref (qA 5), .ref (qA 6), .ref (qA 7), .ref (qA 8), .ref (qA 9), .ref (qA 10), .ref (qA 11), .ref (qA 12), .ref (qA 13)])), ((qA 2), .inl (cI, 16, .inl (fun _ => 0))), ((qA 3), .inl (cI, 16, .inl (fun _ => 0)))] := hD
  rcases p3 with ⟨rfl, p3a⟩ | ⟨rfl, p3a⟩
  · skip
    refine lv_if_ne (tgt := 22) hx hb dX0_addTape_17 (by decide) (fun _ => ?_) (fun c9 => absurd c9 (by decide +kernel))
    refine lv_aload_n hx hb dX0_addTape_22 rfl (lv_at hl 0 rfl) ?_
    refine va_get (D := D) (ci := 0) (v := .ref (qA 2)) (C := RX0) (T := TX0) (N := 14) hx hb htg iwG_0 hown hE.1 hP 0 rfl rfl 2 (by decide) (htg _ wm_48) (fun _ h9 => h9) rfl dX0_addTape_23 ?_
    refine lv_aload_n hx hb dX0_addTape_26 rfl (lv_at hl 0 rfl) ?_
    refine va_get (D := D) (ci := 0) (v := .int 0) (C := RX0) (T := TX0) (N := 14) hx hb htg iwG_0 hown hE.1 hP 0 rfl rfl 1 (by decide) (htg _ wm_47) (fun _ h9 => h9) rfl dX0_addTape_27 ?_
    refine lv_iload_n hx hb dX0_addTape_30 rfl (lv_at hl 1 rfl) ?_
    refine va_iast hx hb hE.1 hP hD hS 1 0 rfl rfl (vp_in_iff.mpr ⟨by decide +kernel, by decide +kernel⟩) dX0_addTape_31 (fun H locs hP hD hS => ?_)
    obtain ⟨g4, eg4⟩ : ∃ gz : Nat → Int32, gz = upd (fun _ => 0) (0 : Int32).toNatClampNeg y0 := ⟨_, rfl⟩
    have hP : va_P D vwCl [(aA, .inr (0, [.ref (qA 0), .int 0, .ref (qA 2), .ref (qA 3), .int 0, .ref (qA 5), .ref (qA 6), .ref (qA 7), .ref (qA 8), .ref (qA 9), .ref (qA 10), .ref (qA 11), .ref (qA 12), .ref (qA 13)])), ((qA 2), .inl (cI, 16, .inl g4)), ((qA 3), .inl (cI, 16, .inl (fun _ => 0)))] H := by rw [eg4]; exact hP
    have hD : va_D A [(aA, .inr (0, [.ref (qA 0), .int 0, .ref (qA 2), .ref (qA 3), .int 0, .ref (qA 5), .ref (qA 6), .ref (qA 7), .ref (qA 8), .ref (qA 9), .ref (qA 10), .ref (qA 11), .ref (qA 12), .ref (qA 13)])), ((qA 2), .inl (cI, 16, .inl g4)), ((qA 3), .inl (cI, 16, .inl (fun _ => 0)))] := by rw [eg4]; exact hD
    refine lv_aload_n hx hb dX0_addTape_32 rfl (lv_at hl 0 rfl) ?_
    refine va_get (D := D) (ci := 0) (v := .ref (qA 3)) (C := RX0) (T := TX0) (N := 14) hx hb htg iwG_0 hown hE.1 hP 0 rfl rfl 3 (by decide) (htg _ wm_49) (fun _ h9 => h9) rfl dX0_addTape_33 ?_
    refine lv_aload_n hx hb dX0_addTape_36 rfl (lv_at hl 0 rfl) ?_
    refine va_get (D := D) (ci := 0) (v := .int 0) (C := RX0) (T := TX0) (N := 14) hx hb htg iwG_0 hown hE.1 hP 0 rfl rfl 1 (by decide) (htg _ wm_47) (fun _ h9 => h9) rfl dX0_addTape_37 ?_
    refine lv_iload_n hx hb dX0_addTape_40 rfl (lv_at hl 2 rfl) ?_
    refine va_iast hx hb hE.1 hP hD hS 2 0 rfl rfl (vp_in_iff.mpr ⟨by decide +kernel, by decide +kernel⟩) dX0_addTape_41 (fun H locs hP hD hS => ?_)
    obtain ⟨g5, eg5, fg5⟩ : ∃ gz : Nat → Int32, gz = upd (fun _ => 0) (0 : Int32).toNatClampNeg 0 ∧ gz (0 : Int32).toNatClampNeg = 0 := ⟨_, rfl, pk_us⟩
    have hP : va_P D vwCl [(aA, .inr (0, [.ref (qA 0), .int 0, .ref (qA 2), .ref (qA 3), .int 0, .ref (qA 5), .ref (qA 6), .ref (qA 7), .ref (qA 8), .ref (qA 9), .ref (qA 10), .ref (qA 11), .ref (qA 12), .ref (qA 13)])), ((qA 2), .inl (cI, 16, .inl g4)), ((qA 3), .inl (cI, 16, .inl g5))] H := by rw [eg5]; exact hP
    have hD : va_D A [(aA, .inr (0, [.ref (qA 0), .int 0, .ref (qA 2), .ref (qA 3), .int 0, .ref (qA 5), .ref (qA 6), .ref (qA 7), .ref (qA 8), .ref (qA 9), .ref (qA 10), .ref (qA 11), .ref (qA 12), .ref (qA 13)])), ((qA 2), .inl (cI, 16, .inl g4)), ((qA 3), .inl (cI, 16, .inl g5))] := by rw [eg5]; exact hD
    refine lv_aload_n hx hb dX0_addTape_42 rfl (lv_at hl 0 rfl) ?_
    refine lv_dup hx hb dX0_addTape_43 rfl ?_
    refine va_get (D := D) (ci := 0) (v := .int 0) (C := RX0) (T := TX0) (N := 14) hx hb htg iwG_0 hown hE.1 hP 0 rfl rfl 1 (by decide) (htg _ wm_47) (fun _ h9 => h9) rfl dX0_addTape_44 ?_
    refine lv_iconst (v := 1) hx hb dX0_addTape_47 (by decide +kernel) ?_
    refine lv_iadd hx hb dX0_addTape_48 ?_
    refine g_top 1 (by decide +kernel) ?_
    refine va_put (D := D) (ci := 0) (v := .int 1) (ty := tyX0 1) (C := RX0) (T := TX0) (N := 14) hx hb htg iwG_0 tyX0 tyX0_ok nmX0 hown hE.1 hP hD hS 0 rfl rfl 1 (by decide) (htg _ wm_47) (fun _ h9 => h9) rfl (by decide +kernel) rfl rfl (Nat.le_of_ble_eq_true rfl) dX0_addTape_49 (fun H locs hP hD hS => ?_)
    have hP : va_P D vwCl [(aA, .inr (0, [.ref (qA 0), .int 1, .ref (qA 2), .ref (qA 3), .int 0, .ref (qA 5), .ref (qA 6), .ref (qA 7), .ref (qA 8), .ref (qA 9), .ref (qA 10), .ref (qA 11), .ref (qA 12), .ref (qA 13)])), ((qA 2), .inl (cI, 16, .inl g4)), ((qA 3), .inl (cI, 16, .inl g5))] H := hP
    have hD : va_D A [(aA, .inr (0, [.ref (qA 0), .int 1, .ref (qA 2), .ref (qA 3), .int 0, .ref (qA 5), .ref (qA 6), .ref (qA 7), .ref (qA 8), .ref (qA 9), .ref (qA 10), .ref (qA 11), .ref (qA 12), .ref (qA 13)])), ((qA 2), .inl (cI, 16, .inl g4)), ((qA 3), .inl (cI, 16, .inl g5))] := hD
    refine lv_aload_n hx hb dX0_addTape_52 rfl (lv_at hl 0 rfl) ?_
    refine va_get (D := D) (ci := 0) (v := .int 1) (C := RX0) (T := TX0) (N := 14) hx hb htg iwG_0 hown hE.1 hP 0 rfl rfl 1 (by decide) (htg _ wm_47) (fun _ h9 => h9) rfl dX0_addTape_53 ?_
    refine lv_iconst (v := 1) hx hb dX0_addTape_56 (by decide +kernel) ?_
    refine lv_isub hx hb dX0_addTape_57 ?_
    refine g_top 0 (by decide +kernel) ?_
    exact g_iret () hF hr rfl hlocks (hP.sub [] rfl) (hD.sub [] rfl rfl) hS (by show (_ : Int32) = _; unfold S_tape; (repeat' split) <;> first | rfl | (exfalso; omega) | omega) dX0_addTape_58 (Nat.le_of_ble_eq_true rfl) (Nat.le_of_ble_eq_true rfl)
  · skip
    refine lv_if_ne (tgt := 22) hx hb dX0_addTape_17 (by decide) (fun c9 => absurd c9 (by decide +kernel)) (fun _ => ?_)
    refine lv_iconst (v := (-1)) hx hb dX0_addTape_20 (by decide +kernel) ?_
    exact g_iret () hF hr rfl hlocks (hP.sub [] rfl) (hD.sub [] rfl rfl) hS (by show (_ : Int32) = _; unfold S_tape; (repeat' split) <;> first | rfl | (exfalso; omega) | omega) dX0_addTape_21 (Nat.le_of_ble_eq_true rfl) (Nat.le_of_ble_eq_true rfl)
set_option maxHeartbeats 8000000 in
set_option maxRecDepth 100000 in
theorem c_X0_renew {l : Launch} {D : va_G} {cI cB cS cZ cW : ClassId} {aA : Nat} {y0 : Int32} {qA : Nat → Nat}  {sz : Nat} : MI l D (gT cI cB cS cZ cW) yX0_renew (wG yX0_renew cX0_renew 3 (some .boolean)) { frames := 1, cells := 0, slots := 0, locals := 22 } [.ref aA, .int y0, .int 0] [(aA, .inr (0, [.ref (qA 0), .int 0, .ref (qA 2), .ref (qA 3), .int 0, .ref (qA 5), .ref (qA 6), .ref (qA 7), .ref (qA 8), .ref (qA 9), .ref (qA 10), .ref (qA 11), .ref (qA 12), .ref (qA 13)]))] sz (fun (r : Int32) (u : Unit) => r = 0) (fun (u : Unit) => [] : (Unit) → va_W) 0 0 := by
  refine g_enter (y := yX0_renew) (w := (wG yX0_renew cX0_renew 3 (some .boolean))) (As := [.ref aA, .int y0, .int 0]) (D := D) (T := gT cI cB cS cZ cW) (ws := [(aA, .inr (0, [.ref (qA 0), .int 0, .ref (qA 2), .ref (qA 3), .int 0, .ref (qA 5), .ref (qA 6), .ref (qA 7), .ref (qA 8), .ref (qA 9), .ref (qA 10), .ref (qA 11), .ref (qA 12), .ref (qA 13)]))]) (gQi D (fun (r : Int32) (u : Unit) => r = 0) (fun (u : Unit) => [] : (Unit) → va_W)) (cc := cX0_renew) (maxL := 3) (ret := (some .boolean)) (by decide) rfl (Nat.le_of_ble_eq_true rfl) ?_
  intro p e s m below meth c A ls hF hr hlocks hname hsz hE hA hP hD hS hl
  have hF : CallFix p m c cX0_renew 3 s ([.ref aA, .int y0, .int 0] : List Value).toArray (wG yX0_renew cX0_renew 3 (some .boolean)) RX0 := hF
  obtain ⟨hx, hb, hml, hown, hts⟩ := id hF
  have htg : ∀ w ∈ GL, w.before ([.ref aA, .int y0, .int 0] : List Value).toArray s = true := fun w h => hts w (List.mem_cons_of_mem _ h)
  have hl : lv_has ls 3 [(0, .ref aA), (1, .int y0), (2, .int 0)] := hl
  have z0 := t_0
  refine lv_aload_n hx hb dX0_renew_0 rfl (lv_at hl 0 rfl) ?_
  refine lv_iload_n hx hb dX0_renew_1 rfl (lv_at hl 1 rfl) ?_
  refine lv_iload_n hx hb dX0_renew_2 rfl (lv_at hl 2 rfl) ?_
  refine g_ai (D := D) (wc := [(aA, .inr (0, [.ref (qA 0), .int 0, .ref (qA 2), .ref (qA 3), .int 0, .ref (qA 5), .ref (qA 6), .ref (qA 7), .ref (qA 8), .ref (qA 9), .ref (qA 10), .ref (qA 11), .ref (qA 12), .ref (qA 13)]))]) (wr := []) hP hD hS hA [0] [] rfl rfl rfl rfl (by decide) (fun hPc hDc => va_runV (As := [.int y0, .int 0]) (rest := []) hF (c_X0_lasts (l := l) (D := D) (cI := cI) (cB := cB) (cS := cS) (cZ := cZ) (cW := cW) (aA := aA) (y0 := y0) (qA := qA)) (cwV 2 hts (gGV (fun _ h => List.mem_cons_of_mem _ h) wm_207 wm_208 wm_209 wm_94 wm_210) rfl rfl rfl (by decide +kernel) ⟨Nat.le_of_ble_eq_true rfl, Nat.le_of_ble_eq_true rfl⟩) (g_preV (q := (RX0, TX0, 14)) (ci := 0) (q0 := 0) hE hPc hDc rfl rfl) rfl rfl hl.1 rfl (lv_room (Nat.le_of_ble_eq_true rfl)) dX0_renew_3 ⟨Nat.le_of_ble_eq_true rfl, Nat.le_of_ble_eq_true rfl⟩) (fun r1 u2 H locs p3 hP hD hS => ?_)
  have hP : va_P D vwCl [(aA, .inr (0, [.ref (qA 0), .int 0, .ref (qA 2), .ref (qA 3), .int 0, .ref (qA 5), .ref (qA 6), .ref (qA 7), .ref (qA 8), .ref (qA 9), .ref (qA 10), .ref (qA 11), .ref (qA 12), .ref (qA 13)]))] H := hP
  have hD : va_D A [(aA, .inr (0, [.ref (qA 0), .int 0, .ref (qA 2), .ref (qA 3), .int 0, .ref (qA 5), .ref (qA 6), .ref (qA 7), .ref (qA 8), .ref (qA 9), .ref (qA 10), .ref (qA 11), .ref (qA 12), .ref (qA 13)]))] := hD
  obtain rfl := p3
  refine lv_if_ne (tgt := 11) hx hb dX0_renew_6 (by decide) (fun c9 => absurd c9 (by decide +kernel)) (fun _ => ?_)
  refine lv_iconst (v := 0) hx hb dX0_renew_9 (by decide +kernel) ?_
  exact g_iret () hF hr rfl hlocks (hP.sub [] rfl) (hD.sub [] rfl rfl) hS rfl dX0_renew_10 (Nat.le_of_ble_eq_true rfl) (Nat.le_of_ble_eq_true rfl)
set_option maxHeartbeats 8000000 in
set_option maxRecDepth 100000 in
theorem c_X0_tapeFact {l : Launch} {D : va_G} {cI cB cS cZ cW : ClassId} {aA : Nat} {y0 : Int32} {y1 : Int32} {qA : Nat → Nat}  {sz : Nat} : MI l D (gT cI cB cS cZ cW) yX0_tapeFact (wG yX0_tapeFact cX0_tapeFact 4 (some .int)) { frames := 1, cells := 0, slots := 0, locals := 21 } [.ref aA, .int y0, .int y1, .int 0] [(aA, .inr (0, [.ref (qA 0), .int 0, .ref (qA 2), .ref (qA 3), .int 0, .ref (qA 5), .ref (qA 6), .ref (qA 7), .ref (qA 8), .ref (qA 9), .ref (qA 10), .ref (qA 11), .ref (qA 12), .ref (qA 13)]))] sz (fun (r : Int32) (u : Unit) => r = (-1)) (fun (u : Unit) => [] : (Unit) → va_W) 0 0 := by
  refine g_enter (y := yX0_tapeFact) (w := (wG yX0_tapeFact cX0_tapeFact 4 (some .int))) (As := [.ref aA, .int y0, .int y1, .int 0]) (D := D) (T := gT cI cB cS cZ cW) (ws := [(aA, .inr (0, [.ref (qA 0), .int 0, .ref (qA 2), .ref (qA 3), .int 0, .ref (qA 5), .ref (qA 6), .ref (qA 7), .ref (qA 8), .ref (qA 9), .ref (qA 10), .ref (qA 11), .ref (qA 12), .ref (qA 13)]))]) (gQi D (fun (r : Int32) (u : Unit) => r = (-1)) (fun (u : Unit) => [] : (Unit) → va_W)) (cc := cX0_tapeFact) (maxL := 4) (ret := (some .int)) (by decide) rfl (Nat.le_of_ble_eq_true rfl) ?_
  intro p e s m below meth c A ls hF hr hlocks hname hsz hE hA hP hD hS hl
  have hF : CallFix p m c cX0_tapeFact 4 s ([.ref aA, .int y0, .int y1, .int 0] : List Value).toArray (wG yX0_tapeFact cX0_tapeFact 4 (some .int)) RX0 := hF
  obtain ⟨hx, hb, hml, hown, hts⟩ := id hF
  have htg : ∀ w ∈ GL, w.before ([.ref aA, .int y0, .int y1, .int 0] : List Value).toArray s = true := fun w h => hts w (List.mem_cons_of_mem _ h)
  have hl : lv_has ls 4 [(0, .ref aA), (1, .int y0), (2, .int y1), (3, .int 0)] := hl
  have zm1 := tm_1
  have z0 := t_0
  refine lv_aload_n hx hb dX0_tapeFact_0 rfl (lv_at hl 0 rfl) ?_
  refine lv_iload_n hx hb dX0_tapeFact_1 rfl (lv_at hl 1 rfl) ?_
  refine g_ai (D := D) (wc := [(aA, .inr (0, [.ref (qA 0), .int 0, .ref (qA 2), .ref (qA 3), .int 0, .ref (qA 5), .ref (qA 6), .ref (qA 7), .ref (qA 8), .ref (qA 9), .ref (qA 10), .ref (qA 11), .ref (qA 12), .ref (qA 13)]))]) (wr := []) hP hD hS hA [0] [] rfl rfl rfl rfl (by decide) (fun hPc hDc => va_runV (As := [.int y0]) (rest := []) hF (c_X0_hasTape (l := l) (D := D) (cI := cI) (cB := cB) (cS := cS) (cZ := cZ) (cW := cW) (aA := aA) (y0 := y0) (qA := qA)) (cwV 1 hts (gGV (fun _ h => List.mem_cons_of_mem _ h) wm_211 wm_212 wm_213 wm_94 wm_214) rfl rfl rfl (by decide +kernel) ⟨Nat.le_of_ble_eq_true rfl, Nat.le_of_ble_eq_true rfl⟩) (g_preV (q := (RX0, TX0, 14)) (ci := 0) (q0 := 0) hE hPc hDc rfl rfl) rfl rfl hl.1 rfl (lv_room (Nat.le_of_ble_eq_true rfl)) dX0_tapeFact_2 ⟨Nat.le_of_ble_eq_true rfl, Nat.le_of_ble_eq_true rfl⟩) (fun r1 u2 H locs p3 hP hD hS => ?_)
  have hP : va_P D vwCl [(aA, .inr (0, [.ref (qA 0), .int 0, .ref (qA 2), .ref (qA 3), .int 0, .ref (qA 5), .ref (qA 6), .ref (qA 7), .ref (qA 8), .ref (qA 9), .ref (qA 10), .ref (qA 11), .ref (qA 12), .ref (qA 13)]))] H := hP
  have hD : va_D A [(aA, .inr (0, [.ref (qA 0), .int 0, .ref (qA 2), .ref (qA 3), .int 0, .ref (qA 5), .ref (qA 6), .ref (qA 7), .ref (qA 8), .ref (qA 9), .ref (qA 10), .ref (qA 11), .ref (qA 12), .ref (qA 13)]))] := hD
  obtain rfl := p3
  refine lv_if_ne (tgt := 10) hx hb dX0_tapeFact_5 (by decide) (fun c9 => absurd c9 (by decide +kernel)) (fun _ => ?_)
  refine lv_iconst (v := (-1)) hx hb dX0_tapeFact_8 (by decide +kernel) ?_
  exact g_iret () hF hr rfl hlocks (hP.sub [] rfl) (hD.sub [] rfl rfl) hS rfl dX0_tapeFact_9 (Nat.le_of_ble_eq_true rfl) (Nat.le_of_ble_eq_true rfl)
set_option maxHeartbeats 8000000 in
set_option maxRecDepth 100000 in
theorem c_X0_rowFact {l : Launch} {D : va_G} {cI cB cS cZ cW : ClassId} {aA : Nat} {y0 : Int32} {y1 : Int32} {qA : Nat → Nat}  {sz : Nat} : MI l D (gT cI cB cS cZ cW) yX0_rowFact (wG yX0_rowFact cX0_rowFact 4 (some .int)) { frames := 1, cells := 0, slots := 0, locals := 21 } [.ref aA, .int y0, .int y1, .int 0] [(aA, .inr (0, [.ref (qA 0), .int 0, .ref (qA 2), .ref (qA 3), .int 0, .ref (qA 5), .ref (qA 6), .ref (qA 7), .ref (qA 8), .ref (qA 9), .ref (qA 10), .ref (qA 11), .ref (qA 12), .ref (qA 13)]))] sz (fun (r : Int32) (u : Unit) => r = (-100)) (fun (u : Unit) => [] : (Unit) → va_W) 0 0 := by
  refine g_enter (y := yX0_rowFact) (w := (wG yX0_rowFact cX0_rowFact 4 (some .int))) (As := [.ref aA, .int y0, .int y1, .int 0]) (D := D) (T := gT cI cB cS cZ cW) (ws := [(aA, .inr (0, [.ref (qA 0), .int 0, .ref (qA 2), .ref (qA 3), .int 0, .ref (qA 5), .ref (qA 6), .ref (qA 7), .ref (qA 8), .ref (qA 9), .ref (qA 10), .ref (qA 11), .ref (qA 12), .ref (qA 13)]))]) (gQi D (fun (r : Int32) (u : Unit) => r = (-100)) (fun (u : Unit) => [] : (Unit) → va_W)) (cc := cX0_rowFact) (maxL := 4) (ret := (some .int)) (by decide) rfl (Nat.le_of_ble_eq_true rfl) ?_
  intro p e s m below meth c A ls hF hr hlocks hname hsz hE hA hP hD hS hl
  have hF : CallFix p m c cX0_rowFact 4 s ([.ref aA, .int y0, .int y1, .int 0] : List Value).toArray (wG yX0_rowFact cX0_rowFact 4 (some .int)) RX0 := hF
  obtain ⟨hx, hb, hml, hown, hts⟩ := id hF
  have htg : ∀ w ∈ GL, w.before ([.ref aA, .int y0, .int y1, .int 0] : List Value).toArray s = true := fun w h => hts w (List.mem_cons_of_mem _ h)
  have hl : lv_has ls 4 [(0, .ref aA), (1, .int y0), (2, .int y1), (3, .int 0)] := hl
  have zm100 := tm_100
  have z0 := t_0
  refine lv_aload_n hx hb dX0_rowFact_0 rfl (lv_at hl 0 rfl) ?_
  refine lv_iload_n hx hb dX0_rowFact_1 rfl (lv_at hl 1 rfl) ?_
  refine g_ai (D := D) (wc := [(aA, .inr (0, [.ref (qA 0), .int 0, .ref (qA 2), .ref (qA 3), .int 0, .ref (qA 5), .ref (qA 6), .ref (qA 7), .ref (qA 8), .ref (qA 9), .ref (qA 10), .ref (qA 11), .ref (qA 12), .ref (qA 13)]))]) (wr := []) hP hD hS hA [0] [] rfl rfl rfl rfl (by decide) (fun hPc hDc => va_runV (As := [.int y0]) (rest := []) hF (c_X0_hasRow (l := l) (D := D) (cI := cI) (cB := cB) (cS := cS) (cZ := cZ) (cW := cW) (aA := aA) (y0 := y0) (qA := qA)) (cwV 1 hts (gGV (fun _ h => List.mem_cons_of_mem _ h) wm_215 wm_216 wm_217 wm_94 wm_218) rfl rfl rfl (by decide +kernel) ⟨Nat.le_of_ble_eq_true rfl, Nat.le_of_ble_eq_true rfl⟩) (g_preV (q := (RX0, TX0, 14)) (ci := 0) (q0 := 0) hE hPc hDc rfl rfl) rfl rfl hl.1 rfl (lv_room (Nat.le_of_ble_eq_true rfl)) dX0_rowFact_2 ⟨Nat.le_of_ble_eq_true rfl, Nat.le_of_ble_eq_true rfl⟩) (fun r1 u2 H locs p3 hP hD hS => ?_)
  have hP : va_P D vwCl [(aA, .inr (0, [.ref (qA 0), .int 0, .ref (qA 2), .ref (qA 3), .int 0, .ref (qA 5), .ref (qA 6), .ref (qA 7), .ref (qA 8), .ref (qA 9), .ref (qA 10), .ref (qA 11), .ref (qA 12), .ref (qA 13)]))] H := hP
  have hD : va_D A [(aA, .inr (0, [.ref (qA 0), .int 0, .ref (qA 2), .ref (qA 3), .int 0, .ref (qA 5), .ref (qA 6), .ref (qA 7), .ref (qA 8), .ref (qA 9), .ref (qA 10), .ref (qA 11), .ref (qA 12), .ref (qA 13)]))] := hD
  obtain rfl := p3
  refine lv_if_ne (tgt := 11) hx hb dX0_rowFact_5 (by decide) (fun c9 => absurd c9 (by decide +kernel)) (fun _ => ?_)
  refine lv_bipush (v := (-100)) hx hb dX0_rowFact_8 (by decide +kernel) ?_
  exact g_iret () hF hr rfl hlocks (hP.sub [] rfl) (hD.sub [] rfl rfl) hS rfl dX0_rowFact_10 (Nat.le_of_ble_eq_true rfl) (Nat.le_of_ble_eq_true rfl)
set_option maxHeartbeats 8000000 in
set_option maxRecDepth 100000 in
theorem c_X5_printedFact {l : Launch} {D : va_G} {cI cB cS cZ cW : ClassId} {aB : Nat} {y0 : Int32} {y1 : Int32} {aT : Nat} {qB : Nat → Nat}  {sz : Nat} : MI l D (gT cI cB cS cZ cW) yX5_printedFact (wG yX5_printedFact cX5_printedFact 4 (some .int)) { frames := 0, cells := 0, slots := 0, locals := 0 } [.ref aB, .int y0, .int y1, .ref aT] [(aB, .inr (5, [.int 0, .ref (qB 1), .ref (qB 2), .ref (qB 3), .ref (qB 4), .int 0, .ref (qB 6), .ref (qB 7), .ref (qB 8)]))] sz (fun (r : Int32) (u : Unit) => r = (-1)) (fun (u : Unit) => [] : (Unit) → va_W) 0 0 := by
  refine g_enter (y := yX5_printedFact) (w := (wG yX5_printedFact cX5_printedFact 4 (some .int))) (As := [.ref aB, .int y0, .int y1, .ref aT]) (D := D) (T := gT cI cB cS cZ cW) (ws := [(aB, .inr (5, [.int 0, .ref (qB 1), .ref (qB 2), .ref (qB 3), .ref (qB 4), .int 0, .ref (qB 6), .ref (qB 7), .ref (qB 8)]))]) (gQi D (fun (r : Int32) (u : Unit) => r = (-1)) (fun (u : Unit) => [] : (Unit) → va_W)) (cc := cX5_printedFact) (maxL := 4) (ret := (some .int)) (by decide) rfl (Nat.le_of_ble_eq_true rfl) ?_
  intro p e s m below meth c A ls hF hr hlocks hname hsz hE hA hP hD hS hl
  have hF : CallFix p m c cX5_printedFact 4 s ([.ref aB, .int y0, .int y1, .ref aT] : List Value).toArray (wG yX5_printedFact cX5_printedFact 4 (some .int)) RX5 := hF
  obtain ⟨hx, hb, hml, hown, hts⟩ := id hF
  have htg : ∀ w ∈ GL, w.before ([.ref aB, .int y0, .int y1, .ref aT] : List Value).toArray s = true := fun w h => hts w (List.mem_cons_of_mem _ h)
  have hl : lv_has ls 4 [(0, .ref aB), (1, .int y0), (2, .int y1), (3, .ref aT)] := hl
  have zm1 := tm_1
  have z0 := t_0
  refine lv_iload_n hx hb dX5_printedFact_0 rfl (lv_at hl 1 rfl) ?_
  refine lv_if_lt (tgt := 12) hx hb dX5_printedFact_1 (by decide) (fun c1 => ?_) (fun c1 => ?_)
  · rw [i_lt] at c1
    refine lv_iconst (v := (-1)) hx hb dX5_printedFact_12 (by decide +kernel) ?_
    exact g_iret () hF hr rfl hlocks (hP.sub [] rfl) (hD.sub [] rfl rfl) hS rfl dX5_printedFact_13 (Nat.le_of_ble_eq_true rfl) (Nat.le_of_ble_eq_true rfl)
  · rw [i_lt] at c1
    refine lv_iload_n hx hb dX5_printedFact_4 rfl (lv_at hl 1 rfl) ?_
    refine lv_aload_n hx hb dX5_printedFact_5 rfl (lv_at hl 0 rfl) ?_
    refine va_get (D := D) (ci := 5) (v := .int 0) (C := RX5) (T := TX5) (N := 9) hx hb htg iwG_5 hown hE.1 hP 0 rfl rfl 0 (by decide) (htg _ wm_62) (fun _ h9 => h9) rfl dX5_printedFact_6 ?_
    refine lv_icmp_lt (tgt := 14) hx hb dX5_printedFact_9 (by decide) (fun c9 => absurd (i_lt.mp c9) (by omega)) (fun _ => ?_)
    refine lv_iconst (v := (-1)) hx hb dX5_printedFact_12 (by decide +kernel) ?_
    exact g_iret () hF hr rfl hlocks (hP.sub [] rfl) (hD.sub [] rfl rfl) hS rfl dX5_printedFact_13 (Nat.le_of_ble_eq_true rfl) (Nat.le_of_ble_eq_true rfl)
set_option maxHeartbeats 8000000 in
set_option maxRecDepth 100000 in
theorem c_X5_hasGrant {l : Launch} {D : va_G} {cI cB cS cZ cW : ClassId} {aB : Nat} {y0 : Int32} {qB : Nat → Nat}  {sz : Nat} : MI l D (gT cI cB cS cZ cW) yX5_hasGrant (wG yX5_hasGrant cX5_hasGrant 2 (some .boolean)) { frames := 0, cells := 0, slots := 0, locals := 0 } [.ref aB, .int y0] [(aB, .inr (5, [.int 0, .ref (qB 1), .ref (qB 2), .ref (qB 3), .ref (qB 4), .int 0, .ref (qB 6), .ref (qB 7), .ref (qB 8)]))] sz (fun (r : Int32) (u : Unit) => r = 0) (fun (u : Unit) => [(aB, .inr (5, [.int 0, .ref (qB 1), .ref (qB 2), .ref (qB 3), .ref (qB 4), .int 0, .ref (qB 6), .ref (qB 7), .ref (qB 8)]))] : (Unit) → va_W) 0 0 := by
  refine g_enter (y := yX5_hasGrant) (w := (wG yX5_hasGrant cX5_hasGrant 2 (some .boolean))) (As := [.ref aB, .int y0]) (D := D) (T := gT cI cB cS cZ cW) (ws := [(aB, .inr (5, [.int 0, .ref (qB 1), .ref (qB 2), .ref (qB 3), .ref (qB 4), .int 0, .ref (qB 6), .ref (qB 7), .ref (qB 8)]))]) (gQi D (fun (r : Int32) (u : Unit) => r = 0) (fun (u : Unit) => [(aB, .inr (5, [.int 0, .ref (qB 1), .ref (qB 2), .ref (qB 3), .ref (qB 4), .int 0, .ref (qB 6), .ref (qB 7), .ref (qB 8)]))] : (Unit) → va_W)) (cc := cX5_hasGrant) (maxL := 2) (ret := (some .boolean)) (by decide) rfl (Nat.le_of_ble_eq_true rfl) ?_
  intro p e s m below meth c A ls hF hr hlocks hname hsz hE hA hP hD hS hl
  have hF : CallFix p m c cX5_hasGrant 2 s ([.ref aB, .int y0] : List Value).toArray (wG yX5_hasGrant cX5_hasGrant 2 (some .boolean)) RX5 := hF
  obtain ⟨hx, hb, hml, hown, hts⟩ := id hF
  have htg : ∀ w ∈ GL, w.before ([.ref aB, .int y0] : List Value).toArray s = true := fun w h => hts w (List.mem_cons_of_mem _ h)
  have hl : lv_has ls 2 [(0, .ref aB), (1, .int y0)] := hl
  have z0 := t_0
  refine lv_iload_n hx hb dX5_hasGrant_0 rfl (lv_at hl 1 rfl) ?_
  refine lv_if_lt (tgt := 16) hx hb dX5_hasGrant_1 (by decide) (fun c1 => ?_) (fun c1 => ?_)
  · rw [i_lt] at c1
    refine lv_iconst (v := 0) hx hb dX5_hasGrant_16 (by decide +kernel) ?_
    exact g_iret () hF hr rfl hlocks (hP.sub [0] rfl) (hD.sub [0] rfl rfl) hS rfl dX5_hasGrant_17 (Nat.le_of_ble_eq_true rfl) (Nat.le_of_ble_eq_true rfl)
  · rw [i_lt] at c1
    refine lv_iload_n hx hb dX5_hasGrant_4 rfl (lv_at hl 1 rfl) ?_
    refine lv_aload_n hx hb dX5_hasGrant_5 rfl (lv_at hl 0 rfl) ?_
    refine va_get (D := D) (ci := 5) (v := .int 0) (C := RX5) (T := TX5) (N := 9) hx hb htg iwG_5 hown hE.1 hP 0 rfl rfl 5 (by decide) (htg _ wm_67) (fun _ h9 => h9) rfl dX5_hasGrant_6 ?_
    refine lv_icmp_ge (tgt := 16) hx hb dX5_hasGrant_9 (by decide) (fun _ => ?_) (fun c9 => absurd (i_le.mpr (by omega)) c9)
    refine lv_iconst (v := 0) hx hb dX5_hasGrant_16 (by decide +kernel) ?_
    exact g_iret () hF hr rfl hlocks (hP.sub [0] rfl) (hD.sub [0] rfl rfl) hS rfl dX5_hasGrant_17 (Nat.le_of_ble_eq_true rfl) (Nat.le_of_ble_eq_true rfl)
set_option maxHeartbeats 8000000 in
set_option maxRecDepth 100000 in
theorem c_X5_fallen {l : Launch} {D : va_G} {cI cB cS cZ cW : ClassId} {aB : Nat} {aT : Nat} {qB : Nat → Nat}  {sz : Nat} : MI l D (gT cI cB cS cZ cW) yX5_fallen (wG yX5_fallen cX5_fallen 4 (some .int)) { frames := 0, cells := 0, slots := 0, locals := 0 } [.ref aB, .ref aT] [(aB, .inr (5, [.int 0, .ref (qB 1), .ref (qB 2), .ref (qB 3), .ref (qB 4), .int 0, .ref (qB 6), .ref (qB 7), .ref (qB 8)]))] sz (fun (r : Int32) (u : Unit) => r = 0) (fun (u : Unit) => [(aB, .inr (5, [.int 0, .ref (qB 1), .ref (qB 2), .ref (qB 3), .ref (qB 4), .int 0, .ref (qB 6), .ref (qB 7), .ref (qB 8)]))] : (Unit) → va_W) 0 0 := by
  refine g_enter (y := yX5_fallen) (w := (wG yX5_fallen cX5_fallen 4 (some .int))) (As := [.ref aB, .ref aT]) (D := D) (T := gT cI cB cS cZ cW) (ws := [(aB, .inr (5, [.int 0, .ref (qB 1), .ref (qB 2), .ref (qB 3), .ref (qB 4), .int 0, .ref (qB 6), .ref (qB 7), .ref (qB 8)]))]) (gQi D (fun (r : Int32) (u : Unit) => r = 0) (fun (u : Unit) => [(aB, .inr (5, [.int 0, .ref (qB 1), .ref (qB 2), .ref (qB 3), .ref (qB 4), .int 0, .ref (qB 6), .ref (qB 7), .ref (qB 8)]))] : (Unit) → va_W)) (cc := cX5_fallen) (maxL := 4) (ret := (some .int)) (by decide) rfl (Nat.le_of_ble_eq_true rfl) ?_
  intro p e s m below meth c A ls hF hr hlocks hname hsz hE hA hP hD hS hl
  have hF : CallFix p m c cX5_fallen 4 s ([.ref aB, .ref aT] : List Value).toArray (wG yX5_fallen cX5_fallen 4 (some .int)) RX5 := hF
  obtain ⟨hx, hb, hml, hown, hts⟩ := id hF
  have htg : ∀ w ∈ GL, w.before ([.ref aB, .ref aT] : List Value).toArray s = true := fun w h => hts w (List.mem_cons_of_mem _ h)
  have hl : lv_has ls 4 [(0, .ref aB), (1, .ref aT)] := hl
  have z0 := t_0
  refine lv_iconst (v := 0) hx hb dX5_fallen_0 (by decide +kernel) ?_
  refine lv_istore_n (lv' := [(2, .int 0), (0, .ref aB), (1, .ref aT)]) hx hb dX5_fallen_1 rfl hl (by decide) rfl (fun ls hl => ?_)
  refine lv_iconst (v := 0) hx hb dX5_fallen_2 (by decide +kernel) ?_
  refine lv_istore_n (lv' := [(3, .int 0), (2, .int 0), (0, .ref aB), (1, .ref aT)]) hx hb dX5_fallen_3 rfl hl (by decide) rfl (fun ls hl => ?_)
  refine lv_iload_n hx hb dX5_fallen_4 rfl (lv_at hl 0 rfl) ?_
  refine lv_aload_n hx hb dX5_fallen_5 rfl (lv_at hl 2 rfl) ?_
  refine va_get (D := D) (ci := 5) (v := .int 0) (C := RX5) (T := TX5) (N := 9) hx hb htg iwG_5 hown hE.1 hP 0 rfl rfl 0 (by decide) (htg _ wm_62) (fun _ h9 => h9) rfl dX5_fallen_6 ?_
  refine lv_icmp_ge (tgt := 30) hx hb dX5_fallen_9 (by decide) (fun _ => ?_) (fun c9 => absurd c9 (by decide +kernel))
  refine lv_iload_n hx hb dX5_fallen_30 rfl (lv_at hl 1 rfl) ?_
  exact g_iret () hF hr rfl hlocks (hP.sub [0] rfl) (hD.sub [0] rfl rfl) hS rfl dX5_fallen_31 (Nat.le_of_ble_eq_true rfl) (Nat.le_of_ble_eq_true rfl)
set_option maxHeartbeats 8000000 in
set_option maxRecDepth 100000 in
theorem c_X1_weigh {l : Launch} {D : va_G} {cI cB cS cZ cW : ClassId} {aY : Nat} {y0 : Int32} {qY : Nat → Nat}  {sz : Nat} : MV l D (gT cI cB cS cZ cW) yX1_weigh (wG yX1_weigh cX1_weigh 8 none) { frames := 0, cells := 0, slots := 0, locals := 0 } [.ref aY, .int y0] [(aY, .inr (1, [.int 0, .ref (qY 1), .ref (qY 2), .ref (qY 3), .ref (qY 4), .int 0, .int 0, .int 0]))] sz (fun (u : Unit) => True) (fun (u : Unit) => [(aY, .inr (1, [.int 0, .ref (qY 1), .ref (qY 2), .ref (qY 3), .ref (qY 4), .int 0, .int 0, .int 0]))] : (Unit) → va_W) 0 0 := by
  refine g_enter (y := yX1_weigh) (w := (wG yX1_weigh cX1_weigh 8 none)) (As := [.ref aY, .int y0]) (D := D) (T := gT cI cB cS cZ cW) (ws := [(aY, .inr (1, [.int 0, .ref (qY 1), .ref (qY 2), .ref (qY 3), .ref (qY 4), .int 0, .int 0, .int 0]))]) (gQv D (fun (u : Unit) => True) (fun (u : Unit) => [(aY, .inr (1, [.int 0, .ref (qY 1), .ref (qY 2), .ref (qY 3), .ref (qY 4), .int 0, .int 0, .int 0]))] : (Unit) → va_W)) (cc := cX1_weigh) (maxL := 8) (ret := none) (by decide) rfl (Nat.le_of_ble_eq_true rfl) ?_
  intro p e s m below meth c A ls hF hr hlocks hname hsz hE hA hP hD hS hl
  have hF : CallFix p m c cX1_weigh 8 s ([.ref aY, .int y0] : List Value).toArray (wG yX1_weigh cX1_weigh 8 none) RX1 := hF
  obtain ⟨hx, hb, hml, hown, hts⟩ := id hF
  have htg : ∀ w ∈ GL, w.before ([.ref aY, .int y0] : List Value).toArray s = true := fun w h => hts w (List.mem_cons_of_mem _ h)
  have hl : lv_has ls 8 [(0, .ref aY), (1, .int y0)] := hl
  have z0 := t_0
  have z1 := t_1
  refine lv_iconst (v := 0) hx hb dX1_weigh_0 (by decide +kernel) ?_
  refine lv_istore_n (lv' := [(2, .int 0), (0, .ref aY), (1, .int y0)]) hx hb dX1_weigh_1 rfl hl (by decide) rfl (fun ls hl => ?_)
  refine lv_iconst (v := 0) hx hb dX1_weigh_2 (by decide +kernel) ?_
  refine lv_istore_n (lv' := [(3, .int 0), (2, .int 0), (0, .ref aY), (1, .int y0)]) hx hb dX1_weigh_3 rfl hl (by decide) rfl (fun ls hl => ?_)
  refine lv_iconst (v := 0) hx hb dX1_weigh_4 (by decide +kernel) ?_
  refine lv_istore (lv' := [(4, .int 0), (3, .int 0), (2, .int 0), (0, .ref aY), (1, .int y0)]) hx hb dX1_weigh_5 hl (by decide) rfl (fun ls hl => ?_)
  refine lv_iconst (v := 1) hx hb dX1_weigh_7 (by decide +kernel) ?_
  refine lv_istore (lv' := [(5, .int 1), (4, .int 0), (3, .int 0), (2, .int 0), (0, .ref aY), (1, .int y0)]) hx hb dX1_weigh_8 hl (by decide) rfl (fun ls hl => ?_)
  refine lv_iconst (v := 0) hx hb dX1_weigh_10 (by decide +kernel) ?_
  refine lv_istore (lv' := [(6, .int 0), (5, .int 1), (4, .int 0), (3, .int 0), (2, .int 0), (0, .ref aY), (1, .int y0)]) hx hb dX1_weigh_11 hl (by decide) rfl (fun ls hl => ?_)
  refine lv_iload hx hb dX1_weigh_13 (lv_at hl 0 rfl) ?_
  refine lv_aload_n hx hb dX1_weigh_15 rfl (lv_at hl 5 rfl) ?_
  refine va_get (D := D) (ci := 1) (v := .int 0) (C := RX1) (T := TX1) (N := 8) hx hb htg iwG_1 hown hE.1 hP 0 rfl rfl 0 (by decide) (htg _ wm_114) (fun _ h9 => h9) rfl dX1_weigh_16 ?_
  refine lv_icmp_ge (tgt := 94) hx hb dX1_weigh_19 (by decide) (fun _ => ?_) (fun c9 => absurd c9 (by decide +kernel))
  refine lv_iload_n hx hb dX1_weigh_94 rfl (lv_at hl 4 rfl) ?_
  refine lv_aload_n hx hb dX1_weigh_95 rfl (lv_at hl 5 rfl) ?_
  refine va_get (D := D) (ci := 1) (v := .int 0) (C := RX1) (T := TX1) (N := 8) hx hb htg iwG_1 hown hE.1 hP 0 rfl rfl 5 (by decide) (htg _ wm_119) (fun _ h9 => h9) rfl dX1_weigh_96 ?_
  refine lv_icmp_ne (tgt := 114) hx hb dX1_weigh_99 (by decide) (fun c9 => absurd c9 (by decide +kernel)) (fun _ => ?_)
  refine lv_iload_n hx hb dX1_weigh_102 rfl (lv_at hl 3 rfl) ?_
  refine lv_aload_n hx hb dX1_weigh_103 rfl (lv_at hl 5 rfl) ?_
  refine va_get (D := D) (ci := 1) (v := .int 0) (C := RX1) (T := TX1) (N := 8) hx hb htg iwG_1 hown hE.1 hP 0 rfl rfl 6 (by decide) (htg _ wm_120) (fun _ h9 => h9) rfl dX1_weigh_104 ?_
  refine lv_icmp_ne (tgt := 114) hx hb dX1_weigh_107 (by decide) (fun c9 => absurd c9 (by decide +kernel)) (fun _ => ?_)
  refine lv_iconst (v := 1) hx hb dX1_weigh_110 (by decide +kernel) ?_
  refine lv_goto (tgt := 115) hx hb dX1_weigh_111 (by decide) ?_
  refine lv_istore (lv' := [(6, .int 1), (5, .int 1), (4, .int 0), (3, .int 0), (2, .int 0), (0, .ref aY), (1, .int y0)]) hx hb dX1_weigh_115 hl (by decide) rfl (fun ls hl => ?_)
  refine lv_iload_n hx hb dX1_weigh_117 rfl (lv_at hl 4 rfl) ?_
  refine lv_aload_n hx hb dX1_weigh_118 rfl (lv_at hl 5 rfl) ?_
  refine va_get (D := D) (ci := 1) (v := .int 0) (C := RX1) (T := TX1) (N := 8) hx hb htg iwG_1 hown hE.1 hP 0 rfl rfl 5 (by decide) (htg _ wm_119) (fun _ h9 => h9) rfl dX1_weigh_119 ?_
  refine lv_icmp_gt (tgt := 155) hx hb dX1_weigh_122 (by decide) (fun c9 => absurd c9 (by decide +kernel)) (fun _ => ?_)
  refine lv_iload_n hx hb dX1_weigh_125 rfl (lv_at hl 4 rfl) ?_
  refine lv_aload_n hx hb dX1_weigh_126 rfl (lv_at hl 5 rfl) ?_
  refine va_get (D := D) (ci := 1) (v := .int 0) (C := RX1) (T := TX1) (N := 8) hx hb htg iwG_1 hown hE.1 hP 0 rfl rfl 5 (by decide) (htg _ wm_119) (fun _ h9 => h9) rfl dX1_weigh_127 ?_
  refine lv_icmp_ne (tgt := 141) hx hb dX1_weigh_130 (by decide) (fun c9 => absurd c9 (by decide +kernel)) (fun _ => ?_)
  refine lv_iload_n hx hb dX1_weigh_133 rfl (lv_at hl 3 rfl) ?_
  refine lv_aload_n hx hb dX1_weigh_134 rfl (lv_at hl 5 rfl) ?_
  refine va_get (D := D) (ci := 1) (v := .int 0) (C := RX1) (T := TX1) (N := 8) hx hb htg iwG_1 hown hE.1 hP 0 rfl rfl 6 (by decide) (htg _ wm_120) (fun _ h9 => h9) rfl dX1_weigh_135 ?_
  refine lv_icmp_lt (tgt := 155) hx hb dX1_weigh_138 (by decide) (fun c9 => absurd c9 (by decide +kernel)) (fun _ => ?_)
  refine lv_iload hx hb dX1_weigh_141 (lv_at hl 0 rfl) ?_
  refine lv_if_eq (tgt := 159) hx hb dX1_weigh_143 (by decide) (fun c9 => absurd c9 (by decide +kernel)) (fun _ => ?_)
  refine lv_iload hx hb dX1_weigh_146 (lv_at hl 2 rfl) ?_
  refine lv_aload_n hx hb dX1_weigh_148 rfl (lv_at hl 5 rfl) ?_
  refine va_get (D := D) (ci := 1) (v := .int 0) (C := RX1) (T := TX1) (N := 8) hx hb htg iwG_1 hown hE.1 hP 0 rfl rfl 7 (by decide) (htg _ wm_121) (fun _ h9 => h9) rfl dX1_weigh_149 ?_
  refine lv_icmp_ge (tgt := 159) hx hb dX1_weigh_152 (by decide) (fun _ => ?_) (fun c9 => absurd c9 (by decide +kernel))
  refine lv_iconst (v := 0) hx hb dX1_weigh_159 (by decide +kernel) ?_
  refine lv_istore (lv' := [(7, .int 0), (6, .int 1), (5, .int 1), (4, .int 0), (3, .int 0), (2, .int 0), (0, .ref aY), (1, .int y0)]) hx hb dX1_weigh_160 hl (by decide) rfl (fun ls hl => ?_)
  refine lv_iload hx hb dX1_weigh_162 (lv_at hl 2 rfl) ?_
  refine lv_if_eq (tgt := 188) hx hb dX1_weigh_164 (by decide) (fun c9 => absurd c9 (by decide +kernel)) (fun _ => ?_)
  refine lv_iload hx hb dX1_weigh_167 (lv_at hl 0 rfl) ?_
  refine lv_if_eq (tgt := 188) hx hb dX1_weigh_169 (by decide) (fun _ => ?_) (fun c9 => absurd c9 (by decide +kernel))
  exact g_vret () hF hr hlocks (hP.sub [0] rfl) (hD.sub [0] rfl rfl) hS trivial dX1_weigh_188 (Nat.le_of_ble_eq_true rfl) (Nat.le_of_ble_eq_true rfl)
set_option maxHeartbeats 8000000 in
set_option maxRecDepth 100000 in
theorem c_X1_solve {l : Launch} {D : va_G} {cI cB cS cZ cW : ClassId} {aY : Nat} {aA : Nat} {qY : Nat → Nat} {qA : Nat → Nat}  {sz : Nat} : MV l D (gT cI cB cS cZ cW) yX1_solve (wG yX1_solve cX1_solve 5 none) { frames := 0, cells := 0, slots := 0, locals := 0 } [.ref aY, .ref aA, .int 0] [(aY, .inr (1, [.int 0, .ref (qY 1), .ref (qY 2), .ref (qY 3), .ref (qY 4), .int 0, .int 0, .int 0])), (aA, .inr (0, [.ref (qA 0), .int 0, .ref (qA 2), .ref (qA 3), .int 0, .ref (qA 5), .ref (qA 6), .ref (qA 7), .ref (qA 8), .ref (qA 9), .ref (qA 10), .ref (qA 11), .ref (qA 12), .ref (qA 13)]))] sz (fun (u : Unit) => True) (fun (u : Unit) => [(aY, .inr (1, [.int 0, .ref (qY 1), .ref (qY 2), .ref (qY 3), .ref (qY 4), .int 0, .int 0, .int 0])), (aA, .inr (0, [.ref (qA 0), .int 0, .ref (qA 2), .ref (qA 3), .int 0, .ref (qA 5), .ref (qA 6), .ref (qA 7), .ref (qA 8), .ref (qA 9), .ref (qA 10), .ref (qA 11), .ref (qA 12), .ref (qA 13)]))] : (Unit) → va_W) 0 0 := by
  refine g_enter (y := yX1_solve) (w := (wG yX1_solve cX1_solve 5 none)) (As := [.ref aY, .ref aA, .int 0]) (D := D) (T := gT cI cB cS cZ cW) (ws := [(aY, .inr (1, [.int 0, .ref (qY 1), .ref (qY 2), .ref (qY 3), .ref (qY 4), .int 0, .int 0, .int 0])), (aA, .inr (0, [.ref (qA 0), .int 0, .ref (qA 2), .ref (qA 3), .int 0, .ref (qA 5), .ref (qA 6), .ref (qA 7), .ref (qA 8), .ref (qA 9), .ref (qA 10), .ref (qA 11), .ref (qA 12), .ref (qA 13)]))]) (gQv D (fun (u : Unit) => True) (fun (u : Unit) => [(aY, .inr (1, [.int 0, .ref (qY 1), .ref (qY 2), .ref (qY 3), .ref (qY 4), .int 0, .int 0, .int 0])), (aA, .inr (0, [.ref (qA 0), .int 0, .ref (qA 2), .ref (qA 3), .int 0, .ref (qA 5), .ref (qA 6), .ref (qA 7), .ref (qA 8), .ref (qA 9), .ref (qA 10), .ref (qA 11), .ref (qA 12), .ref (qA 13)]))] : (Unit) → va_W)) (cc := cX1_solve) (maxL := 5) (ret := none) (by decide) rfl (Nat.le_of_ble_eq_true rfl) ?_
  intro p e s m below meth c A ls hF hr hlocks hname hsz hE hA hP hD hS hl
  have hF : CallFix p m c cX1_solve 5 s ([.ref aY, .ref aA, .int 0] : List Value).toArray (wG yX1_solve cX1_solve 5 none) RX1 := hF
  obtain ⟨hx, hb, hml, hown, hts⟩ := id hF
  have htg : ∀ w ∈ GL, w.before ([.ref aY, .ref aA, .int 0] : List Value).toArray s = true := fun w h => hts w (List.mem_cons_of_mem _ h)
  have hl : lv_has ls 5 [(0, .ref aY), (1, .ref aA), (2, .int 0)] := hl
  have z0 := t_0
  have z1 := t_1
  refine lv_aload_n hx hb dX1_solve_0 rfl (lv_at hl 0 rfl) ?_
  refine lv_iconst (v := 0) hx hb dX1_solve_1 (by decide +kernel) ?_
  refine va_put (D := D) (ci := 1) (v := .int 0) (ty := tyX1 0) (C := RX1) (T := TX1) (N := 8) hx hb htg iwG_1 tyX1 tyX1_ok nmX1 hown hE.1 hP hD hS 0 rfl rfl 0 (by decide) (htg _ wm_114) (fun _ h9 => h9) rfl (by decide +kernel) rfl rfl (Nat.le_of_ble_eq_true rfl) dX1_solve_2 (fun H locs hP hD hS => ?_)
  have hP : va_P D vwCl [(aY, .inr (1, [.int 0, .ref (qY 1), .ref (qY 2), .ref (qY 3), .ref (qY 4), .int 0, .int 0, .int 0])), (aA, .inr (0, [.ref (qA 0), .int 0, .ref (qA 2), .ref (qA 3), .int 0, .ref (qA 5), .ref (qA 6), .ref (qA 7), .ref (qA 8), .ref (qA 9), .ref (qA 10), .ref (qA 11), .ref (qA 12), .ref (qA 13)]))] H := hP
  have hD : va_D A [(aY, .inr (1, [.int 0, .ref (qY 1), .ref (qY 2), .ref (qY 3), .ref (qY 4), .int 0, .int 0, .int 0])), (aA, .inr (0, [.ref (qA 0), .int 0, .ref (qA 2), .ref (qA 3), .int 0, .ref (qA 5), .ref (qA 6), .ref (qA 7), .ref (qA 8), .ref (qA 9), .ref (qA 10), .ref (qA 11), .ref (qA 12), .ref (qA 13)]))] := hD
  refine lv_iconst (v := 0) hx hb dX1_solve_5 (by decide +kernel) ?_
  refine lv_istore_n (lv' := [(3, .int 0), (0, .ref aY), (1, .ref aA), (2, .int 0)]) hx hb dX1_solve_6 rfl hl (by decide) rfl (fun ls hl => ?_)
  refine lv_iload_n hx hb dX1_solve_7 rfl (lv_at hl 0 rfl) ?_
  refine lv_aload_n hx hb dX1_solve_8 rfl (lv_at hl 2 rfl) ?_
  refine va_get (D := D) (ci := 0) (v := .int 0) (C := RX0) (T := TX0) (N := 14) hx hb htg iwG_0 hown hE.1 hP 1 rfl rfl 1 (by decide) (htg _ wm_219) (fun _ h9 => h9) rfl dX1_solve_9 ?_
  refine lv_icmp_ge (tgt := 65) hx hb dX1_solve_12 (by decide) (fun _ => ?_) (fun c9 => absurd c9 (by decide +kernel))
  refine lv_aload_n hx hb dX1_solve_65 rfl (lv_at hl 1 rfl) ?_
  refine lv_iconst (v := 0) hx hb dX1_solve_66 (by decide +kernel) ?_
  refine va_put (D := D) (ci := 1) (v := .int 0) (ty := tyX1 5) (C := RX1) (T := TX1) (N := 8) hx hb htg iwG_1 tyX1 tyX1_ok nmX1 hown hE.1 hP hD hS 0 rfl rfl 5 (by decide) (htg _ wm_119) (fun _ h9 => h9) rfl (by decide +kernel) rfl rfl (Nat.le_of_ble_eq_true rfl) dX1_solve_67 (fun H locs hP hD hS => ?_)
  have hP : va_P D vwCl [(aY, .inr (1, [.int 0, .ref (qY 1), .ref (qY 2), .ref (qY 3), .ref (qY 4), .int 0, .int 0, .int 0])), (aA, .inr (0, [.ref (qA 0), .int 0, .ref (qA 2), .ref (qA 3), .int 0, .ref (qA 5), .ref (qA 6), .ref (qA 7), .ref (qA 8), .ref (qA 9), .ref (qA 10), .ref (qA 11), .ref (qA 12), .ref (qA 13)]))] H := hP
  have hD : va_D A [(aY, .inr (1, [.int 0, .ref (qY 1), .ref (qY 2), .ref (qY 3), .ref (qY 4), .int 0, .int 0, .int 0])), (aA, .inr (0, [.ref (qA 0), .int 0, .ref (qA 2), .ref (qA 3), .int 0, .ref (qA 5), .ref (qA 6), .ref (qA 7), .ref (qA 8), .ref (qA 9), .ref (qA 10), .ref (qA 11), .ref (qA 12), .ref (qA 13)]))] := hD
  refine lv_aload_n hx hb dX1_solve_70 rfl (lv_at hl 1 rfl) ?_
  refine lv_iconst (v := 0) hx hb dX1_solve_71 (by decide +kernel) ?_
  refine va_put (D := D) (ci := 1) (v := .int 0) (ty := tyX1 6) (C := RX1) (T := TX1) (N := 8) hx hb htg iwG_1 tyX1 tyX1_ok nmX1 hown hE.1 hP hD hS 0 rfl rfl 6 (by decide) (htg _ wm_120) (fun _ h9 => h9) rfl (by decide +kernel) rfl rfl (Nat.le_of_ble_eq_true rfl) dX1_solve_72 (fun H locs hP hD hS => ?_)
  have hP : va_P D vwCl [(aY, .inr (1, [.int 0, .ref (qY 1), .ref (qY 2), .ref (qY 3), .ref (qY 4), .int 0, .int 0, .int 0])), (aA, .inr (0, [.ref (qA 0), .int 0, .ref (qA 2), .ref (qA 3), .int 0, .ref (qA 5), .ref (qA 6), .ref (qA 7), .ref (qA 8), .ref (qA 9), .ref (qA 10), .ref (qA 11), .ref (qA 12), .ref (qA 13)]))] H := hP
  have hD : va_D A [(aY, .inr (1, [.int 0, .ref (qY 1), .ref (qY 2), .ref (qY 3), .ref (qY 4), .int 0, .int 0, .int 0])), (aA, .inr (0, [.ref (qA 0), .int 0, .ref (qA 2), .ref (qA 3), .int 0, .ref (qA 5), .ref (qA 6), .ref (qA 7), .ref (qA 8), .ref (qA 9), .ref (qA 10), .ref (qA 11), .ref (qA 12), .ref (qA 13)]))] := hD
  refine lv_aload_n hx hb dX1_solve_75 rfl (lv_at hl 1 rfl) ?_
  refine lv_iconst (v := 0) hx hb dX1_solve_76 (by decide +kernel) ?_
  refine va_put (D := D) (ci := 1) (v := .int 0) (ty := tyX1 7) (C := RX1) (T := TX1) (N := 8) hx hb htg iwG_1 tyX1 tyX1_ok nmX1 hown hE.1 hP hD hS 0 rfl rfl 7 (by decide) (htg _ wm_121) (fun _ h9 => h9) rfl (by decide +kernel) rfl rfl (Nat.le_of_ble_eq_true rfl) dX1_solve_77 (fun H locs hP hD hS => ?_)
  have hP : va_P D vwCl [(aY, .inr (1, [.int 0, .ref (qY 1), .ref (qY 2), .ref (qY 3), .ref (qY 4), .int 0, .int 0, .int 0])), (aA, .inr (0, [.ref (qA 0), .int 0, .ref (qA 2), .ref (qA 3), .int 0, .ref (qA 5), .ref (qA 6), .ref (qA 7), .ref (qA 8), .ref (qA 9), .ref (qA 10), .ref (qA 11), .ref (qA 12), .ref (qA 13)]))] H := hP
  have hD : va_D A [(aY, .inr (1, [.int 0, .ref (qY 1), .ref (qY 2), .ref (qY 3), .ref (qY 4), .int 0, .int 0, .int 0])), (aA, .inr (0, [.ref (qA 0), .int 0, .ref (qA 2), .ref (qA 3), .int 0, .ref (qA 5), .ref (qA 6), .ref (qA 7), .ref (qA 8), .ref (qA 9), .ref (qA 10), .ref (qA 11), .ref (qA 12), .ref (qA 13)]))] := hD
  refine lv_iconst (v := 1) hx hb dX1_solve_80 (by decide +kernel) ?_
  refine lv_istore_n (lv' := [(3, .int 1), (0, .ref aY), (1, .ref aA), (2, .int 0)]) hx hb dX1_solve_81 rfl hl (by decide) rfl (fun ls hl => ?_)
  refine lv_iload_n hx hb dX1_solve_82 rfl (lv_at hl 0 rfl) ?_
  refine lv_iconst (v := 1) hx hb dX1_solve_83 (by decide +kernel) ?_
  refine lv_aload_n hx hb dX1_solve_84 rfl (lv_at hl 1 rfl) ?_
  refine va_get (D := D) (ci := 1) (v := .int 0) (C := RX1) (T := TX1) (N := 8) hx hb htg iwG_1 hown hE.1 hP 0 rfl rfl 0 (by decide) (htg _ wm_114) (fun _ h9 => h9) rfl dX1_solve_85 ?_
  refine lv_ishl hx hb dX1_solve_88 ?_
  refine g_top 1 (by decide +kernel) ?_
  refine lv_icmp_ge (tgt := 103) hx hb dX1_solve_89 (by decide) (fun _ => ?_) (fun c9 => absurd c9 (by decide +kernel))
  exact g_vret () hF hr hlocks (hP.sub [0, 1] rfl) (hD.sub [0, 1] rfl rfl) hS trivial dX1_solve_103 (Nat.le_of_ble_eq_true rfl) (Nat.le_of_ble_eq_true rfl)
set_option maxHeartbeats 8000000 in
set_option maxRecDepth 100000 in
theorem c_X1_copiesFact {l : Launch} {D : va_G} {cI cB cS cZ cW : ClassId} {aY : Nat} {y0 : Int32} {qY : Nat → Nat}  {sz : Nat} : MI l D (gT cI cB cS cZ cW) yX1_copiesFact (wG yX1_copiesFact cX1_copiesFact 2 (some .int)) { frames := 0, cells := 0, slots := 0, locals := 0 } [.ref aY, .int y0] [(aY, .inr (1, [.int 0, .ref (qY 1), .ref (qY 2), .ref (qY 3), .ref (qY 4), .int 0, .int 0, .int 0]))] sz (fun (r : Int32) (u : Unit) => r = S_copies y0) (fun (u : Unit) => [] : (Unit) → va_W) 0 0 := by
  refine g_enter (y := yX1_copiesFact) (w := (wG yX1_copiesFact cX1_copiesFact 2 (some .int))) (As := [.ref aY, .int y0]) (D := D) (T := gT cI cB cS cZ cW) (ws := [(aY, .inr (1, [.int 0, .ref (qY 1), .ref (qY 2), .ref (qY 3), .ref (qY 4), .int 0, .int 0, .int 0]))]) (gQi D (fun (r : Int32) (u : Unit) => r = S_copies y0) (fun (u : Unit) => [] : (Unit) → va_W)) (cc := cX1_copiesFact) (maxL := 2) (ret := (some .int)) (by decide) rfl (Nat.le_of_ble_eq_true rfl) ?_
  intro p e s m below meth c A ls hF hr hlocks hname hsz hE hA hP hD hS hl
  have hF : CallFix p m c cX1_copiesFact 2 s ([.ref aY, .int y0] : List Value).toArray (wG yX1_copiesFact cX1_copiesFact 2 (some .int)) RX1 := hF
  obtain ⟨hx, hb, hml, hown, hts⟩ := id hF
  have htg : ∀ w ∈ GL, w.before ([.ref aY, .int y0] : List Value).toArray s = true := fun w h => hts w (List.mem_cons_of_mem _ h)
  have hl : lv_has ls 2 [(0, .ref aY), (1, .int y0)] := hl
  have zm1 := tm_1
  have z0 := t_0
  have z1 := t_1
  have z2 := t_2
  refine lv_iload_n hx hb dX1_copiesFact_0 rfl (lv_at hl 1 rfl) ?_
  by_cases c1 : y0 = 0
  · subst c1
    refine lv_tableIn (off := 27) (tgt := 28) hx hb dX1_copiesFact_1 (by decide +kernel) (by decide +kernel) (by decide +kernel) (by decide) ?_
    refine lv_aload_n hx hb dX1_copiesFact_28 rfl (lv_at hl 0 rfl) ?_
    refine va_get (D := D) (ci := 1) (v := .int 0) (C := RX1) (T := TX1) (N := 8) hx hb htg iwG_1 hown hE.1 hP 0 rfl rfl 5 (by decide) (htg _ wm_119) (fun _ h9 => h9) rfl dX1_copiesFact_29 ?_
    exact g_iret () hF hr rfl hlocks (hP.sub [] rfl) (hD.sub [] rfl rfl) hS (by show (_ : Int32) = _; unfold S_copies; (repeat' split) <;> first | rfl | (exfalso; omega) | omega) dX1_copiesFact_32 (Nat.le_of_ble_eq_true rfl) (Nat.le_of_ble_eq_true rfl)
  rw [i_eq] at c1
  by_cases c2 : y0 = 1
  · subst c2
    refine lv_tableIn (off := 32) (tgt := 33) hx hb dX1_copiesFact_1 (by decide +kernel) (by decide +kernel) (by decide +kernel) (by decide) ?_
    refine lv_aload_n hx hb dX1_copiesFact_33 rfl (lv_at hl 0 rfl) ?_
    refine va_get (D := D) (ci := 1) (v := .int 0) (C := RX1) (T := TX1) (N := 8) hx hb htg iwG_1 hown hE.1 hP 0 rfl rfl 6 (by decide) (htg _ wm_120) (fun _ h9 => h9) rfl dX1_copiesFact_34 ?_
    exact g_iret () hF hr rfl hlocks (hP.sub [] rfl) (hD.sub [] rfl rfl) hS (by show (_ : Int32) = _; unfold S_copies; (repeat' split) <;> first | rfl | (exfalso; omega) | omega) dX1_copiesFact_37 (Nat.le_of_ble_eq_true rfl) (Nat.le_of_ble_eq_true rfl)
  rw [i_eq] at c2
  by_cases c3 : y0 = 2
  · subst c3
    refine lv_tableIn (off := 37) (tgt := 38) hx hb dX1_copiesFact_1 (by decide +kernel) (by decide +kernel) (by decide +kernel) (by decide) ?_
    refine lv_aload_n hx hb dX1_copiesFact_38 rfl (lv_at hl 0 rfl) ?_
    refine va_get (D := D) (ci := 1) (v := .int 0) (C := RX1) (T := TX1) (N := 8) hx hb htg iwG_1 hown hE.1 hP 0 rfl rfl 7 (by decide) (htg _ wm_121) (fun _ h9 => h9) rfl dX1_copiesFact_39 ?_
    exact g_iret () hF hr rfl hlocks (hP.sub [] rfl) (hD.sub [] rfl rfl) hS (by show (_ : Int32) = _; unfold S_copies; (repeat' split) <;> first | rfl | (exfalso; omega) | omega) dX1_copiesFact_42 (Nat.le_of_ble_eq_true rfl) (Nat.le_of_ble_eq_true rfl)
  rw [i_eq] at c3
  refine lv_tableOut (tgt := 43) hx hb dX1_copiesFact_1 (by omega) (by decide) ?_
  refine lv_iconst (v := (-1)) hx hb dX1_copiesFact_43 (by decide +kernel) ?_
  exact g_iret () hF hr rfl hlocks (hP.sub [] rfl) (hD.sub [] rfl rfl) hS (by show (_ : Int32) = _; unfold S_copies; (repeat' split) <;> first | rfl | (exfalso; omega) | omega) dX1_copiesFact_44 (Nat.le_of_ble_eq_true rfl) (Nat.le_of_ble_eq_true rfl)
