set_option maxHeartbeats 8000000 in
set_option maxRecDepth 100000 in
theorem c_J7_fill_53178_36 {l : Launch} {D : va_G} {cI cB cS cZ cW : ClassId} {aV : Nat} {y0 : Int32} {g : Nat → Int32}  {sz : Nat} : MV l D (gT cI cB cS cZ cW) yJ7_fill_53178 (wG yJ7_fill_53178 cJ7_fill_53178 4 none) { frames := 0, cells := 0, slots := 0, locals := 0 } [.ref aV, .int y0] [(aV, .inl (cI, 36, .inl g))] sz (fun (u : Nat → Int32) => True) (fun (u : Nat → Int32) => [(aV, .inl (cI, 36, .inl u))] : (Nat → Int32) → va_W) 0 0 := by
  refine g_enter (y := yJ7_fill_53178) (w := (wG yJ7_fill_53178 cJ7_fill_53178 4 none)) (As := [.ref aV, .int y0]) (D := D) (T := gT cI cB cS cZ cW) (ws := [(aV, .inl (cI, 36, .inl g))]) (gQv D (fun (u : Nat → Int32) => True) (fun (u : Nat → Int32) => [(aV, .inl (cI, 36, .inl u))] : (Nat → Int32) → va_W)) (cc := cJ7_fill_53178) (maxL := 4) (ret := none) (by decide) rfl (Nat.le_of_ble_eq_true rfl) ?_
  intro p e s m below meth c A ls hF hr hlocks hname hsz hE hA hP hD hS hl
  have hF : CallFix p m c cJ7_fill_53178 4 s ([.ref aV, .int y0] : List Value).toArray (wG yJ7_fill_53178 cJ7_fill_53178 4 none) RJ7 := hF
  obtain ⟨hx, hb, hml, hown, hts⟩ := id hF
  have htg : ∀ w ∈ GL, w.before ([.ref aV, .int y0] : List Value).toArray s = true := fun w h => hts w (List.mem_cons_of_mem _ h)
  have hl : lv_has ls 4 [(0, .ref aV), (1, .int y0)] := hl
  have z0 := t_0
  have z36 := t_36
  refine lv_iconst (v := 0) hx hb dJ7_fill_53178_0 (by decide +kernel) ?_
  refine lv_istore_n (lv' := [(2, .int 0), (0, .ref aV), (1, .int y0)]) hx hb dJ7_fill_53178_1 rfl hl (by decide) rfl (fun ls hl => ?_)
  refine lv_aload_n hx hb dJ7_fill_53178_2 rfl (lv_at hl 1 rfl) ?_
  refine va_alen (v := 36) hx hb hE.1 hP 0 0 rfl rfl rfl dJ7_fill_53178_3 ?_
  refine lv_istore_n (lv' := [(3, .int 36), (2, .int 0), (0, .ref aV), (1, .int y0)]) hx hb dJ7_fill_53178_4 rfl hl (by decide) rfl (fun ls hl => ?_)
  have LP4 : ∀ (n3 k2 : Nat), k2 + n3 = 36 → ∀ (g1 : Nat → Int32) (H : Heap) (locs : List Loc) (ls : Array Slot), va_P D vwCl [(aV, .inl (cI, 36, .inl g1))] H → va_D A [(aV, .inl (cI, 36, .inl g1))] → va_S A s.heap H locs → lv_has ls 4 [(3, .int 36), (2, .int (nI k2)), (0, .ref aV), (1, .int y0)] → W p l e ({ frames := 0, cells := 0, slots := 0, locals := 0 } : Room) s m ([.ref aV, .int y0] : List Value).toArray below meth c H locs 0 0 (MQ below (gQv D (fun (u : Nat → Int32) => True) (fun (u : Nat → Int32) => [(aV, .inl (cI, 36, .inl u))] : (Nat → Int32) → va_W) A) ([.ref aV, .int y0] : List Value).toArray s 0 0 A) (F0 m 5 ls []) := by
    intro n3
    induction n3 with
    | zero =>
      intro k2 hk g1 H locs ls hP hD hS hl
      obtain rfl : k2 = 36 := by omega
      have hl : lv_has ls 4 [(3, .int 36), (2, .int 36), (0, .ref aV), (1, .int y0)] := hl
      refine lv_iload_n hx hb dJ7_fill_53178_5 rfl (lv_at hl 1 rfl) ?_
      refine lv_iload_n hx hb dJ7_fill_53178_6 rfl (lv_at hl 0 rfl) ?_
      refine lv_icmp_ge (tgt := 20) hx hb dJ7_fill_53178_7 (by decide) (fun _ => ?_) (fun c9 => absurd c9 (by decide +kernel))
      exact g_vret g1 hF hr hlocks (hP.sub [0] rfl) (hD.sub [0] rfl rfl) hS trivial dJ7_fill_53178_20 (Nat.le_of_ble_eq_true rfl) (Nat.le_of_ble_eq_true rfl)
    | succ n3 ih =>
      intro k2 hk g1 H locs ls hP hD hS hl
      have hk2 : k2 < 36 := by omega
      have ikk2 : (nI k2).toInt = k2 := nI_toInt (by omega)
      refine lv_iload_n hx hb dJ7_fill_53178_5 rfl (lv_at hl 1 rfl) ?_
      refine lv_iload_n hx hb dJ7_fill_53178_6 rfl (lv_at hl 0 rfl) ?_
      refine lv_icmp_ge (tgt := 20) hx hb dJ7_fill_53178_7 (by decide) (fun c9 => absurd (i_le.mp c9) (by omega)) (fun _ => ?_)
      refine lv_aload_n hx hb dJ7_fill_53178_10 rfl (lv_at hl 2 rfl) ?_
      refine lv_iload_n hx hb dJ7_fill_53178_11 rfl (lv_at hl 1 rfl) ?_
      refine lv_iload_n hx hb dJ7_fill_53178_12 rfl (lv_at hl 3 rfl) ?_
      refine va_iast hx hb hE.1 hP hD hS 0 0 rfl rfl (vp_in_iff.mpr ⟨by omega, by omega⟩) dJ7_fill_53178_13 (fun H locs hP hD hS => ?_)
      obtain ⟨g5, eg5⟩ : ∃ gz : Nat → Int32, gz = upd g1 ((nI k2) : Int32).toNatClampNeg y0 := ⟨_, rfl⟩
      have hP : va_P D vwCl [(aV, .inl (cI, 36, .inl g5))] H := by rw [eg5]; exact hP
      have hD : va_D A [(aV, .inl (cI, 36, .inl g5))] := by rw [eg5]; exact hD
      refine lv_iinc (v := (nI (k2 + 1))) (lv' := [(2, .int (nI (k2 + 1))), (3, .int 36), (0, .ref aV), (1, .int y0)]) hx hb dJ7_fill_53178_14 hl (k := 1) rfl (show nI k2 + Int32.ofInt 1 = nI (k2 + 1) from nI_1 k2) (by decide) rfl (fun ls hl => ?_)
      refine lv_goto (tgt := 5) hx hb dJ7_fill_53178_17 (by decide) ?_
      exact ih (k2 + 1) (by omega) _ _ _ _ (hP.sub [0] rfl) (hD.sub [0] rfl rfl) hS (lv_sub hl [1, 0, 2, 3] rfl)
  exact LP4 36 0 rfl g _ _ _ hP hD hS (lv_sub hl [0, 1, 2, 3] rfl)
set_option maxHeartbeats 8000000 in
set_option maxRecDepth 100000 in
theorem c_J7_fill_53178_1920 {l : Launch} {D : va_G} {cI cB cS cZ cW : ClassId} {aV : Nat} {y0 : Int32} {g : Nat → Int32}  {sz : Nat} : MV l D (gT cI cB cS cZ cW) yJ7_fill_53178 (wG yJ7_fill_53178 cJ7_fill_53178 4 none) { frames := 0, cells := 0, slots := 0, locals := 0 } [.ref aV, .int y0] [(aV, .inl (cI, 1920, .inl g))] sz (fun (u : Nat → Int32) => True) (fun (u : Nat → Int32) => [(aV, .inl (cI, 1920, .inl u))] : (Nat → Int32) → va_W) 0 0 := by
  refine g_enter (y := yJ7_fill_53178) (w := (wG yJ7_fill_53178 cJ7_fill_53178 4 none)) (As := [.ref aV, .int y0]) (D := D) (T := gT cI cB cS cZ cW) (ws := [(aV, .inl (cI, 1920, .inl g))]) (gQv D (fun (u : Nat → Int32) => True) (fun (u : Nat → Int32) => [(aV, .inl (cI, 1920, .inl u))] : (Nat → Int32) → va_W)) (cc := cJ7_fill_53178) (maxL := 4) (ret := none) (by decide) rfl (Nat.le_of_ble_eq_true rfl) ?_
  intro p e s m below meth c A ls hF hr hlocks hname hsz hE hA hP hD hS hl
  have hF : CallFix p m c cJ7_fill_53178 4 s ([.ref aV, .int y0] : List Value).toArray (wG yJ7_fill_53178 cJ7_fill_53178 4 none) RJ7 := hF
  obtain ⟨hx, hb, hml, hown, hts⟩ := id hF
  have htg : ∀ w ∈ GL, w.before ([.ref aV, .int y0] : List Value).toArray s = true := fun w h => hts w (List.mem_cons_of_mem _ h)
  have hl : lv_has ls 4 [(0, .ref aV), (1, .int y0)] := hl
  have z0 := t_0
  have z1920 := t_1920
  refine lv_iconst (v := 0) hx hb dJ7_fill_53178_0 (by decide +kernel) ?_
  refine lv_istore_n (lv' := [(2, .int 0), (0, .ref aV), (1, .int y0)]) hx hb dJ7_fill_53178_1 rfl hl (by decide) rfl (fun ls hl => ?_)
  refine lv_aload_n hx hb dJ7_fill_53178_2 rfl (lv_at hl 1 rfl) ?_
  refine va_alen (v := 1920) hx hb hE.1 hP 0 0 rfl rfl rfl dJ7_fill_53178_3 ?_
  refine lv_istore_n (lv' := [(3, .int 1920), (2, .int 0), (0, .ref aV), (1, .int y0)]) hx hb dJ7_fill_53178_4 rfl hl (by decide) rfl (fun ls hl => ?_)
  have LP4 : ∀ (n3 k2 : Nat), k2 + n3 = 1920 → ∀ (g1 : Nat → Int32) (H : Heap) (locs : List Loc) (ls : Array Slot), va_P D vwCl [(aV, .inl (cI, 1920, .inl g1))] H → va_D A [(aV, .inl (cI, 1920, .inl g1))] → va_S A s.heap H locs → lv_has ls 4 [(3, .int 1920), (2, .int (nI k2)), (0, .ref aV), (1, .int y0)] → W p l e ({ frames := 0, cells := 0, slots := 0, locals := 0 } : Room) s m ([.ref aV, .int y0] : List Value).toArray below meth c H locs 0 0 (MQ below (gQv D (fun (u : Nat → Int32) => True) (fun (u : Nat → Int32) => [(aV, .inl (cI, 1920, .inl u))] : (Nat → Int32) → va_W) A) ([.ref aV, .int y0] : List Value).toArray s 0 0 A) (F0 m 5 ls []) := by
    intro n3
    induction n3 with
    | zero =>
      intro k2 hk g1 H locs ls hP hD hS hl
      obtain rfl : k2 = 1920 := by omega
      have hl : lv_has ls 4 [(3, .int 1920), (2, .int 1920), (0, .ref aV), (1, .int y0)] := hl
      refine lv_iload_n hx hb dJ7_fill_53178_5 rfl (lv_at hl 1 rfl) ?_
      refine lv_iload_n hx hb dJ7_fill_53178_6 rfl (lv_at hl 0 rfl) ?_
      refine lv_icmp_ge (tgt := 20) hx hb dJ7_fill_53178_7 (by decide) (fun _ => ?_) (fun c9 => absurd c9 (by decide +kernel))
      exact g_vret g1 hF hr hlocks (hP.sub [0] rfl) (hD.sub [0] rfl rfl) hS trivial dJ7_fill_53178_20 (Nat.le_of_ble_eq_true rfl) (Nat.le_of_ble_eq_true rfl)
    | succ n3 ih =>
      intro k2 hk g1 H locs ls hP hD hS hl
      have hk2 : k2 < 1920 := by omega
      have ikk2 : (nI k2).toInt = k2 := nI_toInt (by omega)
      refine lv_iload_n hx hb dJ7_fill_53178_5 rfl (lv_at hl 1 rfl) ?_
      refine lv_iload_n hx hb dJ7_fill_53178_6 rfl (lv_at hl 0 rfl) ?_
      refine lv_icmp_ge (tgt := 20) hx hb dJ7_fill_53178_7 (by decide) (fun c9 => absurd (i_le.mp c9) (by omega)) (fun _ => ?_)
      refine lv_aload_n hx hb dJ7_fill_53178_10 rfl (lv_at hl 2 rfl) ?_
      refine lv_iload_n hx hb dJ7_fill_53178_11 rfl (lv_at hl 1 rfl) ?_
      refine lv_iload_n hx hb dJ7_fill_53178_12 rfl (lv_at hl 3 rfl) ?_
      refine va_iast hx hb hE.1 hP hD hS 0 0 rfl rfl (vp_in_iff.mpr ⟨by omega, by omega⟩) dJ7_fill_53178_13 (fun H locs hP hD hS => ?_)
      obtain ⟨g5, eg5⟩ : ∃ gz : Nat → Int32, gz = upd g1 ((nI k2) : Int32).toNatClampNeg y0 := ⟨_, rfl⟩
      have hP : va_P D vwCl [(aV, .inl (cI, 1920, .inl g5))] H := by rw [eg5]; exact hP
      have hD : va_D A [(aV, .inl (cI, 1920, .inl g5))] := by rw [eg5]; exact hD
      refine lv_iinc (v := (nI (k2 + 1))) (lv' := [(2, .int (nI (k2 + 1))), (3, .int 1920), (0, .ref aV), (1, .int y0)]) hx hb dJ7_fill_53178_14 hl (k := 1) rfl (show nI k2 + Int32.ofInt 1 = nI (k2 + 1) from nI_1 k2) (by decide) rfl (fun ls hl => ?_)
      refine lv_goto (tgt := 5) hx hb dJ7_fill_53178_17 (by decide) ?_
      exact ih (k2 + 1) (by omega) _ _ _ _ (hP.sub [0] rfl) (hD.sub [0] rfl rfl) hS (lv_sub hl [1, 0, 2, 3] rfl)
  exact LP4 1920 0 rfl g _ _ _ hP hD hS (lv_sub hl [0, 1, 2, 3] rfl)
set_option maxHeartbeats 8000000 in
set_option maxRecDepth 100000 in
theorem c_X11_within {l : Launch} {D : va_G} {cI cB cS cZ cW : ClassId} {y0 : Int32} {y1 : Int32} {y2 : Int32}  {sz : Nat} : MI l D (gT cI cB cS cZ cW) yX11_within (wG yX11_within cX11_within 3 (some .boolean)) { frames := 0, cells := 0, slots := 0, locals := 0 } [.int y0, .int y1, .int y2] [] sz (fun (r : Int32) (u : Unit) => ((r = 1 ∧ (y1.toInt ≤ y0.toInt ∧ y0.toInt ≤ y2.toInt)) ∨ (r = 0 ∧ ¬ (y1.toInt ≤ y0.toInt ∧ y0.toInt ≤ y2.toInt)))) (fun (u : Unit) => [] : (Unit) → va_W) 0 0 := by
  refine g_enter (y := yX11_within) (w := (wG yX11_within cX11_within 3 (some .boolean))) (As := [.int y0, .int y1, .int y2]) (D := D) (T := gT cI cB cS cZ cW) (ws := []) (gQi D (fun (r : Int32) (u : Unit) => ((r = 1 ∧ (y1.toInt ≤ y0.toInt ∧ y0.toInt ≤ y2.toInt)) ∨ (r = 0 ∧ ¬ (y1.toInt ≤ y0.toInt ∧ y0.toInt ≤ y2.toInt)))) (fun (u : Unit) => [] : (Unit) → va_W)) (cc := cX11_within) (maxL := 3) (ret := (some .boolean)) (by decide) rfl (Nat.le_of_ble_eq_true rfl) ?_
  intro p e s m below meth c A ls hF hr hlocks hname hsz hE hA hP hD hS hl
  have hF : CallFix p m c cX11_within 3 s ([.int y0, .int y1, .int y2] : List Value).toArray (wG yX11_within cX11_within 3 (some .boolean)) RX11 := hF
  obtain ⟨hx, hb, hml, hown, hts⟩ := id hF
  have htg : ∀ w ∈ GL, w.before ([.int y0, .int y1, .int y2] : List Value).toArray s = true := fun w h => hts w (List.mem_cons_of_mem _ h)
  have hl : lv_has ls 3 [(0, .int y0), (1, .int y1), (2, .int y2)] := hl
  have z0 := t_0
  have z1 := t_1
  refine lv_iload_n hx hb dX11_within_0 rfl (lv_at hl 0 rfl) ?_
  refine lv_iload_n hx hb dX11_within_1 rfl (lv_at hl 1 rfl) ?_
  refine lv_icmp_lt (tgt := 14) hx hb dX11_within_2 (by decide) (fun c1 => ?_) (fun c1 => ?_)
  · rw [i_lt] at c1
    refine lv_iconst (v := 0) hx hb dX11_within_14 (by decide +kernel) ?_
    exact g_iret () hF hr rfl hlocks (hP.sub [] rfl) (hD.sub [] rfl rfl) hS (Or.inr ⟨rfl, by omega⟩) dX11_within_15 (Nat.le_of_ble_eq_true rfl) (Nat.le_of_ble_eq_true rfl)
  · rw [i_lt] at c1
    refine lv_iload_n hx hb dX11_within_5 rfl (lv_at hl 0 rfl) ?_
    refine lv_iload_n hx hb dX11_within_6 rfl (lv_at hl 2 rfl) ?_
    refine lv_icmp_gt (tgt := 14) hx hb dX11_within_7 (by decide) (fun c2 => ?_) (fun c2 => ?_)
    · rw [i_lt] at c2
      refine lv_iconst (v := 0) hx hb dX11_within_14 (by decide +kernel) ?_
      exact g_iret () hF hr rfl hlocks (hP.sub [] rfl) (hD.sub [] rfl rfl) hS (Or.inr ⟨rfl, by omega⟩) dX11_within_15 (Nat.le_of_ble_eq_true rfl) (Nat.le_of_ble_eq_true rfl)
    · rw [i_lt] at c2
      refine lv_iconst (v := 1) hx hb dX11_within_10 (by decide +kernel) ?_
      refine lv_goto (tgt := 15) hx hb dX11_within_11 (by decide) ?_
      exact g_iret () hF hr rfl hlocks (hP.sub [] rfl) (hD.sub [] rfl rfl) hS (Or.inl ⟨rfl, by omega⟩) dX11_within_15 (Nat.le_of_ble_eq_true rfl) (Nat.le_of_ble_eq_true rfl)
set_option maxHeartbeats 8000000 in
set_option maxRecDepth 100000 in
theorem c_X9_init {l : Launch} {D : va_G} {cI cB cS cZ cW : ClassId} {aT : Nat}  {sz : Nat} : MV l D (gT cI cB cS cZ cW) yX9_init (wG yX9_init cX9_init 1 none) { frames := 1, cells := 8, slots := 372, locals := 24 } [.ref aT] [(aT, .inr (9, [.int 0, .null, .null, .null, .null, .null, .null, .null, .null]))] sz (fun (u : Nat → Nat) => True) (fun (u : Nat → Nat) => [(aT, .inr (9, [.int 0, .ref (u 1), .ref (u 2), .ref (u 3), .ref (u 4), .ref (u 5), .ref (u 6), .ref (u 7), .ref (u 8)])), ((u 1), .inl (cI, 6, .inl (fun _ => 0))), ((u 2), .inl (cI, 6, .inl (fun _ => 0))), ((u 3), .inl (cI, 6, .inl (fun _ => 0))), ((u 4), .inl (cI, 36, .inl (fun _ => 0))), ((u 5), .inl (cI, 144, .inl (fun _ => 0))), ((u 6), .inl (cI, 144, .inl (fun _ => 0))), ((u 7), .inl (cI, 6, .inl (fun _ => 0))), ((u 8), .inl (cI, 24, .inl (fun _ => 0)))] : (Nat → Nat) → va_W) 8 372 := by
  refine g_enter (y := yX9_init) (w := (wG yX9_init cX9_init 1 none)) (As := [.ref aT]) (D := D) (T := gT cI cB cS cZ cW) (ws := [(aT, .inr (9, [.int 0, .null, .null, .null, .null, .null, .null, .null, .null]))]) (gQv D (fun (u : Nat → Nat) => True) (fun (u : Nat → Nat) => [(aT, .inr (9, [.int 0, .ref (u 1), .ref (u 2), .ref (u 3), .ref (u 4), .ref (u 5), .ref (u 6), .ref (u 7), .ref (u 8)])), ((u 1), .inl (cI, 6, .inl (fun _ => 0))), ((u 2), .inl (cI, 6, .inl (fun _ => 0))), ((u 3), .inl (cI, 6, .inl (fun _ => 0))), ((u 4), .inl (cI, 36, .inl (fun _ => 0))), ((u 5), .inl (cI, 144, .inl (fun _ => 0))), ((u 6), .inl (cI, 144, .inl (fun _ => 0))), ((u 7), .inl (cI, 6, .inl (fun _ => 0))), ((u 8), .inl (cI, 24, .inl (fun _ => 0)))] : (Nat → Nat) → va_W)) (cc := cX9_init) (maxL := 1) (ret := none) (by decide) rfl (Nat.le_of_ble_eq_true rfl) ?_
  intro p e s m below meth c A ls hF hr hlocks hname hsz hE hA hP hD hS hl
  have hF : CallFix p m c cX9_init 1 s ([.ref aT] : List Value).toArray (wG yX9_init cX9_init 1 none) RX9 := hF
  obtain ⟨hx, hb, hml, hown, hts⟩ := id hF
  have htg : ∀ w ∈ GL, w.before ([.ref aT] : List Value).toArray s = true := fun w h => hts w (List.mem_cons_of_mem _ h)
  have hl : lv_has ls 1 [(0, .ref aT)] := hl
  have z0 := t_0
  have z6 := t_6
  have z24 := t_24
  have z36 := t_36
  have z144 := t_144
  refine lv_aload_n hx hb dX9_init_0 rfl (lv_at hl 0 rfl) ?_
  refine W.objInit hx hb hown (htg _ wm_0) (htg _ wm_1) (htg _ wm_2) rfl (by rw [hml]; exact hl.1) rfl dX9_init_1 (Nat.le_of_ble_eq_true rfl) (Nat.le_of_ble_eq_true rfl) ?_
  refine W.eq (g2 := F0 m 4 ls ([])) rfl ?_
  refine lv_aload_n hx hb dX9_init_4 rfl (lv_at hl 0 rfl) ?_
  refine lv_iconst (v := 0) hx hb dX9_init_5 (by decide +kernel) ?_
  refine va_put (D := D) (ci := 9) (v := .int 0) (ty := tyX9 0) (C := RX9) (T := TX9) (N := 9) hx hb htg iwG_9 tyX9 tyX9_ok nmX9 hown hE.1 hP hD hS 0 rfl rfl 0 (by decide) (htg _ wm_3) (fun _ h9 => h9) rfl (by decide +kernel) rfl rfl (Nat.le_of_ble_eq_true rfl) dX9_init_6 (fun H locs hP hD hS => ?_)
  have hP : va_P D vwCl [(aT, .inr (9, [.int 0, .null, .null, .null, .null, .null, .null, .null, .null]))] H := hP
  have hD : va_D A [(aT, .inr (9, [.int 0, .null, .null, .null, .null, .null, .null, .null, .null]))] := hD
  refine lv_aload_n hx hb dX9_init_9 rfl (lv_at hl 0 rfl) ?_
  refine lv_bipush (v := 6) hx hb dX9_init_10 (by decide +kernel) ?_
  refine g_newa (T := gT cI cB cS cZ cW) (cA := cI) (t0 := 0) (atype := .int) (ty := .int) (a0 := (6, .inl (fun _ => 0))) hx hb rfl (fun _ h => by cases h) (htg _ wm_4) rfl hE hP hD hS hA (fun _ => rfl) (by decide +kernel) (by decide +kernel) (by decide +kernel) (Nat.le_of_ble_eq_true rfl) (Nat.le_of_ble_eq_true rfl) dX9_init_12 (fun q1 H hP hD hS => ?_)
  have hP : va_P D vwCl [(aT, .inr (9, [.int 0, .null, .null, .null, .null, .null, .null, .null, .null])), (q1, .inl (cI, 6, .inl (fun _ => 0)))] H := hP
  have hD : va_D A [(aT, .inr (9, [.int 0, .null, .null, .null, .null, .null, .null, .null, .null])), (q1, .inl (cI, 6, .inl (fun _ => 0)))] := hD
  refine W.widen (k := 1) (n := 6) (Nat.le_of_ble_eq_true rfl) (Nat.le_of_ble_eq_true rfl) ?_
  refine va_putF (D := D) (ci := 9) (v := .ref q1) (ty := tyX9 1) (C := RX9) (T := TX9) (N := 9) hx hb htg iwG_9 tyX9 tyX9_ok nmX9 hown hE.1 hP hD hS 0 rfl rfl 1 (by decide) (htg _ wm_5) (fun _ h9 => h9) rfl hname rfl (by decide +kernel) rfl rfl (Nat.le_of_ble_eq_true rfl) dX9_init_14 (fun H locs hP hD hS => ?_)
  have hP : va_P D vwCl [(aT, .inr (9, [.int 0, .ref q1, .null, .null, .null, .null, .null, .null, .null])), (q1, .inl (cI, 6, .inl (fun _ => 0)))] H := hP
  have hD : va_D A [(aT, .inr (9, [.int 0, .ref q1, .null, .null, .null, .null, .null, .null, .null])), (q1, .inl (cI, 6, .inl (fun _ => 0)))] := hD
  refine lv_aload_n hx hb dX9_init_17 rfl (lv_at hl 0 rfl) ?_
  refine lv_bipush (v := 6) hx hb dX9_init_18 (by decide +kernel) ?_
  refine g_newa (T := gT cI cB cS cZ cW) (cA := cI) (t0 := 0) (atype := .int) (ty := .int) (a0 := (6, .inl (fun _ => 0))) hx hb rfl (fun _ h => by cases h) (htg _ wm_4) rfl hE hP hD hS hA (fun _ => rfl) (by decide +kernel) (by decide +kernel) (by decide +kernel) (Nat.le_of_ble_eq_true rfl) (Nat.le_of_ble_eq_true rfl) dX9_init_20 (fun q2 H hP hD hS => ?_)
  have hP : va_P D vwCl [(aT, .inr (9, [.int 0, .ref q1, .null, .null, .null, .null, .null, .null, .null])), (q1, .inl (cI, 6, .inl (fun _ => 0))), (q2, .inl (cI, 6, .inl (fun _ => 0)))] H := hP
  have hD : va_D A [(aT, .inr (9, [.int 0, .ref q1, .null, .null, .null, .null, .null, .null, .null])), (q1, .inl (cI, 6, .inl (fun _ => 0))), (q2, .inl (cI, 6, .inl (fun _ => 0)))] := hD
  refine W.widen (k := 2) (n := 12) (Nat.le_of_ble_eq_true rfl) (Nat.le_of_ble_eq_true rfl) ?_
  refine va_putF (D := D) (ci := 9) (v := .ref q2) (ty := tyX9 2) (C := RX9) (T := TX9) (N := 9) hx hb htg iwG_9 tyX9 tyX9_ok nmX9 hown hE.1 hP hD hS 0 rfl rfl 2 (by decide) (htg _ wm_6) (fun _ h9 => h9) rfl hname rfl (by decide +kernel) rfl rfl (Nat.le_of_ble_eq_true rfl) dX9_init_22 (fun H locs hP hD hS => ?_)
  have hP : va_P D vwCl [(aT, .inr (9, [.int 0, .ref q1, .ref q2, .null, .null, .null, .null, .null, .null])), (q1, .inl (cI, 6, .inl (fun _ => 0))), (q2, .inl (cI, 6, .inl (fun _ => 0)))] H := hP
  have hD : va_D A [(aT, .inr (9, [.int 0, .ref q1, .ref q2, .null, .null, .null, .null, .null, .null])), (q1, .inl (cI, 6, .inl (fun _ => 0))), (q2, .inl (cI, 6, .inl (fun _ => 0)))] := hD
  refine lv_aload_n hx hb dX9_init_25 rfl (lv_at hl 0 rfl) ?_
  refine lv_bipush (v := 6) hx hb dX9_init_26 (by decide +kernel) ?_
  refine g_newa (T := gT cI cB cS cZ cW) (cA := cI) (t0 := 0) (atype := .int) (ty := .int) (a0 := (6, .inl (fun _ => 0))) hx hb rfl (fun _ h => by cases h) (htg _ wm_4) rfl hE hP hD hS hA (fun _ => rfl) (by decide +kernel) (by decide +kernel) (by decide +kernel) (Nat.le_of_ble_eq_true rfl) (Nat.le_of_ble_eq_true rfl) dX9_init_28 (fun q3 H hP hD hS => ?_)
  have hP : va_P D vwCl [(aT, .inr (9, [.int 0, .ref q1, .ref q2, .null, .null, .null, .null, .null, .null])), (q1, .inl (cI, 6, .inl (fun _ => 0))), (q2, .inl (cI, 6, .inl (fun _ => 0))), (q3, .inl (cI, 6, .inl (fun _ => 0)))] H := hP
  have hD : va_D A [(aT, .inr (9, [.int 0, .ref q1, .ref q2, .null, .null, .null, .null, .null, .null])), (q1, .inl (cI, 6, .inl (fun _ => 0))), (q2, .inl (cI, 6, .inl (fun _ => 0))), (q3, .inl (cI, 6, .inl (fun _ => 0)))] := hD
  refine W.widen (k := 3) (n := 18) (Nat.le_of_ble_eq_true rfl) (Nat.le_of_ble_eq_true rfl) ?_
  refine va_putF (D := D) (ci := 9) (v := .ref q3) (ty := tyX9 3) (C := RX9) (T := TX9) (N := 9) hx hb htg iwG_9 tyX9 tyX9_ok nmX9 hown hE.1 hP hD hS 0 rfl rfl 3 (by decide) (htg _ wm_7) (fun _ h9 => h9) rfl hname rfl (by decide +kernel) rfl rfl (Nat.le_of_ble_eq_true rfl) dX9_init_30 (fun H locs hP hD hS => ?_)
  have hP : va_P D vwCl [(aT, .inr (9, [.int 0, .ref q1, .ref q2, .ref q3, .null, .null, .null, .null, .null])), (q1, .inl (cI, 6, .inl (fun _ => 0))), (q2, .inl (cI, 6, .inl (fun _ => 0))), (q3, .inl (cI, 6, .inl (fun _ => 0)))] H := hP
  have hD : va_D A [(aT, .inr (9, [.int 0, .ref q1, .ref q2, .ref q3, .null, .null, .null, .null, .null])), (q1, .inl (cI, 6, .inl (fun _ => 0))), (q2, .inl (cI, 6, .inl (fun _ => 0))), (q3, .inl (cI, 6, .inl (fun _ => 0)))] := hD
  refine lv_aload_n hx hb dX9_init_33 rfl (lv_at hl 0 rfl) ?_
  refine lv_bipush (v := 36) hx hb dX9_init_34 (by decide +kernel) ?_
  refine g_newa (T := gT cI cB cS cZ cW) (cA := cI) (t0 := 0) (atype := .int) (ty := .int) (a0 := (36, .inl (fun _ => 0))) hx hb rfl (fun _ h => by cases h) (htg _ wm_4) rfl hE hP hD hS hA (fun _ => rfl) (by decide +kernel) (by decide +kernel) (by decide +kernel) (Nat.le_of_ble_eq_true rfl) (Nat.le_of_ble_eq_true rfl) dX9_init_36 (fun q4 H hP hD hS => ?_)
  have hP : va_P D vwCl [(aT, .inr (9, [.int 0, .ref q1, .ref q2, .ref q3, .null, .null, .null, .null, .null])), (q1, .inl (cI, 6, .inl (fun _ => 0))), (q2, .inl (cI, 6, .inl (fun _ => 0))), (q3, .inl (cI, 6, .inl (fun _ => 0))), (q4, .inl (cI, 36, .inl (fun _ => 0)))] H := hP
  have hD : va_D A [(aT, .inr (9, [.int 0, .ref q1, .ref q2, .ref q3, .null, .null, .null, .null, .null])), (q1, .inl (cI, 6, .inl (fun _ => 0))), (q2, .inl (cI, 6, .inl (fun _ => 0))), (q3, .inl (cI, 6, .inl (fun _ => 0))), (q4, .inl (cI, 36, .inl (fun _ => 0)))] := hD
  refine W.widen (k := 4) (n := 54) (Nat.le_of_ble_eq_true rfl) (Nat.le_of_ble_eq_true rfl) ?_
  refine va_putF (D := D) (ci := 9) (v := .ref q4) (ty := tyX9 4) (C := RX9) (T := TX9) (N := 9) hx hb htg iwG_9 tyX9 tyX9_ok nmX9 hown hE.1 hP hD hS 0 rfl rfl 4 (by decide) (htg _ wm_8) (fun _ h9 => h9) rfl hname rfl (by decide +kernel) rfl rfl (Nat.le_of_ble_eq_true rfl) dX9_init_38 (fun H locs hP hD hS => ?_)
  have hP : va_P D vwCl [(aT, .inr (9, [.int 0, .ref q1, .ref q2, .ref q3, .ref q4, .null, .null, .null, .null])), (q1, .inl (cI, 6, .inl (fun _ => 0))), (q2, .inl (cI, 6, .inl (fun _ => 0))), (q3, .inl (cI, 6, .inl (fun _ => 0))), (q4, .inl (cI, 36, .inl (fun _ => 0)))] H := hP
  have hD : va_D A [(aT, .inr (9, [.int 0, .ref q1, .ref q2, .ref q3, .ref q4, .null, .null, .null, .null])), (q1, .inl (cI, 6, .inl (fun _ => 0))), (q2, .inl (cI, 6, .inl (fun _ => 0))), (q3, .inl (cI, 6, .inl (fun _ => 0))), (q4, .inl (cI, 36, .inl (fun _ => 0)))] := hD
  refine lv_aload_n hx hb dX9_init_41 rfl (lv_at hl 0 rfl) ?_
  refine lv_sipush (v := 144) hx hb dX9_init_42 (by decide +kernel) ?_
  refine g_newa (T := gT cI cB cS cZ cW) (cA := cI) (t0 := 0) (atype := .int) (ty := .int) (a0 := (144, .inl (fun _ => 0))) hx hb rfl (fun _ h => by cases h) (htg _ wm_4) rfl hE hP hD hS hA (fun _ => rfl) (by decide +kernel) (by decide +kernel) (by decide +kernel) (Nat.le_of_ble_eq_true rfl) (Nat.le_of_ble_eq_true rfl) dX9_init_45 (fun q5 H hP hD hS => ?_)
  have hP : va_P D vwCl [(aT, .inr (9, [.int 0, .ref q1, .ref q2, .ref q3, .ref q4, .null, .null, .null, .null])), (q1, .inl (cI, 6, .inl (fun _ => 0))), (q2, .inl (cI, 6, .inl (fun _ => 0))), (q3, .inl (cI, 6, .inl (fun _ => 0))), (q4, .inl (cI, 36, .inl (fun _ => 0))), (q5, .inl (cI, 144, .inl (fun _ => 0)))] H := hP
  have hD : va_D A [(aT, .inr (9, [.int 0, .ref q1, .ref q2, .ref q3, .ref q4, .null, .null, .null, .null])), (q1, .inl (cI, 6, .inl (fun _ => 0))), (q2, .inl (cI, 6, .inl (fun _ => 0))), (q3, .inl (cI, 6, .inl (fun _ => 0))), (q4, .inl (cI, 36, .inl (fun _ => 0))), (q5, .inl (cI, 144, .inl (fun _ => 0)))] := hD
  refine W.widen (k := 5) (n := 198) (Nat.le_of_ble_eq_true rfl) (Nat.le_of_ble_eq_true rfl) ?_
  refine va_putF (D := D) (ci := 9) (v := .ref q5) (ty := tyX9 5) (C := RX9) (T := TX9) (N := 9) hx hb htg iwG_9 tyX9 tyX9_ok nmX9 hown hE.1 hP hD hS 0 rfl rfl 5 (by decide) (htg _ wm_9) (fun _ h9 => h9) rfl hname rfl (by decide +kernel) rfl rfl (Nat.le_of_ble_eq_true rfl) dX9_init_47 (fun H locs hP hD hS => ?_)
  have hP : va_P D vwCl [(aT, .inr (9, [.int 0, .ref q1, .ref q2, .ref q3, .ref q4, .ref q5, .null, .null, .null])), (q1, .inl (cI, 6, .inl (fun _ => 0))), (q2, .inl (cI, 6, .inl (fun _ => 0))), (q3, .inl (cI, 6, .inl (fun _ => 0))), (q4, .inl (cI, 36, .inl (fun _ => 0))), (q5, .inl (cI, 144, .inl (fun _ => 0)))] H := hP
  have hD : va_D A [(aT, .inr (9, [.int 0, .ref q1, .ref q2, .ref q3, .ref q4, .ref q5, .null, .null, .null])), (q1, .inl (cI, 6, .inl (fun _ => 0))), (q2, .inl (cI, 6, .inl (fun _ => 0))), (q3, .inl (cI, 6, .inl (fun _ => 0))), (q4, .inl (cI, 36, .inl (fun _ => 0))), (q5, .inl (cI, 144, .inl (fun _ => 0)))] := hD
  refine lv_aload_n hx hb dX9_init_50 rfl (lv_at hl 0 rfl) ?_
  refine lv_sipush (v := 144) hx hb dX9_init_51 (by decide +kernel) ?_
  refine g_newa (T := gT cI cB cS cZ cW) (cA := cI) (t0 := 0) (atype := .int) (ty := .int) (a0 := (144, .inl (fun _ => 0))) hx hb rfl (fun _ h => by cases h) (htg _ wm_4) rfl hE hP hD hS hA (fun _ => rfl) (by decide +kernel) (by decide +kernel) (by decide +kernel) (Nat.le_of_ble_eq_true rfl) (Nat.le_of_ble_eq_true rfl) dX9_init_54 (fun q6 H hP hD hS => ?_)
  have hP : va_P D vwCl [(aT, .inr (9, [.int 0, .ref q1, .ref q2, .ref q3, .ref q4, .ref q5, .null, .null, .null])), (q1, .inl (cI, 6, .inl (fun _ => 0))), (q2, .inl (cI, 6, .inl (fun _ => 0))), (q3, .inl (cI, 6, .inl (fun _ => 0))), (q4, .inl (cI, 36, .inl (fun _ => 0))), (q5, .inl (cI, 144, .inl (fun _ => 0))), (q6, .inl (cI, 144, .inl (fun _ => 0)))] H := hP
  have hD : va_D A [(aT, .inr (9, [.int 0, .ref q1, .ref q2, .ref q3, .ref q4, .ref q5, .null, .null, .null])), (q1, .inl (cI, 6, .inl (fun _ => 0))), (q2, .inl (cI, 6, .inl (fun _ => 0))), (q3, .inl (cI, 6, .inl (fun _ => 0))), (q4, .inl (cI, 36, .inl (fun _ => 0))), (q5, .inl (cI, 144, .inl (fun _ => 0))), (q6, .inl (cI, 144, .inl (fun _ => 0)))] := hD
  refine W.widen (k := 6) (n := 342) (Nat.le_of_ble_eq_true rfl) (Nat.le_of_ble_eq_true rfl) ?_
  refine va_putF (D := D) (ci := 9) (v := .ref q6) (ty := tyX9 6) (C := RX9) (T := TX9) (N := 9) hx hb htg iwG_9 tyX9 tyX9_ok nmX9 hown hE.1 hP hD hS 0 rfl rfl 6 (by decide) (htg _ wm_10) (fun _ h9 => h9) rfl hname rfl (by decide +kernel) rfl rfl (Nat.le_of_ble_eq_true rfl) dX9_init_56 (fun H locs hP hD hS => ?_)
  have hP : va_P D vwCl [(aT, .inr (9, [.int 0, .ref q1, .ref q2, .ref q3, .ref q4, .ref q5, .ref q6, .null, .null])), (q1, .inl (cI, 6, .inl (fun _ => 0))), (q2, .inl (cI, 6, .inl (fun _ => 0))), (q3, .inl (cI, 6, .inl (fun _ => 0))), (q4, .inl (cI, 36, .inl (fun _ => 0))), (q5, .inl (cI, 144, .inl (fun _ => 0))), (q6, .inl (cI, 144, .inl (fun _ => 0)))] H := hP
  have hD : va_D A [(aT, .inr (9, [.int 0, .ref q1, .ref q2, .ref q3, .ref q4, .ref q5, .ref q6, .null, .null])), (q1, .inl (cI, 6, .inl (fun _ => 0))), (q2, .inl (cI, 6, .inl (fun _ => 0))), (q3, .inl (cI, 6, .inl (fun _ => 0))), (q4, .inl (cI, 36, .inl (fun _ => 0))), (q5, .inl (cI, 144, .inl (fun _ => 0))), (q6, .inl (cI, 144, .inl (fun _ => 0)))] := hD
  refine lv_aload_n hx hb dX9_init_59 rfl (lv_at hl 0 rfl) ?_
  refine lv_bipush (v := 6) hx hb dX9_init_60 (by decide +kernel) ?_
  refine g_newa (T := gT cI cB cS cZ cW) (cA := cI) (t0 := 0) (atype := .int) (ty := .int) (a0 := (6, .inl (fun _ => 0))) hx hb rfl (fun _ h => by cases h) (htg _ wm_4) rfl hE hP hD hS hA (fun _ => rfl) (by decide +kernel) (by decide +kernel) (by decide +kernel) (Nat.le_of_ble_eq_true rfl) (Nat.le_of_ble_eq_true rfl) dX9_init_62 (fun q7 H hP hD hS => ?_)
  have hP : va_P D vwCl [(aT, .inr (9, [.int 0, .ref q1, .ref q2, .ref q3, .ref q4, .ref q5, .ref q6, .null, .null])), (q1, .inl (cI, 6, .inl (fun _ => 0))), (q2, .inl (cI, 6, .inl (fun _ => 0))), (q3, .inl (cI, 6, .inl (fun _ => 0))), (q4, .inl (cI, 36, .inl (fun _ => 0))), (q5, .inl (cI, 144, .inl (fun _ => 0))), (q6, .inl (cI, 144, .inl (fun _ => 0))), (q7, .inl (cI, 6, .inl (fun _ => 0)))] H := hP
  have hD : va_D A [(aT, .inr (9, [.int 0, .ref q1, .ref q2, .ref q3, .ref q4, .ref q5, .ref q6, .null, .null])), (q1, .inl (cI, 6, .inl (fun _ => 0))), (q2, .inl (cI, 6, .inl (fun _ => 0))), (q3, .inl (cI, 6, .inl (fun _ => 0))), (q4, .inl (cI, 36, .inl (fun _ => 0))), (q5, .inl (cI, 144, .inl (fun _ => 0))), (q6, .inl (cI, 144, .inl (fun _ => 0))), (q7, .inl (cI, 6, .inl (fun _ => 0)))] := hD
  refine W.widen (k := 7) (n := 348) (Nat.le_of_ble_eq_true rfl) (Nat.le_of_ble_eq_true rfl) ?_
  refine va_putF (D := D) (ci := 9) (v := .ref q7) (ty := tyX9 7) (C := RX9) (T := TX9) (N := 9) hx hb htg iwG_9 tyX9 tyX9_ok nmX9 hown hE.1 hP hD hS 0 rfl rfl 7 (by decide) (htg _ wm_11) (fun _ h9 => h9) rfl hname rfl (by decide +kernel) rfl rfl (Nat.le_of_ble_eq_true rfl) dX9_init_64 (fun H locs hP hD hS => ?_)
  have hP : va_P D vwCl [(aT, .inr (9, [.int 0, .ref q1, .ref q2, .ref q3, .ref q4, .ref q5, .ref q6, .ref q7, .null])), (q1, .inl (cI, 6, .inl (fun _ => 0))), (q2, .inl (cI, 6, .inl (fun _ => 0))), (q3, .inl (cI, 6, .inl (fun _ => 0))), (q4, .inl (cI, 36, .inl (fun _ => 0))), (q5, .inl (cI, 144, .inl (fun _ => 0))), (q6, .inl (cI, 144, .inl (fun _ => 0))), (q7, .inl (cI, 6, .inl (fun _ => 0)))] H := hP
  have hD : va_D A [(aT, .inr (9, [.int 0, .ref q1, .ref q2, .ref q3, .ref q4, .ref q5, .ref q6, .ref q7, .null])), (q1, .inl (cI, 6, .inl (fun _ => 0))), (q2, .inl (cI, 6, .inl (fun _ => 0))), (q3, .inl (cI, 6, .inl (fun _ => 0))), (q4, .inl (cI, 36, .inl (fun _ => 0))), (q5, .inl (cI, 144, .inl (fun _ => 0))), (q6, .inl (cI, 144, .inl (fun _ => 0))), (q7, .inl (cI, 6, .inl (fun _ => 0)))] := hD
  refine lv_aload_n hx hb dX9_init_67 rfl (lv_at hl 0 rfl) ?_
  refine lv_bipush (v := 24) hx hb dX9_init_68 (by decide +kernel) ?_
  refine g_newa (T := gT cI cB cS cZ cW) (cA := cI) (t0 := 0) (atype := .int) (ty := .int) (a0 := (24, .inl (fun _ => 0))) hx hb rfl (fun _ h => by cases h) (htg _ wm_4) rfl hE hP hD hS hA (fun _ => rfl) (by decide +kernel) (by decide +kernel) (by decide +kernel) (Nat.le_of_ble_eq_true rfl) (Nat.le_of_ble_eq_true rfl) dX9_init_70 (fun q8 H hP hD hS => ?_)
  have hP : va_P D vwCl [(aT, .inr (9, [.int 0, .ref q1, .ref q2, .ref q3, .ref q4, .ref q5, .ref q6, .ref q7, .null])), (q1, .inl (cI, 6, .inl (fun _ => 0))), (q2, .inl (cI, 6, .inl (fun _ => 0))), (q3, .inl (cI, 6, .inl (fun _ => 0))), (q4, .inl (cI, 36, .inl (fun _ => 0))), (q5, .inl (cI, 144, .inl (fun _ => 0))), (q6, .inl (cI, 144, .inl (fun _ => 0))), (q7, .inl (cI, 6, .inl (fun _ => 0))), (q8, .inl (cI, 24, .inl (fun _ => 0)))] H := hP
  have hD : va_D A [(aT, .inr (9, [.int 0, .ref q1, .ref q2, .ref q3, .ref q4, .ref q5, .ref q6, .ref q7, .null])), (q1, .inl (cI, 6, .inl (fun _ => 0))), (q2, .inl (cI, 6, .inl (fun _ => 0))), (q3, .inl (cI, 6, .inl (fun _ => 0))), (q4, .inl (cI, 36, .inl (fun _ => 0))), (q5, .inl (cI, 144, .inl (fun _ => 0))), (q6, .inl (cI, 144, .inl (fun _ => 0))), (q7, .inl (cI, 6, .inl (fun _ => 0))), (q8, .inl (cI, 24, .inl (fun _ => 0)))] := hD
  refine W.widen (k := 8) (n := 372) (Nat.le_of_ble_eq_true rfl) (Nat.le_of_ble_eq_true rfl) ?_
  refine va_putF (D := D) (ci := 9) (v := .ref q8) (ty := tyX9 8) (C := RX9) (T := TX9) (N := 9) hx hb htg iwG_9 tyX9 tyX9_ok nmX9 hown hE.1 hP hD hS 0 rfl rfl 8 (by decide) (htg _ wm_12) (fun _ h9 => h9) rfl hname rfl (by decide +kernel) rfl rfl (Nat.le_of_ble_eq_true rfl) dX9_init_72 (fun H locs hP hD hS => ?_)
  have hP : va_P D vwCl [(aT, .inr (9, [.int 0, .ref q1, .ref q2, .ref q3, .ref q4, .ref q5, .ref q6, .ref q7, .ref q8])), (q1, .inl (cI, 6, .inl (fun _ => 0))), (q2, .inl (cI, 6, .inl (fun _ => 0))), (q3, .inl (cI, 6, .inl (fun _ => 0))), (q4, .inl (cI, 36, .inl (fun _ => 0))), (q5, .inl (cI, 144, .inl (fun _ => 0))), (q6, .inl (cI, 144, .inl (fun _ => 0))), (q7, .inl (cI, 6, .inl (fun _ => 0))), (q8, .inl (cI, 24, .inl (fun _ => 0)))] H := hP
  have hD : va_D A [(aT, .inr (9, [.int 0, .ref q1, .ref q2, .ref q3, .ref q4, .ref q5, .ref q6, .ref q7, .ref q8])), (q1, .inl (cI, 6, .inl (fun _ => 0))), (q2, .inl (cI, 6, .inl (fun _ => 0))), (q3, .inl (cI, 6, .inl (fun _ => 0))), (q4, .inl (cI, 36, .inl (fun _ => 0))), (q5, .inl (cI, 144, .inl (fun _ => 0))), (q6, .inl (cI, 144, .inl (fun _ => 0))), (q7, .inl (cI, 6, .inl (fun _ => 0))), (q8, .inl (cI, 24, .inl (fun _ => 0)))] := hD
  exact g_vret (fun z => [0, q1, q2, q3, q4, q5, q6, q7, q8].getD z 0) hF hr hlocks (hP.sub [0, 1, 2, 3, 4, 5, 6, 7, 8] rfl) (hD.sub [0, 1, 2, 3, 4, 5, 6, 7, 8] rfl rfl) hS trivial dX9_init_75 (Nat.le_of_ble_eq_true rfl) (Nat.le_of_ble_eq_true rfl)
set_option maxHeartbeats 8000000 in
set_option maxRecDepth 100000 in
theorem c_X6_init {l : Launch} {D : va_G} {cI cB cS cZ cW : ClassId} {aP : Nat}  {sz : Nat} : MV l D (gT cI cB cS cZ cW) yX6_init (wG yX6_init cX6_init 2 none) { frames := 1, cells := 14, slots := 244, locals := 24 } [.ref aP] [(aP, .inr (6, [.int 0, .null, .null, .null, .null, .null, .null, .null, .null, .null, .null, .null, .null, .null, .null]))] sz (fun (u : (Nat → Nat) × (Nat → Int32)) => True) (fun (u : (Nat → Nat) × (Nat → Int32)) => [(aP, .inr (6, [.int 0, .ref (u.1 1), .ref (u.1 2), .ref (u.1 3), .ref (u.1 4), .ref (u.1 5), .ref (u.1 6), .ref (u.1 7), .ref (u.1 8), .ref (u.1 9), .ref (u.1 10), .ref (u.1 11), .ref (u.1 12), .ref (u.1 13), .ref (u.1 14)])), ((u.1 1), .inl (cI, 16, .inl (fun _ => 0))), ((u.1 2), .inl (cI, 16, .inl (fun _ => 0))), ((u.1 3), .inl (cI, 16, .inl (fun _ => 0))), ((u.1 4), .inl (cI, 16, .inl (fun _ => 0))), ((u.1 5), .inl (cI, 16, .inl (fun _ => 0))), ((u.1 6), .inl (cI, 16, .inl (fun _ => 0))), ((u.1 7), .inl (cI, 16, .inl (fun _ => 0))), ((u.1 8), .inl (cI, 16, .inl (fun _ => 0))), ((u.1 9), .inl (cI, 16, .inl (fun _ => 0))), ((u.1 10), .inl (cI, 16, .inl (fun _ => 0))), ((u.1 11), .inl (cI, 16, .inl (fun _ => 0))), ((u.1 12), .inl (cI, 16, .inl (fun _ => 0))), ((u.1 13), .inl (cI, 16, .inl (fun _ => 0))), ((u.1 14), .inl (cI, 36, .inl u.2))] : ((Nat → Nat) × (Nat → Int32)) → va_W) 14 244 := by
  refine g_enter (y := yX6_init) (w := (wG yX6_init cX6_init 2 none)) (As := [.ref aP]) (D := D) (T := gT cI cB cS cZ cW) (ws := [(aP, .inr (6, [.int 0, .null, .null, .null, .null, .null, .null, .null, .null, .null, .null, .null, .null, .null, .null]))]) (gQv D (fun (u : (Nat → Nat) × (Nat → Int32)) => True) (fun (u : (Nat → Nat) × (Nat → Int32)) => [(aP, .inr (6, [.int 0, .ref (u.1 1), .ref (u.1 2), .ref (u.1 3), .ref (u.1 4), .ref (u.1 5), .ref (u.1 6), .ref (u.1 7), .ref (u.1 8), .ref (u.1 9), .ref (u.1 10), .ref (u.1 11), .ref (u.1 12), .ref (u.1 13), .ref (u.1 14)])), ((u.1 1), .inl (cI, 16, .inl (fun _ => 0))), ((u.1 2), .inl (cI, 16, .inl (fun _ => 0))), ((u.1 3), .inl (cI, 16, .inl (fun _ => 0))), ((u.1 4), .inl (cI, 16, .inl (fun _ => 0))), ((u.1 5), .inl (cI, 16, .inl (fun _ => 0))), ((u.1 6), .inl (cI, 16, .inl (fun _ => 0))), ((u.1 7), .inl (cI, 16, .inl (fun _ => 0))), ((u.1 8), .inl (cI, 16, .inl (fun _ => 0))), ((u.1 9), .inl (cI, 16, .inl (fun _ => 0))), ((u.1 10), .inl (cI, 16, .inl (fun _ => 0))), ((u.1 11), .inl (cI, 16, .inl (fun _ => 0))), ((u.1 12), .inl (cI, 16, .inl (fun _ => 0))), ((u.1 13), .inl (cI, 16, .inl (fun _ => 0))), ((u.1 14), .inl (cI, 36, .inl u.2))] : ((Nat → Nat) × (Nat → Int32)) → va_W)) (cc := cX6_init) (maxL := 2) (ret := none) (by decide) rfl (Nat.le_of_ble_eq_true rfl) ?_
  intro p e s m below meth c A ls hF hr hlocks hname hsz hE hA hP hD hS hl
  have hF : CallFix p m c cX6_init 2 s ([.ref aP] : List Value).toArray (wG yX6_init cX6_init 2 none) RX6 := hF
  obtain ⟨hx, hb, hml, hown, hts⟩ := id hF
  have htg : ∀ w ∈ GL, w.before ([.ref aP] : List Value).toArray s = true := fun w h => hts w (List.mem_cons_of_mem _ h)
  have hl : lv_has ls 2 [(0, .ref aP)] := hl
  have z0 := t_0
  have z1 := t_1
  have z2 := t_2
  have z3 := t_3
  have z4 := t_4
  have z5 := t_5
  have z6 := t_6
  have z7 := t_7
  have z12 := t_12
  have z14 := t_14
  have z16 := t_16
  have z18 := t_18
  have z21 := t_21
  have z24 := t_24
  have z28 := t_28
  have z30 := t_30
  have z35 := t_35
  have z36 := t_36
  refine lv_aload_n hx hb dX6_init_0 rfl (lv_at hl 0 rfl) ?_
  refine W.objInit hx hb hown (htg _ wm_13) (htg _ wm_1) (htg _ wm_2) rfl (by rw [hml]; exact hl.1) rfl dX6_init_1 (Nat.le_of_ble_eq_true rfl) (Nat.le_of_ble_eq_true rfl) ?_
  refine W.eq (g2 := F0 m 4 ls ([])) rfl ?_
  refine lv_aload_n hx hb dX6_init_4 rfl (lv_at hl 0 rfl) ?_
  refine lv_iconst (v := 0) hx hb dX6_init_5 (by decide +kernel) ?_
  refine va_put (D := D) (ci := 6) (v := .int 0) (ty := tyX6 0) (C := RX6) (T := TX6) (N := 15) hx hb htg iwG_6 tyX6 tyX6_ok nmX6 hown hE.1 hP hD hS 0 rfl rfl 0 (by decide) (htg _ wm_14) (fun _ h9 => h9) rfl (by decide +kernel) rfl rfl (Nat.le_of_ble_eq_true rfl) dX6_init_6 (fun H locs hP hD hS => ?_)
  have hP : va_P D vwCl [(aP, .inr (6, [.int 0, .null, .null, .null, .null, .null, .null, .null, .null, .null, .null, .null, .null, .null, .null]))] H := hP
  have hD : va_D A [(aP, .inr (6, [.int 0, .null, .null, .null, .null, .null, .null, .null, .null, .null, .null, .null, .null, .null, .null]))] := hD
  refine lv_aload_n hx hb dX6_init_9 rfl (lv_at hl 0 rfl) ?_
  refine lv_bipush (v := 16) hx hb dX6_init_10 (by decide +kernel) ?_
  refine g_newa (T := gT cI cB cS cZ cW) (cA := cI) (t0 := 0) (atype := .int) (ty := .int) (a0 := (16, .inl (fun _ => 0))) hx hb rfl (fun _ h => by cases h) (htg _ wm_4) rfl hE hP hD hS hA (fun _ => rfl) (by decide +kernel) (by decide +kernel) (by decide +kernel) (Nat.le_of_ble_eq_true rfl) (Nat.le_of_ble_eq_true rfl) dX6_init_12 (fun q1 H hP hD hS => ?_)
  have hP : va_P D vwCl [(aP, .inr (6, [.int 0, .null, .null, .null, .null, .null, .null, .null, .null, .null, .null, .null, .null, .null, .null])), (q1, .inl (cI, 16, .inl (fun _ => 0)))] H := hP
  have hD : va_D A [(aP, .inr (6, [.int 0, .null, .null, .null, .null, .null, .null, .null, .null, .null, .null, .null, .null, .null, .null])), (q1, .inl (cI, 16, .inl (fun _ => 0)))] := hD
  refine W.widen (k := 1) (n := 16) (Nat.le_of_ble_eq_true rfl) (Nat.le_of_ble_eq_true rfl) ?_
  refine va_putF (D := D) (ci := 6) (v := .ref q1) (ty := tyX6 1) (C := RX6) (T := TX6) (N := 15) hx hb htg iwG_6 tyX6 tyX6_ok nmX6 hown hE.1 hP hD hS 0 rfl rfl 1 (by decide) (htg _ wm_15) (fun _ h9 => h9) rfl hname rfl (by decide +kernel) rfl rfl (Nat.le_of_ble_eq_true rfl) dX6_init_14 (fun H locs hP hD hS => ?_)
  have hP : va_P D vwCl [(aP, .inr (6, [.int 0, .ref q1, .null, .null, .null, .null, .null, .null, .null, .null, .null, .null, .null, .null, .null])), (q1, .inl (cI, 16, .inl (fun _ => 0)))] H := hP
  have hD : va_D A [(aP, .inr (6, [.int 0, .ref q1, .null, .null, .null, .null, .null, .null, .null, .null, .null, .null, .null, .null, .null])), (q1, .inl (cI, 16, .inl (fun _ => 0)))] := hD
  refine lv_aload_n hx hb dX6_init_17 rfl (lv_at hl 0 rfl) ?_
  refine lv_bipush (v := 16) hx hb dX6_init_18 (by decide +kernel) ?_
  refine g_newa (T := gT cI cB cS cZ cW) (cA := cI) (t0 := 0) (atype := .int) (ty := .int) (a0 := (16, .inl (fun _ => 0))) hx hb rfl (fun _ h => by cases h) (htg _ wm_4) rfl hE hP hD hS hA (fun _ => rfl) (by decide +kernel) (by decide +kernel) (by decide +kernel) (Nat.le_of_ble_eq_true rfl) (Nat.le_of_ble_eq_true rfl) dX6_init_20 (fun q2 H hP hD hS => ?_)
  have hP : va_P D vwCl [(aP, .inr (6, [.int 0, .ref q1, .null, .null, .null, .null, .null, .null, .null, .null, .null, .null, .null, .null, .null])), (q1, .inl (cI, 16, .inl (fun _ => 0))), (q2, .inl (cI, 16, .inl (fun _ => 0)))] H := hP
  have hD : va_D A [(aP, .inr (6, [.int 0, .ref q1, .null, .null, .null, .null, .null, .null, .null, .null, .null, .null, .null, .null, .null])), (q1, .inl (cI, 16, .inl (fun _ => 0))), (q2, .inl (cI, 16, .inl (fun _ => 0)))] := hD
  refine W.widen (k := 2) (n := 32) (Nat.le_of_ble_eq_true rfl) (Nat.le_of_ble_eq_true rfl) ?_
  refine va_putF (D := D) (ci := 6) (v := .ref q2) (ty := tyX6 2) (C := RX6) (T := TX6) (N := 15) hx hb htg iwG_6 tyX6 tyX6_ok nmX6 hown hE.1 hP hD hS 0 rfl rfl 2 (by decide) (htg _ wm_16) (fun _ h9 => h9) rfl hname rfl (by decide +kernel) rfl rfl (Nat.le_of_ble_eq_true rfl) dX6_init_22 (fun H locs hP hD hS => ?_)
  have hP : va_P D vwCl [(aP, .inr (6, [.int 0, .ref q1, .ref q2, .null, .null, .null, .null, .null, .null, .null, .null, .null, .null, .null, .null])), (q1, .inl (cI, 16, .inl (fun _ => 0))), (q2, .inl (cI, 16, .inl (fun _ => 0)))] H := hP
  have hD : va_D A [(aP, .inr (6, [.int 0, .ref q1, .ref q2, .null, .null, .null, .null, .null, .null, .null, .null, .null, .null, .null, .null])), (q1, .inl (cI, 16, .inl (fun _ => 0))), (q2, .inl (cI, 16, .inl (fun _ => 0)))] := hD
  refine lv_aload_n hx hb dX6_init_25 rfl (lv_at hl 0 rfl) ?_
  refine lv_bipush (v := 16) hx hb dX6_init_26 (by decide +kernel) ?_
  refine g_newa (T := gT cI cB cS cZ cW) (cA := cI) (t0 := 0) (atype := .int) (ty := .int) (a0 := (16, .inl (fun _ => 0))) hx hb rfl (fun _ h => by cases h) (htg _ wm_4) rfl hE hP hD hS hA (fun _ => rfl) (by decide +kernel) (by decide +kernel) (by decide +kernel) (Nat.le_of_ble_eq_true rfl) (Nat.le_of_ble_eq_true rfl) dX6_init_28 (fun q3 H hP hD hS => ?_)
  have hP : va_P D vwCl [(aP, .inr (6, [.int 0, .ref q1, .ref q2, .null, .null, .null, .null, .null, .null, .null, .null, .null, .null, .null, .null])), (q1, .inl (cI, 16, .inl (fun _ => 0))), (q2, .inl (cI, 16, .inl (fun _ => 0))), (q3, .inl (cI, 16, .inl (fun _ => 0)))] H := hP
  have hD : va_D A [(aP, .inr (6, [.int 0, .ref q1, .ref q2, .null, .null, .null, .null, .null, .null, .null, .null, .null, .null, .null, .null])), (q1, .inl (cI, 16, .inl (fun _ => 0))), (q2, .inl (cI, 16, .inl (fun _ => 0))), (q3, .inl (cI, 16, .inl (fun _ => 0)))] := hD
  refine W.widen (k := 3) (n := 48) (Nat.le_of_ble_eq_true rfl) (Nat.le_of_ble_eq_true rfl) ?_
  refine va_putF (D := D) (ci := 6) (v := .ref q3) (ty := tyX6 3) (C := RX6) (T := TX6) (N := 15) hx hb htg iwG_6 tyX6 tyX6_ok nmX6 hown hE.1 hP hD hS 0 rfl rfl 3 (by decide) (htg _ wm_17) (fun _ h9 => h9) rfl hname rfl (by decide +kernel) rfl rfl (Nat.le_of_ble_eq_true rfl) dX6_init_30 (fun H locs hP hD hS => ?_)
  have hP : va_P D vwCl [(aP, .inr (6, [.int 0, .ref q1, .ref q2, .ref q3, .null, .null, .null, .null, .null, .null, .null, .null, .null, .null, .null])), (q1, .inl (cI, 16, .inl (fun _ => 0))), (q2, .inl (cI, 16, .inl (fun _ => 0))), (q3, .inl (cI, 16, .inl (fun _ => 0)))] H := hP
  have hD : va_D A [(aP, .inr (6, [.int 0, .ref q1, .ref q2, .ref q3, .null, .null, .null, .null, .null, .null, .null, .null, .null, .null, .null])), (q1, .inl (cI, 16, .inl (fun _ => 0))), (q2, .inl (cI, 16, .inl (fun _ => 0))), (q3, .inl (cI, 16, .inl (fun _ => 0)))] := hD
  refine lv_aload_n hx hb dX6_init_33 rfl (lv_at hl 0 rfl) ?_
  refine lv_bipush (v := 16) hx hb dX6_init_34 (by decide +kernel) ?_
  refine g_newa (T := gT cI cB cS cZ cW) (cA := cI) (t0 := 0) (atype := .int) (ty := .int) (a0 := (16, .inl (fun _ => 0))) hx hb rfl (fun _ h => by cases h) (htg _ wm_4) rfl hE hP hD hS hA (fun _ => rfl) (by decide +kernel) (by decide +kernel) (by decide +kernel) (Nat.le_of_ble_eq_true rfl) (Nat.le_of_ble_eq_true rfl) dX6_init_36 (fun q4 H hP hD hS => ?_)
  have hP : va_P D vwCl [(aP, .inr (6, [.int 0, .ref q1, .ref q2, .ref q3, .null, .null, .null, .null, .null, .null, .null, .null, .null, .null, .null])), (q1, .inl (cI, 16, .inl (fun _ => 0))), (q2, .inl (cI, 16, .inl (fun _ => 0))), (q3, .inl (cI, 16, .inl (fun _ => 0))), (q4, .inl (cI, 16, .inl (fun _ => 0)))] H := hP
  have hD : va_D A [(aP, .inr (6, [.int 0, .ref q1, .ref q2, .ref q3, .null, .null, .null, .null, .null, .null, .null, .null, .null, .null, .null])), (q1, .inl (cI, 16, .inl (fun _ => 0))), (q2, .inl (cI, 16, .inl (fun _ => 0))), (q3, .inl (cI, 16, .inl (fun _ => 0))), (q4, .inl (cI, 16, .inl (fun _ => 0)))] := hD
  refine W.widen (k := 4) (n := 64) (Nat.le_of_ble_eq_true rfl) (Nat.le_of_ble_eq_true rfl) ?_
  refine va_putF (D := D) (ci := 6) (v := .ref q4) (ty := tyX6 4) (C := RX6) (T := TX6) (N := 15) hx hb htg iwG_6 tyX6 tyX6_ok nmX6 hown hE.1 hP hD hS 0 rfl rfl 4 (by decide) (htg _ wm_18) (fun _ h9 => h9) rfl hname rfl (by decide +kernel) rfl rfl (Nat.le_of_ble_eq_true rfl) dX6_init_38 (fun H locs hP hD hS => ?_)
  have hP : va_P D vwCl [(aP, .inr (6, [.int 0, .ref q1, .ref q2, .ref q3, .ref q4, .null, .null, .null, .null, .null, .null, .null, .null, .null, .null])), (q1, .inl (cI, 16, .inl (fun _ => 0))), (q2, .inl (cI, 16, .inl (fun _ => 0))), (q3, .inl (cI, 16, .inl (fun _ => 0))), (q4, .inl (cI, 16, .inl (fun _ => 0)))] H := hP
  have hD : va_D A [(aP, .inr (6, [.int 0, .ref q1, .ref q2, .ref q3, .ref q4, .null, .null, .null, .null, .null, .null, .null, .null, .null, .null])), (q1, .inl (cI, 16, .inl (fun _ => 0))), (q2, .inl (cI, 16, .inl (fun _ => 0))), (q3, .inl (cI, 16, .inl (fun _ => 0))), (q4, .inl (cI, 16, .inl (fun _ => 0)))] := hD
  refine lv_aload_n hx hb dX6_init_41 rfl (lv_at hl 0 rfl) ?_
  refine lv_bipush (v := 16) hx hb dX6_init_42 (by decide +kernel) ?_
  refine g_newa (T := gT cI cB cS cZ cW) (cA := cI) (t0 := 0) (atype := .int) (ty := .int) (a0 := (16, .inl (fun _ => 0))) hx hb rfl (fun _ h => by cases h) (htg _ wm_4) rfl hE hP hD hS hA (fun _ => rfl) (by decide +kernel) (by decide +kernel) (by decide +kernel) (Nat.le_of_ble_eq_true rfl) (Nat.le_of_ble_eq_true rfl) dX6_init_44 (fun q5 H hP hD hS => ?_)
  have hP : va_P D vwCl [(aP, .inr (6, [.int 0, .ref q1, .ref q2, .ref q3, .ref q4, .null, .null, .null, .null, .null, .null, .null, .null, .null, .null])), (q1, .inl (cI, 16, .inl (fun _ => 0))), (q2, .inl (cI, 16, .inl (fun _ => 0))), (q3, .inl (cI, 16, .inl (fun _ => 0))), (q4, .inl (cI, 16, .inl (fun _ => 0))), (q5, .inl (cI, 16, .inl (fun _ => 0)))] H := hP
  have hD : va_D A [(aP, .inr (6, [.int 0, .ref q1, .ref q2, .ref q3, .ref q4, .null, .null, .null, .null, .null, .null, .null, .null, .null, .null])), (q1, .inl (cI, 16, .inl (fun _ => 0))), (q2, .inl (cI, 16, .inl (fun _ => 0))), (q3, .inl (cI, 16, .inl (fun _ => 0))), (q4, .inl (cI, 16, .inl (fun _ => 0))), (q5, .inl (cI, 16, .inl (fun _ => 0)))] := hD
  refine W.widen (k := 5) (n := 80) (Nat.le_of_ble_eq_true rfl) (Nat.le_of_ble_eq_true rfl) ?_
  refine va_putF (D := D) (ci := 6) (v := .ref q5) (ty := tyX6 5) (C := RX6) (T := TX6) (N := 15) hx hb htg iwG_6 tyX6 tyX6_ok nmX6 hown hE.1 hP hD hS 0 rfl rfl 5 (by decide) (htg _ wm_19) (fun _ h9 => h9) rfl hname rfl (by decide +kernel) rfl rfl (Nat.le_of_ble_eq_true rfl) dX6_init_46 (fun H locs hP hD hS => ?_)
  have hP : va_P D vwCl [(aP, .inr (6, [.int 0, .ref q1, .ref q2, .ref q3, .ref q4, .ref q5, .null, .null, .null, .null, .null, .null, .null, .null, .null])), (q1, .inl (cI, 16, .inl (fun _ => 0))), (q2, .inl (cI, 16, .inl (fun _ => 0))), (q3, .inl (cI, 16, .inl (fun _ => 0))), (q4, .inl (cI, 16, .inl (fun _ => 0))), (q5, .inl (cI, 16, .inl (fun _ => 0)))] H := hP
  have hD : va_D A [(aP, .inr (6, [.int 0, .ref q1, .ref q2, .ref q3, .ref q4, .ref q5, .null, .null, .null, .null, .null, .null, .null, .null, .null])), (q1, .inl (cI, 16, .inl (fun _ => 0))), (q2, .inl (cI, 16, .inl (fun _ => 0))), (q3, .inl (cI, 16, .inl (fun _ => 0))), (q4, .inl (cI, 16, .inl (fun _ => 0))), (q5, .inl (cI, 16, .inl (fun _ => 0)))] := hD
  refine lv_aload_n hx hb dX6_init_49 rfl (lv_at hl 0 rfl) ?_
  refine lv_bipush (v := 16) hx hb dX6_init_50 (by decide +kernel) ?_
  refine g_newa (T := gT cI cB cS cZ cW) (cA := cI) (t0 := 0) (atype := .int) (ty := .int) (a0 := (16, .inl (fun _ => 0))) hx hb rfl (fun _ h => by cases h) (htg _ wm_4) rfl hE hP hD hS hA (fun _ => rfl) (by decide +kernel) (by decide +kernel) (by decide +kernel) (Nat.le_of_ble_eq_true rfl) (Nat.le_of_ble_eq_true rfl) dX6_init_52 (fun q6 H hP hD hS => ?_)
  have hP : va_P D vwCl [(aP, .inr (6, [.int 0, .ref q1, .ref q2, .ref q3, .ref q4, .ref q5, .null, .null, .null, .null, .null, .null, .null, .null, .null])), (q1, .inl (cI, 16, .inl (fun _ => 0))), (q2, .inl (cI, 16, .inl (fun _ => 0))), (q3, .inl (cI, 16, .inl (fun _ => 0))), (q4, .inl (cI, 16, .inl (fun _ => 0))), (q5, .inl (cI, 16, .inl (fun _ => 0))), (q6, .inl (cI, 16, .inl (fun _ => 0)))] H := hP
  have hD : va_D A [(aP, .inr (6, [.int 0, .ref q1, .ref q2, .ref q3, .ref q4, .ref q5, .null, .null, .null, .null, .null, .null, .null, .null, .null])), (q1, .inl (cI, 16, .inl (fun _ => 0))), (q2, .inl (cI, 16, .inl (fun _ => 0))), (q3, .inl (cI, 16, .inl (fun _ => 0))), (q4, .inl (cI, 16, .inl (fun _ => 0))), (q5, .inl (cI, 16, .inl (fun _ => 0))), (q6, .inl (cI, 16, .inl (fun _ => 0)))] := hD
  refine W.widen (k := 6) (n := 96) (Nat.le_of_ble_eq_true rfl) (Nat.le_of_ble_eq_true rfl) ?_
  refine va_putF (D := D) (ci := 6) (v := .ref q6) (ty := tyX6 6) (C := RX6) (T := TX6) (N := 15) hx hb htg iwG_6 tyX6 tyX6_ok nmX6 hown hE.1 hP hD hS 0 rfl rfl 6 (by decide) (htg _ wm_20) (fun _ h9 => h9) rfl hname rfl (by decide +kernel) rfl rfl (Nat.le_of_ble_eq_true rfl) dX6_init_54 (fun H locs hP hD hS => ?_)
  have hP : va_P D vwCl [(aP, .inr (6, [.int 0, .ref q1, .ref q2, .ref q3, .ref q4, .ref q5, .ref q6, .null, .null, .null, .null, .null, .null, .null, .null])), (q1, .inl (cI, 16, .inl (fun _ => 0))), (q2, .inl (cI, 16, .inl (fun _ => 0))), (q3, .inl (cI, 16, .inl (fun _ => 0))), (q4, .inl (cI, 16, .inl (fun _ => 0))), (q5, .inl (cI, 16, .inl (fun _ => 0))), (q6, .inl (cI, 16, .inl (fun _ => 0)))] H := hP
  have hD : va_D A [(aP, .inr (6, [.int 0, .ref q1, .ref q2, .ref q3, .ref q4, .ref q5, .ref q6, .null, .null, .null, .null, .null, .null, .null, .null])), (q1, .inl (cI, 16, .inl (fun _ => 0))), (q2, .inl (cI, 16, .inl (fun _ => 0))), (q3, .inl (cI, 16, .inl (fun _ => 0))), (q4, .inl (cI, 16, .inl (fun _ => 0))), (q5, .inl (cI, 16, .inl (fun _ => 0))), (q6, .inl (cI, 16, .inl (fun _ => 0)))] := hD
  refine lv_aload_n hx hb dX6_init_57 rfl (lv_at hl 0 rfl) ?_
  refine lv_bipush (v := 16) hx hb dX6_init_58 (by decide +kernel) ?_
  refine g_newa (T := gT cI cB cS cZ cW) (cA := cI) (t0 := 0) (atype := .int) (ty := .int) (a0 := (16, .inl (fun _ => 0))) hx hb rfl (fun _ h => by cases h) (htg _ wm_4) rfl hE hP hD hS hA (fun _ => rfl) (by decide +kernel) (by decide +kernel) (by decide +kernel) (Nat.le_of_ble_eq_true rfl) (Nat.le_of_ble_eq_true rfl) dX6_init_60 (fun q7 H hP hD hS => ?_)
  have hP : va_P D vwCl [(aP, .inr (6, [.int 0, .ref q1, .ref q2, .ref q3, .ref q4, .ref q5, .ref q6, .null, .null, .null, .null, .null, .null, .null, .null])), (q1, .inl (cI, 16, .inl (fun _ => 0))), (q2, .inl (cI, 16, .inl (fun _ => 0))), (q3, .inl (cI, 16, .inl (fun _ => 0))), (q4, .inl (cI, 16, .inl (fun _ => 0))), (q5, .inl (cI, 16, .inl (fun _ => 0))), (q6, .inl (cI, 16, .inl (fun _ => 0))), (q7, .inl (cI, 16, .inl (fun _ => 0)))] H := hP
  have hD : va_D A [(aP, .inr (6, [.int 0, .ref q1, .ref q2, .ref q3, .ref q4, .ref q5, .ref q6, .null, .null, .null, .null, .null, .null, .null, .null])), (q1, .inl (cI, 16, .inl (fun _ => 0))), (q2, .inl (cI, 16, .inl (fun _ => 0))), (q3, .inl (cI, 16, .inl (fun _ => 0))), (q4, .inl (cI, 16, .inl (fun _ => 0))), (q5, .inl (cI, 16, .inl (fun _ => 0))), (q6, .inl (cI, 16, .inl (fun _ => 0))), (q7, .inl (cI, 16, .inl (fun _ => 0)))] := hD
  refine W.widen (k := 7) (n := 112) (Nat.le_of_ble_eq_true rfl) (Nat.le_of_ble_eq_true rfl) ?_
  refine va_putF (D := D) (ci := 6) (v := .ref q7) (ty := tyX6 7) (C := RX6) (T := TX6) (N := 15) hx hb htg iwG_6 tyX6 tyX6_ok nmX6 hown hE.1 hP hD hS 0 rfl rfl 7 (by decide) (htg _ wm_21) (fun _ h9 => h9) rfl hname rfl (by decide +kernel) rfl rfl (Nat.le_of_ble_eq_true rfl) dX6_init_62 (fun H locs hP hD hS => ?_)
  have hP : va_P D vwCl [(aP, .inr (6, [.int 0, .ref q1, .ref q2, .ref q3, .ref q4, .ref q5, .ref q6, .ref q7, .null, .null, .null, .null, .null, .null, .null])), (q1, .inl (cI, 16, .inl (fun _ => 0))), (q2, .inl (cI, 16, .inl (fun _ => 0))), (q3, .inl (cI, 16, .inl (fun _ => 0))), (q4, .inl (cI, 16, .inl (fun _ => 0))), (q5, .inl (cI, 16, .inl (fun _ => 0))), (q6, .inl (cI, 16, .inl (fun _ => 0))), (q7, .inl (cI, 16, .inl (fun _ => 0)))] H := hP
  have hD : va_D A [(aP, .inr (6, [.int 0, .ref q1, .ref q2, .ref q3, .ref q4, .ref q5, .ref q6, .ref q7, .null, .null, .null, .null, .null, .null, .null])), (q1, .inl (cI, 16, .inl (fun _ => 0))), (q2, .inl (cI, 16, .inl (fun _ => 0))), (q3, .inl (cI, 16, .inl (fun _ => 0))), (q4, .inl (cI, 16, .inl (fun _ => 0))), (q5, .inl (cI, 16, .inl (fun _ => 0))), (q6, .inl (cI, 16, .inl (fun _ => 0))), (q7, .inl (cI, 16, .inl (fun _ => 0)))] := hD
  refine lv_aload_n hx hb dX6_init_65 rfl (lv_at hl 0 rfl) ?_
  refine lv_bipush (v := 16) hx hb dX6_init_66 (by decide +kernel) ?_
  refine g_newa (T := gT cI cB cS cZ cW) (cA := cI) (t0 := 0) (atype := .int) (ty := .int) (a0 := (16, .inl (fun _ => 0))) hx hb rfl (fun _ h => by cases h) (htg _ wm_4) rfl hE hP hD hS hA (fun _ => rfl) (by decide +kernel) (by decide +kernel) (by decide +kernel) (Nat.le_of_ble_eq_true rfl) (Nat.le_of_ble_eq_true rfl) dX6_init_68 (fun q8 H hP hD hS => ?_)
  have hP : va_P D vwCl [(aP, .inr (6, [.int 0, .ref q1, .ref q2, .ref q3, .ref q4, .ref q5, .ref q6, .ref q7, .null, .null, .null, .null, .null, .null, .null])), (q1, .inl (cI, 16, .inl (fun _ => 0))), (q2, .inl (cI, 16, .inl (fun _ => 0))), (q3, .inl (cI, 16, .inl (fun _ => 0))), (q4, .inl (cI, 16, .inl (fun _ => 0))), (q5, .inl (cI, 16, .inl (fun _ => 0))), (q6, .inl (cI, 16, .inl (fun _ => 0))), (q7, .inl (cI, 16, .inl (fun _ => 0))), (q8, .inl (cI, 16, .inl (fun _ => 0)))] H := hP
  have hD : va_D A [(aP, .inr (6, [.int 0, .ref q1, .ref q2, .ref q3, .ref q4, .ref q5, .ref q6, .ref q7, .null, .null, .null, .null, .null, .null, .null])), (q1, .inl (cI, 16, .inl (fun _ => 0))), (q2, .inl (cI, 16, .inl (fun _ => 0))), (q3, .inl (cI, 16, .inl (fun _ => 0))), (q4, .inl (cI, 16, .inl (fun _ => 0))), (q5, .inl (cI, 16, .inl (fun _ => 0))), (q6, .inl (cI, 16, .inl (fun _ => 0))), (q7, .inl (cI, 16, .inl (fun _ => 0))), (q8, .inl (cI, 16, .inl (fun _ => 0)))] := hD
  refine W.widen (k := 8) (n := 128) (Nat.le_of_ble_eq_true rfl) (Nat.le_of_ble_eq_true rfl) ?_
  refine va_putF (D := D) (ci := 6) (v := .ref q8) (ty := tyX6 8) (C := RX6) (T := TX6) (N := 15) hx hb htg iwG_6 tyX6 tyX6_ok nmX6 hown hE.1 hP hD hS 0 rfl rfl 8 (by decide) (htg _ wm_22) (fun _ h9 => h9) rfl hname rfl (by decide +kernel) rfl rfl (Nat.le_of_ble_eq_true rfl) dX6_init_70 (fun H locs hP hD hS => ?_)
  have hP : va_P D vwCl [(aP, .inr (6, [.int 0, .ref q1, .ref q2, .ref q3, .ref q4, .ref q5, .ref q6, .ref q7, .ref q8, .null, .null, .null, .null, .null, .null])), (q1, .inl (cI, 16, .inl (fun _ => 0))), (q2, .inl (cI, 16, .inl (fun _ => 0))), (q3, .inl (cI, 16, .inl (fun _ => 0))), (q4, .inl (cI, 16, .inl (fun _ => 0))), (q5, .inl (cI, 16, .inl (fun _ => 0))), (q6, .inl (cI, 16, .inl (fun _ => 0))), (q7, .inl (cI, 16, .inl (fun _ => 0))), (q8, .inl (cI, 16, .inl (fun _ => 0)))] H := hP
  have hD : va_D A [(aP, .inr (6, [.int 0, .ref q1, .ref q2, .ref q3, .ref q4, .ref q5, .ref q6, .ref q7, .ref q8, .null, .null, .null, .null, .null, .null])), (q1, .inl (cI, 16, .inl (fun _ => 0))), (q2, .inl (cI, 16, .inl (fun _ => 0))), (q3, .inl (cI, 16, .inl (fun _ => 0))), (q4, .inl (cI, 16, .inl (fun _ => 0))), (q5, .inl (cI, 16, .inl (fun _ => 0))), (q6, .inl (cI, 16, .inl (fun _ => 0))), (q7, .inl (cI, 16, .inl (fun _ => 0))), (q8, .inl (cI, 16, .inl (fun _ => 0)))] := hD
  refine lv_aload_n hx hb dX6_init_73 rfl (lv_at hl 0 rfl) ?_
  refine lv_bipush (v := 16) hx hb dX6_init_74 (by decide +kernel) ?_
  refine g_newa (T := gT cI cB cS cZ cW) (cA := cI) (t0 := 0) (atype := .int) (ty := .int) (a0 := (16, .inl (fun _ => 0))) hx hb rfl (fun _ h => by cases h) (htg _ wm_4) rfl hE hP hD hS hA (fun _ => rfl) (by decide +kernel) (by decide +kernel) (by decide +kernel) (Nat.le_of_ble_eq_true rfl) (Nat.le_of_ble_eq_true rfl) dX6_init_76 (fun q9 H hP hD hS => ?_)
  have hP : va_P D vwCl [(aP, .inr (6, [.int 0, .ref q1, .ref q2, .ref q3, .ref q4, .ref q5, .ref q6, .ref q7, .ref q8, .null, .null, .null, .null, .null, .null])), (q1, .inl (cI, 16, .inl (fun _ => 0))), (q2, .inl (cI, 16, .inl (fun _ => 0))), (q3, .inl (cI, 16, .inl (fun _ => 0))), (q4, .inl (cI, 16, .inl (fun _ => 0))), (q5, .inl (cI, 16, .inl (fun _ => 0))), (q6, .inl (cI, 16, .inl (fun _ => 0))), (q7, .inl (cI, 16, .inl (fun _ => 0))), (q8, .inl (cI, 16, .inl (fun _ => 0))), (q9, .inl (cI, 16, .inl (fun _ => 0)))] H := hP
  have hD : va_D A [(aP, .inr (6, [.int 0, .ref q1, .ref q2, .ref q3, .ref q4, .ref q5, .ref q6, .ref q7, .ref q8, .null, .null, .null, .null, .null, .null])), (q1, .inl (cI, 16, .inl (fun _ => 0))), (q2, .inl (cI, 16, .inl (fun _ => 0))), (q3, .inl (cI, 16, .inl (fun _ => 0))), (q4, .inl (cI, 16, .inl (fun _ => 0))), (q5, .inl (cI, 16, .inl (fun _ => 0))), (q6, .inl (cI, 16, .inl (fun _ => 0))), (q7, .inl (cI, 16, .inl (fun _ => 0))), (q8, .inl (cI, 16, .inl (fun _ => 0))), (q9, .inl (cI, 16, .inl (fun _ => 0)))] := hD
  refine W.widen (k := 9) (n := 144) (Nat.le_of_ble_eq_true rfl) (Nat.le_of_ble_eq_true rfl) ?_
  refine va_putF (D := D) (ci := 6) (v := .ref q9) (ty := tyX6 9) (C := RX6) (T := TX6) (N := 15) hx hb htg iwG_6 tyX6 tyX6_ok nmX6 hown hE.1 hP hD hS 0 rfl rfl 9 (by decide) (htg _ wm_23) (fun _ h9 => h9) rfl hname rfl (by decide +kernel) rfl rfl (Nat.le_of_ble_eq_true rfl) dX6_init_78 (fun H locs hP hD hS => ?_)
  have hP : va_P D vwCl [(aP, .inr (6, [.int 0, .ref q1, .ref q2, .ref q3, .ref q4, .ref q5, .ref q6, .ref q7, .ref q8, .ref q9, .null, .null, .null, .null, .null])), (q1, .inl (cI, 16, .inl (fun _ => 0))), (q2, .inl (cI, 16, .inl (fun _ => 0))), (q3, .inl (cI, 16, .inl (fun _ => 0))), (q4, .inl (cI, 16, .inl (fun _ => 0))), (q5, .inl (cI, 16, .inl (fun _ => 0))), (q6, .inl (cI, 16, .inl (fun _ => 0))), (q7, .inl (cI, 16, .inl (fun _ => 0))), (q8, .inl (cI, 16, .inl (fun _ => 0))), (q9, .inl (cI, 16, .inl (fun _ => 0)))] H := hP
  have hD : va_D A [(aP, .inr (6, [.int 0, .ref q1, .ref q2, .ref q3, .ref q4, .ref q5, .ref q6, .ref q7, .ref q8, .ref q9, .null, .null, .null, .null, .null])), (q1, .inl (cI, 16, .inl (fun _ => 0))), (q2, .inl (cI, 16, .inl (fun _ => 0))), (q3, .inl (cI, 16, .inl (fun _ => 0))), (q4, .inl (cI, 16, .inl (fun _ => 0))), (q5, .inl (cI, 16, .inl (fun _ => 0))), (q6, .inl (cI, 16, .inl (fun _ => 0))), (q7, .inl (cI, 16, .inl (fun _ => 0))), (q8, .inl (cI, 16, .inl (fun _ => 0))), (q9, .inl (cI, 16, .inl (fun _ => 0)))] := hD
  refine lv_aload_n hx hb dX6_init_81 rfl (lv_at hl 0 rfl) ?_
  refine lv_bipush (v := 16) hx hb dX6_init_82 (by decide +kernel) ?_
  refine g_newa (T := gT cI cB cS cZ cW) (cA := cI) (t0 := 0) (atype := .int) (ty := .int) (a0 := (16, .inl (fun _ => 0))) hx hb rfl (fun _ h => by cases h) (htg _ wm_4) rfl hE hP hD hS hA (fun _ => rfl) (by decide +kernel) (by decide +kernel) (by decide +kernel) (Nat.le_of_ble_eq_true rfl) (Nat.le_of_ble_eq_true rfl) dX6_init_84 (fun q10 H hP hD hS => ?_)
  have hP : va_P D vwCl [(aP, .inr (6, [.int 0, .ref q1, .ref q2, .ref q3, .ref q4, .ref q5, .ref q6, .ref q7, .ref q8, .ref q9, .null, .null, .null, .null, .null])), (q1, .inl (cI, 16, .inl (fun _ => 0))), (q2, .inl (cI, 16, .inl (fun _ => 0))), (q3, .inl (cI, 16, .inl (fun _ => 0))), (q4, .inl (cI, 16, .inl (fun _ => 0))), (q5, .inl (cI, 16, .inl (fun _ => 0))), (q6, .inl (cI, 16, .inl (fun _ => 0))), (q7, .inl (cI, 16, .inl (fun _ => 0))), (q8, .inl (cI, 16, .inl (fun _ => 0))), (q9, .inl (cI, 16, .inl (fun _ => 0))), (q10, .inl (cI, 16, .inl (fun _ => 0)))] H := hP
  have hD : va_D A [(aP, .inr (6, [.int 0, .ref q1, .ref q2, .ref q3, .ref q4, .ref q5, .ref q6, .ref q7, .ref q8, .ref q9, .null, .null, .null, .null, .null])), (q1, .inl (cI, 16, .inl (fun _ => 0))), (q2, .inl (cI, 16, .inl (fun _ => 0))), (q3, .inl (cI, 16, .inl (fun _ => 0))), (q4, .inl (cI, 16, .inl (fun _ => 0))), (q5, .inl (cI, 16, .inl (fun _ => 0))), (q6, .inl (cI, 16, .inl (fun _ => 0))), (q7, .inl (cI, 16, .inl (fun _ => 0))), (q8, .inl (cI, 16, .inl (fun _ => 0))), (q9, .inl (cI, 16, .inl (fun _ => 0))), (q10, .inl (cI, 16, .inl (fun _ => 0)))] := hD
  refine W.widen (k := 10) (n := 160) (Nat.le_of_ble_eq_true rfl) (Nat.le_of_ble_eq_true rfl) ?_
  refine va_putF (D := D) (ci := 6) (v := .ref q10) (ty := tyX6 10) (C := RX6) (T := TX6) (N := 15) hx hb htg iwG_6 tyX6 tyX6_ok nmX6 hown hE.1 hP hD hS 0 rfl rfl 10 (by decide) (htg _ wm_24) (fun _ h9 => h9) rfl hname rfl (by decide +kernel) rfl rfl (Nat.le_of_ble_eq_true rfl) dX6_init_86 (fun H locs hP hD hS => ?_)
  have hP : va_P D vwCl [(aP, .inr (6, [.int 0, .ref q1, .ref q2, .ref q3, .ref q4, .ref q5, .ref q6, .ref q7, .ref q8, .ref q9, .ref q10, .null, .null, .null, .null])), (q1, .inl (cI, 16, .inl (fun _ => 0))), (q2, .inl (cI, 16, .inl (fun _ => 0))), (q3, .inl (cI, 16, .inl (fun _ => 0))), (q4, .inl (cI, 16, .inl (fun _ => 0))), (q5, .inl (cI, 16, .inl (fun _ => 0))), (q6, .inl (cI, 16, .inl (fun _ => 0))), (q7, .inl (cI, 16, .inl (fun _ => 0))), (q8, .inl (cI, 16, .inl (fun _ => 0))), (q9, .inl (cI, 16, .inl (fun _ => 0))), (q10, .inl (cI, 16, .inl (fun _ => 0)))] H := hP
  have hD : va_D A [(aP, .inr (6, [.int 0, .ref q1, .ref q2, .ref q3, .ref q4, .ref q5, .ref q6, .ref q7, .ref q8, .ref q9, .ref q10, .null, .null, .null, .null])), (q1, .inl (cI, 16, .inl (fun _ => 0))), (q2, .inl (cI, 16, .inl (fun _ => 0))), (q3, .inl (cI, 16, .inl (fun _ => 0))), (q4, .inl (cI, 16, .inl (fun _ => 0))), (q5, .inl (cI, 16, .inl (fun _ => 0))), (q6, .inl (cI, 16, .inl (fun _ => 0))), (q7, .inl (cI, 16, .inl (fun _ => 0))), (q8, .inl (cI, 16, .inl (fun _ => 0))), (q9, .inl (cI, 16, .inl (fun _ => 0))), (q10, .inl (cI, 16, .inl (fun _ => 0)))] := hD
  refine lv_aload_n hx hb dX6_init_89 rfl (lv_at hl 0 rfl) ?_
  refine lv_bipush (v := 16) hx hb dX6_init_90 (by decide +kernel) ?_
  refine g_newa (T := gT cI cB cS cZ cW) (cA := cI) (t0 := 0) (atype := .int) (ty := .int) (a0 := (16, .inl (fun _ => 0))) hx hb rfl (fun _ h => by cases h) (htg _ wm_4) rfl hE hP hD hS hA (fun _ => rfl) (by decide +kernel) (by decide +kernel) (by decide +kernel) (Nat.le_of_ble_eq_true rfl) (Nat.le_of_ble_eq_true rfl) dX6_init_92 (fun q11 H hP hD hS => ?_)
  have hP : va_P D vwCl [(aP, .inr (6, [.int 0, .ref q1, .ref q2, .ref q3, .ref q4, .ref q5, .ref q6, .ref q7, .ref q8, .ref q9, .ref q10, .null, .null, .null, .null])), (q1, .inl (cI, 16, .inl (fun _ => 0))), (q2, .inl (cI, 16, .inl (fun _ => 0))), (q3, .inl (cI, 16, .inl (fun _ => 0))), (q4, .inl (cI, 16, .inl (fun _ => 0))), (q5, .inl (cI, 16, .inl (fun _ => 0))), (q6, .inl (cI, 16, .inl (fun _ => 0))), (q7, .inl (cI, 16, .inl (fun _ => 0))), (q8, .inl (cI, 16, .inl (fun _ => 0))), (q9, .inl (cI, 16, .inl (fun _ => 0))), (q10, .inl (cI, 16, .inl (fun _ => 0))), (q11, .inl (cI, 16, .inl (fun _ => 0)))] H := hP
  have hD : va_D A [(aP, .inr (6, [.int 0, .ref q1, .ref q2, .ref q3, .ref q4, .ref q5, .ref q6, .ref q7, .ref q8, .ref q9, .ref q10, .null, .null, .null, .null])), (q1, .inl (cI, 16, .inl (fun _ => 0))), (q2, .inl (cI, 16, .inl (fun _ => 0))), (q3, .inl (cI, 16, .inl (fun _ => 0))), (q4, .inl (cI, 16, .inl (fun _ => 0))), (q5, .inl (cI, 16, .inl (fun _ => 0))), (q6, .inl (cI, 16, .inl (fun _ => 0))), (q7, .inl (cI, 16, .inl (fun _ => 0))), (q8, .inl (cI, 16, .inl (fun _ => 0))), (q9, .inl (cI, 16, .inl (fun _ => 0))), (q10, .inl (cI, 16, .inl (fun _ => 0))), (q11, .inl (cI, 16, .inl (fun _ => 0)))] := hD
  refine W.widen (k := 11) (n := 176) (Nat.le_of_ble_eq_true rfl) (Nat.le_of_ble_eq_true rfl) ?_
  refine va_putF (D := D) (ci := 6) (v := .ref q11) (ty := tyX6 11) (C := RX6) (T := TX6) (N := 15) hx hb htg iwG_6 tyX6 tyX6_ok nmX6 hown hE.1 hP hD hS 0 rfl rfl 11 (by decide) (htg _ wm_25) (fun _ h9 => h9) rfl hname rfl (by decide +kernel) rfl rfl (Nat.le_of_ble_eq_true rfl) dX6_init_94 (fun H locs hP hD hS => ?_)
  have hP : va_P D vwCl [(aP, .inr (6, [.int 0, .ref q1, .ref q2, .ref q3, .ref q4, .ref q5, .ref q6, .ref q7, .ref q8, .ref q9, .ref q10, .ref q11, .null, .null, .null])), (q1, .inl (cI, 16, .inl (fun _ => 0))), (q2, .inl (cI, 16, .inl (fun _ => 0))), (q3, .inl (cI, 16, .inl (fun _ => 0))), (q4, .inl (cI, 16, .inl (fun _ => 0))), (q5, .inl (cI, 16, .inl (fun _ => 0))), (q6, .inl (cI, 16, .inl (fun _ => 0))), (q7, .inl (cI, 16, .inl (fun _ => 0))), (q8, .inl (cI, 16, .inl (fun _ => 0))), (q9, .inl (cI, 16, .inl (fun _ => 0))), (q10, .inl (cI, 16, .inl (fun _ => 0))), (q11, .inl (cI, 16, .inl (fun _ => 0)))] H := hP
  have hD : va_D A [(aP, .inr (6, [.int 0, .ref q1, .ref q2, .ref q3, .ref q4, .ref q5, .ref q6, .ref q7, .ref q8, .ref q9, .ref q10, .ref q11, .null, .null, .null])), (q1, .inl (cI, 16, .inl (fun _ => 0))), (q2, .inl (cI, 16, .inl (fun _ => 0))), (q3, .inl (cI, 16, .inl (fun _ => 0))), (q4, .inl (cI, 16, .inl (fun _ => 0))), (q5, .inl (cI, 16, .inl (fun _ => 0))), (q6, .inl (cI, 16, .inl (fun _ => 0))), (q7, .inl (cI, 16, .inl (fun _ => 0))), (q8, .inl (cI, 16, .inl (fun _ => 0))), (q9, .inl (cI, 16, .inl (fun _ => 0))), (q10, .inl (cI, 16, .inl (fun _ => 0))), (q11, .inl (cI, 16, .inl (fun _ => 0)))] := hD
  refine lv_aload_n hx hb dX6_init_97 rfl (lv_at hl 0 rfl) ?_
  refine lv_bipush (v := 16) hx hb dX6_init_98 (by decide +kernel) ?_
  refine g_newa (T := gT cI cB cS cZ cW) (cA := cI) (t0 := 0) (atype := .int) (ty := .int) (a0 := (16, .inl (fun _ => 0))) hx hb rfl (fun _ h => by cases h) (htg _ wm_4) rfl hE hP hD hS hA (fun _ => rfl) (by decide +kernel) (by decide +kernel) (by decide +kernel) (Nat.le_of_ble_eq_true rfl) (Nat.le_of_ble_eq_true rfl) dX6_init_100 (fun q12 H hP hD hS => ?_)
  have hP : va_P D vwCl [(aP, .inr (6, [.int 0, .ref q1, .ref q2, .ref q3, .ref q4, .ref q5, .ref q6, .ref q7, .ref q8, .ref q9, .ref q10, .ref q11, .null, .null, .null])), (q1, .inl (cI, 16, .inl (fun _ => 0))), (q2, .inl (cI, 16, .inl (fun _ => 0))), (q3, .inl (cI, 16, .inl (fun _ => 0))), (q4, .inl (cI, 16, .inl (fun _ => 0))), (q5, .inl (cI, 16, .inl (fun _ => 0))), (q6, .inl (cI, 16, .inl (fun _ => 0))), (q7, .inl (cI, 16, .inl (fun _ => 0))), (q8, .inl (cI, 16, .inl (fun _ => 0))), (q9, .inl (cI, 16, .inl (fun _ => 0))), (q10, .inl (cI, 16, .inl (fun _ => 0))), (q11, .inl (cI, 16, .inl (fun _ => 0))), (q12, .inl (cI, 16, .inl (fun _ => 0)))] H := hP
  have hD : va_D A [(aP, .inr (6, [.int 0, .ref q1, .ref q2, .ref q3, .ref q4, .ref q5, .ref q6, .ref q7, .ref q8, .ref q9, .ref q10, .ref q11, .null, .null, .null])), (q1, .inl (cI, 16, .inl (fun _ => 0))), (q2, .inl (cI, 16, .inl (fun _ => 0))), (q3, .inl (cI, 16, .inl (fun _ => 0))), (q4, .inl (cI, 16, .inl (fun _ => 0))), (q5, .inl (cI, 16, .inl (fun _ => 0))), (q6, .inl (cI, 16, .inl (fun _ => 0))), (q7, .inl (cI, 16, .inl (fun _ => 0))), (q8, .inl (cI, 16, .inl (fun _ => 0))), (q9, .inl (cI, 16, .inl (fun _ => 0))), (q10, .inl (cI, 16, .inl (fun _ => 0))), (q11, .inl (cI, 16, .inl (fun _ => 0))), (q12, .inl (cI, 16, .inl (fun _ => 0)))] := hD
  refine W.widen (k := 12) (n := 192) (Nat.le_of_ble_eq_true rfl) (Nat.le_of_ble_eq_true rfl) ?_
  refine va_putF (D := D) (ci := 6) (v := .ref q12) (ty := tyX6 12) (C := RX6) (T := TX6) (N := 15) hx hb htg iwG_6 tyX6 tyX6_ok nmX6 hown hE.1 hP hD hS 0 rfl rfl 12 (by decide) (htg _ wm_26) (fun _ h9 => h9) rfl hname rfl (by decide +kernel) rfl rfl (Nat.le_of_ble_eq_true rfl) dX6_init_102 (fun H locs hP hD hS => ?_)
  have hP : va_P D vwCl [(aP, .inr (6, [.int 0, .ref q1, .ref q2, .ref q3, .ref q4, .ref q5, .ref q6, .ref q7, .ref q8, .ref q9, .ref q10, .ref q11, .ref q12, .null, .null])), (q1, .inl (cI, 16, .inl (fun _ => 0))), (q2, .inl (cI, 16, .inl (fun _ => 0))), (q3, .inl (cI, 16, .inl (fun _ => 0))), (q4, .inl (cI, 16, .inl (fun _ => 0))), (q5, .inl (cI, 16, .inl (fun _ => 0))), (q6, .inl (cI, 16, .inl (fun _ => 0))), (q7, .inl (cI, 16, .inl (fun _ => 0))), (q8, .inl (cI, 16, .inl (fun _ => 0))), (q9, .inl (cI, 16, .inl (fun _ => 0))), (q10, .inl (cI, 16, .inl (fun _ => 0))), (q11, .inl (cI, 16, .inl (fun _ => 0))), (q12, .inl (cI, 16, .inl (fun _ => 0)))] H := hP
  have hD : va_D A [(aP, .inr (6, [.int 0, .ref q1, .ref q2, .ref q3, .ref q4, .ref q5, .ref q6, .ref q7, .ref q8, .ref q9, .ref q10, .ref q11, .ref q12, .null, .null])), (q1, .inl (cI, 16, .inl (fun _ => 0))), (q2, .inl (cI, 16, .inl (fun _ => 0))), (q3, .inl (cI, 16, .inl (fun _ => 0))), (q4, .inl (cI, 16, .inl (fun _ => 0))), (q5, .inl (cI, 16, .inl (fun _ => 0))), (q6, .inl (cI, 16, .inl (fun _ => 0))), (q7, .inl (cI, 16, .inl (fun _ => 0))), (q8, .inl (cI, 16, .inl (fun _ => 0))), (q9, .inl (cI, 16, .inl (fun _ => 0))), (q10, .inl (cI, 16, .inl (fun _ => 0))), (q11, .inl (cI, 16, .inl (fun _ => 0))), (q12, .inl (cI, 16, .inl (fun _ => 0)))] := hD
  refine lv_aload_n hx hb dX6_init_105 rfl (lv_at hl 0 rfl) ?_
  refine lv_bipush (v := 16) hx hb dX6_init_106 (by decide +kernel) ?_
  refine g_newa (T := gT cI cB cS cZ cW) (cA := cI) (t0 := 0) (atype := .int) (ty := .int) (a0 := (16, .inl (fun _ => 0))) hx hb rfl (fun _ h => by cases h) (htg _ wm_4) rfl hE hP hD hS hA (fun _ => rfl) (by decide +kernel) (by decide +kernel) (by decide +kernel) (Nat.le_of_ble_eq_true rfl) (Nat.le_of_ble_eq_true rfl) dX6_init_108 (fun q13 H hP hD hS => ?_)
  have hP : va_P D vwCl [(aP, .inr (6, [.int 0, .ref q1, .ref q2, .ref q3, .ref q4, .ref q5, .ref q6, .ref q7, .ref q8, .ref q9, .ref q10, .ref q11, .ref q12, .null, .null])), (q1, .inl (cI, 16, .inl (fun _ => 0))), (q2, .inl (cI, 16, .inl (fun _ => 0))), (q3, .inl (cI, 16, .inl (fun _ => 0))), (q4, .inl (cI, 16, .inl (fun _ => 0))), (q5, .inl (cI, 16, .inl (fun _ => 0))), (q6, .inl (cI, 16, .inl (fun _ => 0))), (q7, .inl (cI, 16, .inl (fun _ => 0))), (q8, .inl (cI, 16, .inl (fun _ => 0))), (q9, .inl (cI, 16, .inl (fun _ => 0))), (q10, .inl (cI, 16, .inl (fun _ => 0))), (q11, .inl (cI, 16, .inl (fun _ => 0))), (q12, .inl (cI, 16, .inl (fun _ => 0))), (q13, .inl (cI, 16, .inl (fun _ => 0)))] H := hP
  have hD : va_D A [(aP, .inr (6, [.int 0, .ref q1, .ref q2, .ref q3, .ref q4, .ref q5, .ref q6, .ref q7, .ref q8, .ref q9, .ref q10, .ref q11, .ref q12, .null, .null])), (q1, .inl (cI, 16, .inl (fun _ => 0))), (q2, .inl (cI, 16, .inl (fun _ => 0))), (q3, .inl (cI, 16, .inl (fun _ => 0))), (q4, .inl (cI, 16, .inl (fun _ => 0))), (q5, .inl (cI, 16, .inl (fun _ => 0))), (q6, .inl (cI, 16, .inl (fun _ => 0))), (q7, .inl (cI, 16, .inl (fun _ => 0))), (q8, .inl (cI, 16, .inl (fun _ => 0))), (q9, .inl (cI, 16, .inl (fun _ => 0))), (q10, .inl (cI, 16, .inl (fun _ => 0))), (q11, .inl (cI, 16, .inl (fun _ => 0))), (q12, .inl (cI, 16, .inl (fun _ => 0))), (q13, .inl (cI, 16, .inl (fun _ => 0)))] := hD
  refine W.widen (k := 13) (n := 208) (Nat.le_of_ble_eq_true rfl) (Nat.le_of_ble_eq_true rfl) ?_
  refine va_putF (D := D) (ci := 6) (v := .ref q13) (ty := tyX6 13) (C := RX6) (T := TX6) (N := 15) hx hb htg iwG_6 tyX6 tyX6_ok nmX6 hown hE.1 hP hD hS 0 rfl rfl 13 (by decide) (htg _ wm_27) (fun _ h9 => h9) rfl hname rfl (by decide +kernel) rfl rfl (Nat.le_of_ble_eq_true rfl) dX6_init_110 (fun H locs hP hD hS => ?_)
  have hP : va_P D vwCl [(aP, .inr (6, [.int 0, .ref q1, .ref q2, .ref q3, .ref q4, .ref q5, .ref q6, .ref q7, .ref q8, .ref q9, .ref q10, .ref q11, .ref q12, .ref q13, .null])), (q1, .inl (cI, 16, .inl (fun _ => 0))), (q2, .inl (cI, 16, .inl (fun _ => 0))), (q3, .inl (cI, 16, .inl (fun _ => 0))), (q4, .inl (cI, 16, .inl (fun _ => 0))), (q5, .inl (cI, 16, .inl (fun _ => 0))), (q6, .inl (cI, 16, .inl (fun _ => 0))), (q7, .inl (cI, 16, .inl (fun _ => 0))), (q8, .inl (cI, 16, .inl (fun _ => 0))), (q9, .inl (cI, 16, .inl (fun _ => 0))), (q10, .inl (cI, 16, .inl (fun _ => 0))), (q11, .inl (cI, 16, .inl (fun _ => 0))), (q12, .inl (cI, 16, .inl (fun _ => 0))), (q13, .inl (cI, 16, .inl (fun _ => 0)))] H := hP
  have hD : va_D A [(aP, .inr (6, [.int 0, .ref q1, .ref q2, .ref q3, .ref q4, .ref q5, .ref q6, .ref q7, .ref q8, .ref q9, .ref q10, .ref q11, .ref q12, .ref q13, .null])), (q1, .inl (cI, 16, .inl (fun _ => 0))), (q2, .inl (cI, 16, .inl (fun _ => 0))), (q3, .inl (cI, 16, .inl (fun _ => 0))), (q4, .inl (cI, 16, .inl (fun _ => 0))), (q5, .inl (cI, 16, .inl (fun _ => 0))), (q6, .inl (cI, 16, .inl (fun _ => 0))), (q7, .inl (cI, 16, .inl (fun _ => 0))), (q8, .inl (cI, 16, .inl (fun _ => 0))), (q9, .inl (cI, 16, .inl (fun _ => 0))), (q10, .inl (cI, 16, .inl (fun _ => 0))), (q11, .inl (cI, 16, .inl (fun _ => 0))), (q12, .inl (cI, 16, .inl (fun _ => 0))), (q13, .inl (cI, 16, .inl (fun _ => 0)))] := hD
  refine lv_aload_n hx hb dX6_init_113 rfl (lv_at hl 0 rfl) ?_
  refine lv_bipush (v := 36) hx hb dX6_init_114 (by decide +kernel) ?_
  refine g_newa (T := gT cI cB cS cZ cW) (cA := cI) (t0 := 0) (atype := .int) (ty := .int) (a0 := (36, .inl (fun _ => 0))) hx hb rfl (fun _ h => by cases h) (htg _ wm_4) rfl hE hP hD hS hA (fun _ => rfl) (by decide +kernel) (by decide +kernel) (by decide +kernel) (Nat.le_of_ble_eq_true rfl) (Nat.le_of_ble_eq_true rfl) dX6_init_116 (fun q14 H hP hD hS => ?_)
  have hP : va_P D vwCl [(aP, .inr (6, [.int 0, .ref q1, .ref q2, .ref q3, .ref q4, .ref q5, .ref q6, .ref q7, .ref q8, .ref q9, .ref q10, .ref q11, .ref q12, .ref q13, .null])), (q1, .inl (cI, 16, .inl (fun _ => 0))), (q2, .inl (cI, 16, .inl (fun _ => 0))), (q3, .inl (cI, 16, .inl (fun _ => 0))), (q4, .inl (cI, 16, .inl (fun _ => 0))), (q5, .inl (cI, 16, .inl (fun _ => 0))), (q6, .inl (cI, 16, .inl (fun _ => 0))), (q7, .inl (cI, 16, .inl (fun _ => 0))), (q8, .inl (cI, 16, .inl (fun _ => 0))), (q9, .inl (cI, 16, .inl (fun _ => 0))), (q10, .inl (cI, 16, .inl (fun _ => 0))), (q11, .inl (cI, 16, .inl (fun _ => 0))), (q12, .inl (cI, 16, .inl (fun _ => 0))), (q13, .inl (cI, 16, .inl (fun _ => 0))), (q14, .inl (cI, 36, .inl (fun _ => 0)))] H := hP
  have hD : va_D A [(aP, .inr (6, [.int 0, .ref q1, .ref q2, .ref q3, .ref q4, .ref q5, .ref q6, .ref q7, .ref q8, .ref q9, .ref q10, .ref q11, .ref q12, .ref q13, .null])), (q1, .inl (cI, 16, .inl (fun _ => 0))), (q2, .inl (cI, 16, .inl (fun _ => 0))), (q3, .inl (cI, 16, .inl (fun _ => 0))), (q4, .inl (cI, 16, .inl (fun _ => 0))), (q5, .inl (cI, 16, .inl (fun _ => 0))), (q6, .inl (cI, 16, .inl (fun _ => 0))), (q7, .inl (cI, 16, .inl (fun _ => 0))), (q8, .inl (cI, 16, .inl (fun _ => 0))), (q9, .inl (cI, 16, .inl (fun _ => 0))), (q10, .inl (cI, 16, .inl (fun _ => 0))), (q11, .inl (cI, 16, .inl (fun _ => 0))), (q12, .inl (cI, 16, .inl (fun _ => 0))), (q13, .inl (cI, 16, .inl (fun _ => 0))), (q14, .inl (cI, 36, .inl (fun _ => 0)))] := hD
  refine W.widen (k := 14) (n := 244) (Nat.le_of_ble_eq_true rfl) (Nat.le_of_ble_eq_true rfl) ?_
  refine va_putF (D := D) (ci := 6) (v := .ref q14) (ty := tyX6 14) (C := RX6) (T := TX6) (N := 15) hx hb htg iwG_6 tyX6 tyX6_ok nmX6 hown hE.1 hP hD hS 0 rfl rfl 14 (by decide) (htg _ wm_28) (fun _ h9 => h9) rfl hname rfl (by decide +kernel) rfl rfl (Nat.le_of_ble_eq_true rfl) dX6_init_118 (fun H locs hP hD hS => ?_)
  have hP : va_P D vwCl [(aP, .inr (6, [.int 0, .ref q1, .ref q2, .ref q3, .ref q4, .ref q5, .ref q6, .ref q7, .ref q8, .ref q9, .ref q10, .ref q11, .ref q12, .ref q13, .ref q14])), (q1, .inl (cI, 16, .inl (fun _ => 0))), (q2, .inl (cI, 16, .inl (fun _ => 0))), (q3, .inl (cI, 16, .inl (fun _ => 0))), (q4, .inl (cI, 16, .inl (fun _ => 0))), (q5, .inl (cI, 16, .inl (fun _ => 0))), (q6, .inl (cI, 16, .inl (fun _ => 0))), (q7, .inl (cI, 16, .inl (fun _ => 0))), (q8, .inl (cI, 16, .inl (fun _ => 0))), (q9, .inl (cI, 16, .inl (fun _ => 0))), (q10, .inl (cI, 16, .inl (fun _ => 0))), (q11, .inl (cI, 16, .inl (fun _ => 0))), (q12, .inl (cI, 16, .inl (fun _ => 0))), (q13, .inl (cI, 16, .inl (fun _ => 0))), (q14, .inl (cI, 36, .inl (fun _ => 0)))] H := hP
  have hD : va_D A [(aP, .inr (6, [.int 0, .ref q1, .ref q2, .ref q3, .ref q4, .ref q5, .ref q6, .ref q7, .ref q8, .ref q9, .ref q10, .ref q11, .ref q12, .ref q13, .ref q14])), (q1, .inl (cI, 16, .inl (fun _ => 0))), (q2, .inl (cI, 16, .inl (fun _ => 0))), (q3, .inl (cI, 16, .inl (fun _ => 0))), (q4, .inl (cI, 16, .inl (fun _ => 0))), (q5, .inl (cI, 16, .inl (fun _ => 0))), (q6, .inl (cI, 16, .inl (fun _ => 0))), (q7, .inl (cI, 16, .inl (fun _ => 0))), (q8, .inl (cI, 16, .inl (fun _ => 0))), (q9, .inl (cI, 16, .inl (fun _ => 0))), (q10, .inl (cI, 16, .inl (fun _ => 0))), (q11, .inl (cI, 16, .inl (fun _ => 0))), (q12, .inl (cI, 16, .inl (fun _ => 0))), (q13, .inl (cI, 16, .inl (fun _ => 0))), (q14, .inl (cI, 36, .inl (fun _ => 0)))] := hD
  refine lv_aload_n hx hb dX6_init_121 rfl (lv_at hl 0 rfl) ?_
  refine va_get (D := D) (ci := 6) (v := .ref q14) (C := RX6) (T := TX6) (N := 15) hx hb htg iwG_6 hown hE.1 hP 0 rfl rfl 14 (by decide) (htg _ wm_28) (fun _ h9 => h9) rfl dX6_init_122 ?_
  refine lv_iconst (v := 1) hx hb dX6_init_125 (by decide +kernel) ?_
  refine g_av (D := D) (wc := [(q14, .inl (cI, 36, .inl (fun _ => 0)))]) (wr := [(aP, .inr (6, [.int 0, .ref q1, .ref q2, .ref q3, .ref q4, .ref q5, .ref q6, .ref q7, .ref q8, .ref q9, .ref q10, .ref q11, .ref q12, .ref q13, .ref q14])), (q1, .inl (cI, 16, .inl (fun _ => 0))), (q2, .inl (cI, 16, .inl (fun _ => 0))), (q3, .inl (cI, 16, .inl (fun _ => 0))), (q4, .inl (cI, 16, .inl (fun _ => 0))), (q5, .inl (cI, 16, .inl (fun _ => 0))), (q6, .inl (cI, 16, .inl (fun _ => 0))), (q7, .inl (cI, 16, .inl (fun _ => 0))), (q8, .inl (cI, 16, .inl (fun _ => 0))), (q9, .inl (cI, 16, .inl (fun _ => 0))), (q10, .inl (cI, 16, .inl (fun _ => 0))), (q11, .inl (cI, 16, .inl (fun _ => 0))), (q12, .inl (cI, 16, .inl (fun _ => 0))), (q13, .inl (cI, 16, .inl (fun _ => 0)))]) hP hD hS hA [14] [0, 1, 2, 3, 4, 5, 6, 7, 8, 9, 10, 11, 12, 13] rfl rfl rfl rfl (by decide) (fun hPc hDc => va_runS (As := [.ref q14, .int 1]) (rest := []) hF (c_J7_fill_53178_36 (l := l) (D := D) (cI := cI) (cB := cB) (cS := cS) (cZ := cZ) (cW := cW) (aV := q14) (y0 := 1) (g := (fun _ => 0))) (va_cwS 2 hts (gGS (fun _ h => List.mem_cons_of_mem _ h) wm_29 wm_30 wm_31 wm_32) rfl rfl rfl (by decide +kernel) ⟨Nat.le_of_ble_eq_true rfl, Nat.le_of_ble_eq_true rfl⟩) (g_preS hE hPc hDc) rfl rfl hl.1 rfl (lv_room (Nat.le_of_ble_eq_true rfl)) dX6_init_126 ⟨Nat.le_of_ble_eq_true rfl, Nat.le_of_ble_eq_true rfl⟩) (fun u16 H locs p17 hP hD hS => ?_)
  obtain ⟨g18, rfl⟩ : ∃ z, z = u16 := ⟨_, rfl⟩
  have hP : va_P D vwCl [(aP, .inr (6, [.int 0, .ref q1, .ref q2, .ref q3, .ref q4, .ref q5, .ref q6, .ref q7, .ref q8, .ref q9, .ref q10, .ref q11, .ref q12, .ref q13, .ref q14])), (q1, .inl (cI, 16, .inl (fun _ => 0))), (q2, .inl (cI, 16, .inl (fun _ => 0))), (q3, .inl (cI, 16, .inl (fun _ => 0))), (q4, .inl (cI, 16, .inl (fun _ => 0))), (q5, .inl (cI, 16, .inl (fun _ => 0))), (q6, .inl (cI, 16, .inl (fun _ => 0))), (q7, .inl (cI, 16, .inl (fun _ => 0))), (q8, .inl (cI, 16, .inl (fun _ => 0))), (q9, .inl (cI, 16, .inl (fun _ => 0))), (q10, .inl (cI, 16, .inl (fun _ => 0))), (q11, .inl (cI, 16, .inl (fun _ => 0))), (q12, .inl (cI, 16, .inl (fun _ => 0))), (q13, .inl (cI, 16, .inl (fun _ => 0))), (q14, .inl (cI, 36, .inl g18))] H := hP
  have hD : va_D A [(aP, .inr (6, [.int 0, .ref q1, .ref q2, .ref q3, .ref q4, .ref q5, .ref q6, .ref q7, .ref q8, .ref q9, .ref q10, .ref q11, .ref q12, .ref q13, .ref q14])), (q1, .inl (cI, 16, .inl (fun _ => 0))), (q2, .inl (cI, 16, .inl (fun _ => 0))), (q3, .inl (cI, 16, .inl (fun _ => 0))), (q4, .inl (cI, 16, .inl (fun _ => 0))), (q5, .inl (cI, 16, .inl (fun _ => 0))), (q6, .inl (cI, 16, .inl (fun _ => 0))), (q7, .inl (cI, 16, .inl (fun _ => 0))), (q8, .inl (cI, 16, .inl (fun _ => 0))), (q9, .inl (cI, 16, .inl (fun _ => 0))), (q10, .inl (cI, 16, .inl (fun _ => 0))), (q11, .inl (cI, 16, .inl (fun _ => 0))), (q12, .inl (cI, 16, .inl (fun _ => 0))), (q13, .inl (cI, 16, .inl (fun _ => 0))), (q14, .inl (cI, 36, .inl g18))] := hD
  refine lv_iconst (v := 0) hx hb dX6_init_129 (by decide +kernel) ?_
  refine lv_istore_n (lv' := [(1, .int 0), (0, .ref aP)]) hx hb dX6_init_130 rfl hl (by decide) rfl (fun ls hl => ?_)
  refine lv_iload_n hx hb dX6_init_131 rfl (lv_at hl 0 rfl) ?_
  refine lv_bipush (v := 6) hx hb dX6_init_132 (by decide +kernel) ?_
  refine lv_icmp_ge (tgt := 155) hx hb dX6_init_134 (by decide) (fun c9 => absurd c9 (by decide +kernel)) (fun _ => ?_)
  refine lv_aload_n hx hb dX6_init_137 rfl (lv_at hl 1 rfl) ?_
  refine va_get (D := D) (ci := 6) (v := .ref q14) (C := RX6) (T := TX6) (N := 15) hx hb htg iwG_6 hown hE.1 hP 0 rfl rfl 14 (by decide) (htg _ wm_28) (fun _ h9 => h9) rfl dX6_init_138 ?_
  refine lv_iload_n hx hb dX6_init_141 rfl (lv_at hl 0 rfl) ?_
  refine lv_bipush (v := 6) hx hb dX6_init_142 (by decide +kernel) ?_
  refine lv_imul hx hb dX6_init_144 ?_
  refine g_top 0 (by decide +kernel) ?_
  refine lv_iload_n hx hb dX6_init_145 rfl (lv_at hl 0 rfl) ?_
  refine lv_iadd hx hb dX6_init_146 ?_
  refine g_top 0 (by decide +kernel) ?_
  refine lv_iconst (v := 0) hx hb dX6_init_147 (by decide +kernel) ?_
  refine va_iast hx hb hE.1 hP hD hS 14 0 rfl rfl (vp_in_iff.mpr ⟨by decide +kernel, by decide +kernel⟩) dX6_init_148 (fun H locs hP hD hS => ?_)
  obtain ⟨g19, eg19, fg19⟩ : ∃ gz : Nat → Int32, gz = upd g18 (0 : Int32).toNatClampNeg 0 ∧ gz (0 : Int32).toNatClampNeg = 0 := ⟨_, rfl, pk_us⟩
  have hP : va_P D vwCl [(aP, .inr (6, [.int 0, .ref q1, .ref q2, .ref q3, .ref q4, .ref q5, .ref q6, .ref q7, .ref q8, .ref q9, .ref q10, .ref q11, .ref q12, .ref q13, .ref q14])), (q1, .inl (cI, 16, .inl (fun _ => 0))), (q2, .inl (cI, 16, .inl (fun _ => 0))), (q3, .inl (cI, 16, .inl (fun _ => 0))), (q4, .inl (cI, 16, .inl (fun _ => 0))), (q5, .inl (cI, 16, .inl (fun _ => 0))), (q6, .inl (cI, 16, .inl (fun _ => 0))), (q7, .inl (cI, 16, .inl (fun _ => 0))), (q8, .inl (cI, 16, .inl (fun _ => 0))), (q9, .inl (cI, 16, .inl (fun _ => 0))), (q10, .inl (cI, 16, .inl (fun _ => 0))), (q11, .inl (cI, 16, .inl (fun _ => 0))), (q12, .inl (cI, 16, .inl (fun _ => 0))), (q13, .inl (cI, 16, .inl (fun _ => 0))), (q14, .inl (cI, 36, .inl g19))] H := by rw [eg19]; exact hP
  have hD : va_D A [(aP, .inr (6, [.int 0, .ref q1, .ref q2, .ref q3, .ref q4, .ref q5, .ref q6, .ref q7, .ref q8, .ref q9, .ref q10, .ref q11, .ref q12, .ref q13, .ref q14])), (q1, .inl (cI, 16, .inl (fun _ => 0))), (q2, .inl (cI, 16, .inl (fun _ => 0))), (q3, .inl (cI, 16, .inl (fun _ => 0))), (q4, .inl (cI, 16, .inl (fun _ => 0))), (q5, .inl (cI, 16, .inl (fun _ => 0))), (q6, .inl (cI, 16, .inl (fun _ => 0))), (q7, .inl (cI, 16, .inl (fun _ => 0))), (q8, .inl (cI, 16, .inl (fun _ => 0))), (q9, .inl (cI, 16, .inl (fun _ => 0))), (q10, .inl (cI, 16, .inl (fun _ => 0))), (q11, .inl (cI, 16, .inl (fun _ => 0))), (q12, .inl (cI, 16, .inl (fun _ => 0))), (q13, .inl (cI, 16, .inl (fun _ => 0))), (q14, .inl (cI, 36, .inl g19))] := by rw [eg19]; exact hD
  refine lv_iinc (v := 1) (lv' := [(1, .int 1), (0, .ref aP)]) hx hb dX6_init_149 hl (k := 0) rfl (by decide +kernel) (by decide) rfl (fun ls hl => ?_)
  refine lv_goto (tgt := 131) hx hb dX6_init_152 (by decide) ?_
  refine lv_iload_n hx hb dX6_init_131 rfl (lv_at hl 0 rfl) ?_
  refine lv_bipush (v := 6) hx hb dX6_init_132 (by decide +kernel) ?_
  refine lv_icmp_ge (tgt := 155) hx hb dX6_init_134 (by decide) (fun c9 => absurd c9 (by decide +kernel)) (fun _ => ?_)
  refine lv_aload_n hx hb dX6_init_137 rfl (lv_at hl 1 rfl) ?_
  refine va_get (D := D) (ci := 6) (v := .ref q14) (C := RX6) (T := TX6) (N := 15) hx hb htg iwG_6 hown hE.1 hP 0 rfl rfl 14 (by decide) (htg _ wm_28) (fun _ h9 => h9) rfl dX6_init_138 ?_
  refine lv_iload_n hx hb dX6_init_141 rfl (lv_at hl 0 rfl) ?_
  refine lv_bipush (v := 6) hx hb dX6_init_142 (by decide +kernel) ?_
  refine lv_imul hx hb dX6_init_144 ?_
  refine g_top 6 (by decide +kernel) ?_
  refine lv_iload_n hx hb dX6_init_145 rfl (lv_at hl 0 rfl) ?_
  refine lv_iadd hx hb dX6_init_146 ?_
  refine g_top 7 (by decide +kernel) ?_
  refine lv_iconst (v := 0) hx hb dX6_init_147 (by decide +kernel) ?_
  refine va_iast hx hb hE.1 hP hD hS 14 0 rfl rfl (vp_in_iff.mpr ⟨by decide +kernel, by decide +kernel⟩) dX6_init_148 (fun H locs hP hD hS => ?_)
  obtain ⟨g20, eg20, fg20⟩ : ∃ gz : Nat → Int32, gz = upd g19 (7 : Int32).toNatClampNeg 0 ∧ gz (7 : Int32).toNatClampNeg = 0 := ⟨_, rfl, pk_us⟩
  have hP : va_P D vwCl [(aP, .inr (6, [.int 0, .ref q1, .ref q2, .ref q3, .ref q4, .ref q5, .ref q6, .ref q7, .ref q8, .ref q9, .ref q10, .ref q11, .ref q12, .ref q13, .ref q14])), (q1, .inl (cI, 16, .inl (fun _ => 0))), (q2, .inl (cI, 16, .inl (fun _ => 0))), (q3, .inl (cI, 16, .inl (fun _ => 0))), (q4, .inl (cI, 16, .inl (fun _ => 0))), (q5, .inl (cI, 16, .inl (fun _ => 0))), (q6, .inl (cI, 16, .inl (fun _ => 0))), (q7, .inl (cI, 16, .inl (fun _ => 0))), (q8, .inl (cI, 16, .inl (fun _ => 0))), (q9, .inl (cI, 16, .inl (fun _ => 0))), (q10, .inl (cI, 16, .inl (fun _ => 0))), (q11, .inl (cI, 16, .inl (fun _ => 0))), (q12, .inl (cI, 16, .inl (fun _ => 0))), (q13, .inl (cI, 16, .inl (fun _ => 0))), (q14, .inl (cI, 36, .inl g20))] H := by rw [eg20]; exact hP
  have hD : va_D A [(aP, .inr (6, [.int 0, .ref q1, .ref q2, .ref q3, .ref q4, .ref q5, .ref q6, .ref q7, .ref q8, .ref q9, .ref q10, .ref q11, .ref q12, .ref q13, .ref q14])), (q1, .inl (cI, 16, .inl (fun _ => 0))), (q2, .inl (cI, 16, .inl (fun _ => 0))), (q3, .inl (cI, 16, .inl (fun _ => 0))), (q4, .inl (cI, 16, .inl (fun _ => 0))), (q5, .inl (cI, 16, .inl (fun _ => 0))), (q6, .inl (cI, 16, .inl (fun _ => 0))), (q7, .inl (cI, 16, .inl (fun _ => 0))), (q8, .inl (cI, 16, .inl (fun _ => 0))), (q9, .inl (cI, 16, .inl (fun _ => 0))), (q10, .inl (cI, 16, .inl (fun _ => 0))), (q11, .inl (cI, 16, .inl (fun _ => 0))), (q12, .inl (cI, 16, .inl (fun _ => 0))), (q13, .inl (cI, 16, .inl (fun _ => 0))), (q14, .inl (cI, 36, .inl g20))] := by rw [eg20]; exact hD
  refine lv_iinc (v := 2) (lv' := [(1, .int 2), (0, .ref aP)]) hx hb dX6_init_149 hl (k := 0) rfl (by decide +kernel) (by decide) rfl (fun ls hl => ?_)
  refine lv_goto (tgt := 131) hx hb dX6_init_152 (by decide) ?_
  refine lv_iload_n hx hb dX6_init_131 rfl (lv_at hl 0 rfl) ?_
  refine lv_bipush (v := 6) hx hb dX6_init_132 (by decide +kernel) ?_
  refine lv_icmp_ge (tgt := 155) hx hb dX6_init_134 (by decide) (fun c9 => absurd c9 (by decide +kernel)) (fun _ => ?_)
  refine lv_aload_n hx hb dX6_init_137 rfl (lv_at hl 1 rfl) ?_
  refine va_get (D := D) (ci := 6) (v := .ref q14) (C := RX6) (T := TX6) (N := 15) hx hb htg iwG_6 hown hE.1 hP 0 rfl rfl 14 (by decide) (htg _ wm_28) (fun _ h9 => h9) rfl dX6_init_138 ?_
  refine lv_iload_n hx hb dX6_init_141 rfl (lv_at hl 0 rfl) ?_
  refine lv_bipush (v := 6) hx hb dX6_init_142 (by decide +kernel) ?_
  refine lv_imul hx hb dX6_init_144 ?_
  refine g_top 12 (by decide +kernel) ?_
  refine lv_iload_n hx hb dX6_init_145 rfl (lv_at hl 0 rfl) ?_
  refine lv_iadd hx hb dX6_init_146 ?_
  refine g_top 14 (by decide +kernel) ?_
  refine lv_iconst (v := 0) hx hb dX6_init_147 (by decide +kernel) ?_
  refine va_iast hx hb hE.1 hP hD hS 14 0 rfl rfl (vp_in_iff.mpr ⟨by decide +kernel, by decide +kernel⟩) dX6_init_148 (fun H locs hP hD hS => ?_)
  obtain ⟨g21, eg21, fg21⟩ : ∃ gz : Nat → Int32, gz = upd g20 (14 : Int32).toNatClampNeg 0 ∧ gz (14 : Int32).toNatClampNeg = 0 := ⟨_, rfl, pk_us⟩
  have hP : va_P D vwCl [(aP, .inr (6, [.int 0, .ref q1, .ref q2, .ref q3, .ref q4, .ref q5, .ref q6, .ref q7, .ref q8, .ref q9, .ref q10, .ref q11, .ref q12, .ref q13, .ref q14])), (q1, .inl (cI, 16, .inl (fun _ => 0))), (q2, .inl (cI, 16, .inl (fun _ => 0))), (q3, .inl (cI, 16, .inl (fun _ => 0))), (q4, .inl (cI, 16, .inl (fun _ => 0))), (q5, .inl (cI, 16, .inl (fun _ => 0))), (q6, .inl (cI, 16, .inl (fun _ => 0))), (q7, .inl (cI, 16, .inl (fun _ => 0))), (q8, .inl (cI, 16, .inl (fun _ => 0))), (q9, .inl (cI, 16, .inl (fun _ => 0))), (q10, .inl (cI, 16, .inl (fun _ => 0))), (q11, .inl (cI, 16, .inl (fun _ => 0))), (q12, .inl (cI, 16, .inl (fun _ => 0))), (q13, .inl (cI, 16, .inl (fun _ => 0))), (q14, .inl (cI, 36, .inl g21))] H := by rw [eg21]; exact hP
  have hD : va_D A [(aP, .inr (6, [.int 0, .ref q1, .ref q2, .ref q3, .ref q4, .ref q5, .ref q6, .ref q7, .ref q8, .ref q9, .ref q10, .ref q11, .ref q12, .ref q13, .ref q14])), (q1, .inl (cI, 16, .inl (fun _ => 0))), (q2, .inl (cI, 16, .inl (fun _ => 0))), (q3, .inl (cI, 16, .inl (fun _ => 0))), (q4, .inl (cI, 16, .inl (fun _ => 0))), (q5, .inl (cI, 16, .inl (fun _ => 0))), (q6, .inl (cI, 16, .inl (fun _ => 0))), (q7, .inl (cI, 16, .inl (fun _ => 0))), (q8, .inl (cI, 16, .inl (fun _ => 0))), (q9, .inl (cI, 16, .inl (fun _ => 0))), (q10, .inl (cI, 16, .inl (fun _ => 0))), (q11, .inl (cI, 16, .inl (fun _ => 0))), (q12, .inl (cI, 16, .inl (fun _ => 0))), (q13, .inl (cI, 16, .inl (fun _ => 0))), (q14, .inl (cI, 36, .inl g21))] := by rw [eg21]; exact hD
  refine lv_iinc (v := 3) (lv' := [(1, .int 3), (0, .ref aP)]) hx hb dX6_init_149 hl (k := 0) rfl (by decide +kernel) (by decide) rfl (fun ls hl => ?_)
  refine lv_goto (tgt := 131) hx hb dX6_init_152 (by decide) ?_
  refine lv_iload_n hx hb dX6_init_131 rfl (lv_at hl 0 rfl) ?_
  refine lv_bipush (v := 6) hx hb dX6_init_132 (by decide +kernel) ?_
  refine lv_icmp_ge (tgt := 155) hx hb dX6_init_134 (by decide) (fun c9 => absurd c9 (by decide +kernel)) (fun _ => ?_)
  refine lv_aload_n hx hb dX6_init_137 rfl (lv_at hl 1 rfl) ?_
  refine va_get (D := D) (ci := 6) (v := .ref q14) (C := RX6) (T := TX6) (N := 15) hx hb htg iwG_6 hown hE.1 hP 0 rfl rfl 14 (by decide) (htg _ wm_28) (fun _ h9 => h9) rfl dX6_init_138 ?_
  refine lv_iload_n hx hb dX6_init_141 rfl (lv_at hl 0 rfl) ?_
  refine lv_bipush (v := 6) hx hb dX6_init_142 (by decide +kernel) ?_
  refine lv_imul hx hb dX6_init_144 ?_
  refine g_top 18 (by decide +kernel) ?_
  refine lv_iload_n hx hb dX6_init_145 rfl (lv_at hl 0 rfl) ?_
  refine lv_iadd hx hb dX6_init_146 ?_
  refine g_top 21 (by decide +kernel) ?_
  refine lv_iconst (v := 0) hx hb dX6_init_147 (by decide +kernel) ?_
  refine va_iast hx hb hE.1 hP hD hS 14 0 rfl rfl (vp_in_iff.mpr ⟨by decide +kernel, by decide +kernel⟩) dX6_init_148 (fun H locs hP hD hS => ?_)
  obtain ⟨g22, eg22, fg22⟩ : ∃ gz : Nat → Int32, gz = upd g21 (21 : Int32).toNatClampNeg 0 ∧ gz (21 : Int32).toNatClampNeg = 0 := ⟨_, rfl, pk_us⟩
  have hP : va_P D vwCl [(aP, .inr (6, [.int 0, .ref q1, .ref q2, .ref q3, .ref q4, .ref q5, .ref q6, .ref q7, .ref q8, .ref q9, .ref q10, .ref q11, .ref q12, .ref q13, .ref q14])), (q1, .inl (cI, 16, .inl (fun _ => 0))), (q2, .inl (cI, 16, .inl (fun _ => 0))), (q3, .inl (cI, 16, .inl (fun _ => 0))), (q4, .inl (cI, 16, .inl (fun _ => 0))), (q5, .inl (cI, 16, .inl (fun _ => 0))), (q6, .inl (cI, 16, .inl (fun _ => 0))), (q7, .inl (cI, 16, .inl (fun _ => 0))), (q8, .inl (cI, 16, .inl (fun _ => 0))), (q9, .inl (cI, 16, .inl (fun _ => 0))), (q10, .inl (cI, 16, .inl (fun _ => 0))), (q11, .inl (cI, 16, .inl (fun _ => 0))), (q12, .inl (cI, 16, .inl (fun _ => 0))), (q13, .inl (cI, 16, .inl (fun _ => 0))), (q14, .inl (cI, 36, .inl g22))] H := by rw [eg22]; exact hP
  have hD : va_D A [(aP, .inr (6, [.int 0, .ref q1, .ref q2, .ref q3, .ref q4, .ref q5, .ref q6, .ref q7, .ref q8, .ref q9, .ref q10, .ref q11, .ref q12, .ref q13, .ref q14])), (q1, .inl (cI, 16, .inl (fun _ => 0))), (q2, .inl (cI, 16, .inl (fun _ => 0))), (q3, .inl (cI, 16, .inl (fun _ => 0))), (q4, .inl (cI, 16, .inl (fun _ => 0))), (q5, .inl (cI, 16, .inl (fun _ => 0))), (q6, .inl (cI, 16, .inl (fun _ => 0))), (q7, .inl (cI, 16, .inl (fun _ => 0))), (q8, .inl (cI, 16, .inl (fun _ => 0))), (q9, .inl (cI, 16, .inl (fun _ => 0))), (q10, .inl (cI, 16, .inl (fun _ => 0))), (q11, .inl (cI, 16, .inl (fun _ => 0))), (q12, .inl (cI, 16, .inl (fun _ => 0))), (q13, .inl (cI, 16, .inl (fun _ => 0))), (q14, .inl (cI, 36, .inl g22))] := by rw [eg22]; exact hD
  refine lv_iinc (v := 4) (lv' := [(1, .int 4), (0, .ref aP)]) hx hb dX6_init_149 hl (k := 0) rfl (by decide +kernel) (by decide) rfl (fun ls hl => ?_)
  refine lv_goto (tgt := 131) hx hb dX6_init_152 (by decide) ?_
  refine lv_iload_n hx hb dX6_init_131 rfl (lv_at hl 0 rfl) ?_
  refine lv_bipush (v := 6) hx hb dX6_init_132 (by decide +kernel) ?_
  refine lv_icmp_ge (tgt := 155) hx hb dX6_init_134 (by decide) (fun c9 => absurd c9 (by decide +kernel)) (fun _ => ?_)
  refine lv_aload_n hx hb dX6_init_137 rfl (lv_at hl 1 rfl) ?_
  refine va_get (D := D) (ci := 6) (v := .ref q14) (C := RX6) (T := TX6) (N := 15) hx hb htg iwG_6 hown hE.1 hP 0 rfl rfl 14 (by decide) (htg _ wm_28) (fun _ h9 => h9) rfl dX6_init_138 ?_
  refine lv_iload_n hx hb dX6_init_141 rfl (lv_at hl 0 rfl) ?_
  refine lv_bipush (v := 6) hx hb dX6_init_142 (by decide +kernel) ?_
  refine lv_imul hx hb dX6_init_144 ?_
  refine g_top 24 (by decide +kernel) ?_
  refine lv_iload_n hx hb dX6_init_145 rfl (lv_at hl 0 rfl) ?_
  refine lv_iadd hx hb dX6_init_146 ?_
  refine g_top 28 (by decide +kernel) ?_
  refine lv_iconst (v := 0) hx hb dX6_init_147 (by decide +kernel) ?_
  refine va_iast hx hb hE.1 hP hD hS 14 0 rfl rfl (vp_in_iff.mpr ⟨by decide +kernel, by decide +kernel⟩) dX6_init_148 (fun H locs hP hD hS => ?_)
  obtain ⟨g23, eg23, fg23⟩ : ∃ gz : Nat → Int32, gz = upd g22 (28 : Int32).toNatClampNeg 0 ∧ gz (28 : Int32).toNatClampNeg = 0 := ⟨_, rfl, pk_us⟩
  have hP : va_P D vwCl [(aP, .inr (6, [.int 0, .ref q1, .ref q2, .ref q3, .ref q4, .ref q5, .ref q6, .ref q7, .ref q8, .ref q9, .ref q10, .ref q11, .ref q12, .ref q13, .ref q14])), (q1, .inl (cI, 16, .inl (fun _ => 0))), (q2, .inl (cI, 16, .inl (fun _ => 0))), (q3, .inl (cI, 16, .inl (fun _ => 0))), (q4, .inl (cI, 16, .inl (fun _ => 0))), (q5, .inl (cI, 16, .inl (fun _ => 0))), (q6, .inl (cI, 16, .inl (fun _ => 0))), (q7, .inl (cI, 16, .inl (fun _ => 0))), (q8, .inl (cI, 16, .inl (fun _ => 0))), (q9, .inl (cI, 16, .inl (fun _ => 0))), (q10, .inl (cI, 16, .inl (fun _ => 0))), (q11, .inl (cI, 16, .inl (fun _ => 0))), (q12, .inl (cI, 16, .inl (fun _ => 0))), (q13, .inl (cI, 16, .inl (fun _ => 0))), (q14, .inl (cI, 36, .inl g23))] H := by rw [eg23]; exact hP
  have hD : va_D A [(aP, .inr (6, [.int 0, .ref q1, .ref q2, .ref q3, .ref q4, .ref q5, .ref q6, .ref q7, .ref q8, .ref q9, .ref q10, .ref q11, .ref q12, .ref q13, .ref q14])), (q1, .inl (cI, 16, .inl (fun _ => 0))), (q2, .inl (cI, 16, .inl (fun _ => 0))), (q3, .inl (cI, 16, .inl (fun _ => 0))), (q4, .inl (cI, 16, .inl (fun _ => 0))), (q5, .inl (cI, 16, .inl (fun _ => 0))), (q6, .inl (cI, 16, .inl (fun _ => 0))), (q7, .inl (cI, 16, .inl (fun _ => 0))), (q8, .inl (cI, 16, .inl (fun _ => 0))), (q9, .inl (cI, 16, .inl (fun _ => 0))), (q10, .inl (cI, 16, .inl (fun _ => 0))), (q11, .inl (cI, 16, .inl (fun _ => 0))), (q12, .inl (cI, 16, .inl (fun _ => 0))), (q13, .inl (cI, 16, .inl (fun _ => 0))), (q14, .inl (cI, 36, .inl g23))] := by rw [eg23]; exact hD
  refine lv_iinc (v := 5) (lv' := [(1, .int 5), (0, .ref aP)]) hx hb dX6_init_149 hl (k := 0) rfl (by decide +kernel) (by decide) rfl (fun ls hl => ?_)
  refine lv_goto (tgt := 131) hx hb dX6_init_152 (by decide) ?_
  refine lv_iload_n hx hb dX6_init_131 rfl (lv_at hl 0 rfl) ?_
  refine lv_bipush (v := 6) hx hb dX6_init_132 (by decide +kernel) ?_
  refine lv_icmp_ge (tgt := 155) hx hb dX6_init_134 (by decide) (fun c9 => absurd c9 (by decide +kernel)) (fun _ => ?_)
  refine lv_aload_n hx hb dX6_init_137 rfl (lv_at hl 1 rfl) ?_
  refine va_get (D := D) (ci := 6) (v := .ref q14) (C := RX6) (T := TX6) (N := 15) hx hb htg iwG_6 hown hE.1 hP 0 rfl rfl 14 (by decide) (htg _ wm_28) (fun _ h9 => h9) rfl dX6_init_138 ?_
  refine lv_iload_n hx hb dX6_init_141 rfl (lv_at hl 0 rfl) ?_
  refine lv_bipush (v := 6) hx hb dX6_init_142 (by decide +kernel) ?_
  refine lv_imul hx hb dX6_init_144 ?_
  refine g_top 30 (by decide +kernel) ?_
  refine lv_iload_n hx hb dX6_init_145 rfl (lv_at hl 0 rfl) ?_
  refine lv_iadd hx hb dX6_init_146 ?_
  refine g_top 35 (by decide +kernel) ?_
  refine lv_iconst (v := 0) hx hb dX6_init_147 (by decide +kernel) ?_
  refine va_iast hx hb hE.1 hP hD hS 14 0 rfl rfl (vp_in_iff.mpr ⟨by decide +kernel, by decide +kernel⟩) dX6_init_148 (fun H locs hP hD hS => ?_)
  obtain ⟨g24, eg24, fg24⟩ : ∃ gz : Nat → Int32, gz = upd g23 (35 : Int32).toNatClampNeg 0 ∧ gz (35 : Int32).toNatClampNeg = 0 := ⟨_, rfl, pk_us⟩
  have hP : va_P D vwCl [(aP, .inr (6, [.int 0, .ref q1, .ref q2, .ref q3, .ref q4, .ref q5, .ref q6, .ref q7, .ref q8, .ref q9, .ref q10, .ref q11, .ref q12, .ref q13, .ref q14])), (q1, .inl (cI, 16, .inl (fun _ => 0))), (q2, .inl (cI, 16, .inl (fun _ => 0))), (q3, .inl (cI, 16, .inl (fun _ => 0))), (q4, .inl (cI, 16, .inl (fun _ => 0))), (q5, .inl (cI, 16, .inl (fun _ => 0))), (q6, .inl (cI, 16, .inl (fun _ => 0))), (q7, .inl (cI, 16, .inl (fun _ => 0))), (q8, .inl (cI, 16, .inl (fun _ => 0))), (q9, .inl (cI, 16, .inl (fun _ => 0))), (q10, .inl (cI, 16, .inl (fun _ => 0))), (q11, .inl (cI, 16, .inl (fun _ => 0))), (q12, .inl (cI, 16, .inl (fun _ => 0))), (q13, .inl (cI, 16, .inl (fun _ => 0))), (q14, .inl (cI, 36, .inl g24))] H := by rw [eg24]; exact hP
  have hD : va_D A [(aP, .inr (6, [.int 0, .ref q1, .ref q2, .ref q3, .ref q4, .ref q5, .ref q6, .ref q7, .ref q8, .ref q9, .ref q10, .ref q11, .ref q12, .ref q13, .ref q14])), (q1, .inl (cI, 16, .inl (fun _ => 0))), (q2, .inl (cI, 16, .inl (fun _ => 0))), (q3, .inl (cI, 16, .inl (fun _ => 0))), (q4, .inl (cI, 16, .inl (fun _ => 0))), (q5, .inl (cI, 16, .inl (fun _ => 0))), (q6, .inl (cI, 16, .inl (fun _ => 0))), (q7, .inl (cI, 16, .inl (fun _ => 0))), (q8, .inl (cI, 16, .inl (fun _ => 0))), (q9, .inl (cI, 16, .inl (fun _ => 0))), (q10, .inl (cI, 16, .inl (fun _ => 0))), (q11, .inl (cI, 16, .inl (fun _ => 0))), (q12, .inl (cI, 16, .inl (fun _ => 0))), (q13, .inl (cI, 16, .inl (fun _ => 0))), (q14, .inl (cI, 36, .inl g24))] := by rw [eg24]; exact hD
  refine lv_iinc (v := 6) (lv' := [(1, .int 6), (0, .ref aP)]) hx hb dX6_init_149 hl (k := 0) rfl (by decide +kernel) (by decide) rfl (fun ls hl => ?_)
  refine lv_goto (tgt := 131) hx hb dX6_init_152 (by decide) ?_
  refine lv_iload_n hx hb dX6_init_131 rfl (lv_at hl 0 rfl) ?_
  refine lv_bipush (v := 6) hx hb dX6_init_132 (by decide +kernel) ?_
  refine lv_icmp_ge (tgt := 155) hx hb dX6_init_134 (by decide) (fun _ => ?_) (fun c9 => absurd c9 (by decide +kernel))
  exact g_vret ((fun z => [0, q1, q2, q3, q4, q5, q6, q7, q8, q9, q10, q11, q12, q13, q14].getD z 0), g24) hF hr hlocks (hP.sub [0, 1, 2, 3, 4, 5, 6, 7, 8, 9, 10, 11, 12, 13, 14] rfl) (hD.sub [0, 1, 2, 3, 4, 5, 6, 7, 8, 9, 10, 11, 12, 13, 14] rfl rfl) hS trivial dX6_init_155 (Nat.le_of_ble_eq_true rfl) (Nat.le_of_ble_eq_true rfl)
