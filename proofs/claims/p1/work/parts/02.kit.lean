abbrev gNL : List (String × Nat × MethodName × String) := [(RX11, 9, yX10_init, "LastTongue"), (RX10, 17, yX9_init, "LastTongue"), (RX10, 31, yX2_init, "LastTongue"), (RX10, 45, yX5_init, "LastTongue"), (RX9, 54, yX11_within, "LastTongue"), (RX9, 73, yX11_changedBy, "LastTongue"), (RX9, 58, yX11_packedRule, "LastTongue"), (RX9, 62, yX11_isForm, "LastTongue"), (RX6, 80, yX11_within, "LastTongue"), (RX2, 56, yX11_within, "LastTongue"), (RX7, 47, yX11_within, "LastTongue"), (RX10, 142, yX11_within, "LastTongue"), (RX0, 67, yX11_within, "LastTongue"), (RX0, 136, yX11_lengthOf, "LastTongue"), (RX10, 222, yX11_lengthOf, "LastTongue"), (RX11, 268, yX3_init, "LastTongue"), (RX3, 129, yX11_lengthOf, "LastTongue"), (RX3, 121, yX11_changed, "LastTongue"), (RX3, 125, yX11_packedRule, "LastTongue"), (RX3, 152, yX11_changedBy, "LastTongue"), (RX11, 208, yX1_init, "LastTongue"), (RX11, 231, yX4_init, "LastTongue"), (RX4, 35, yX11_joined, "LastTongue"), (RX5, 56, yX11_within, "LastTongue")]
/-! My own frame for this claim: one list of words, one environment for all contracts, entries, ends and calls. -/
def GL : List Cond := lw_tbl.filter goodWord
theorem GL_sub : ∀ w ∈ GL, w ∈ lw_tbl := fun w h => (List.mem_filter.mp h).1
theorem GL_good {w : Cond} (h : w ∈ GL) : (w.onTables && w.keeps) = true ∨ ∃ ty, w = .arrayClass ty := good_of_word (List.mem_filter.mp h).2
theorem gmem {w : Cond} (i : Nat) (h : tables_1[i]? = some w) (hg : goodWord w = true) : w ∈ GL := List.mem_filter.mpr ⟨List.mem_append_right _ (List.mem_of_getElem? h), hg⟩
theorem gsel {y : MethodName} {n : Nat} (i : Nat) (h : lw_privs[i]? = some (y, n)) : Cond.selects y.cls y y ∈ GL := List.mem_filter.mpr ⟨List.mem_append_left _ (List.mem_map_of_mem (f := fun q : MethodName × Nat => Cond.selects q.1.cls q.1 q.1) (List.mem_of_getElem? h)), rfl⟩
theorem gmemL {ws : List Cond} (ps : List Nat) (hp : ws = ps.filterMap (fun i => tables_1[i]?)) (h : ws.all goodWord = true) : ∀ w ∈ ws, w ∈ GL := by
  intro w hw
  have h1 := List.all_eq_true.mp h w hw
  rw [hp] at hw
  obtain ⟨i, -, hi⟩ := List.mem_filterMap.mp hw
  exact gmem i hi h1
abbrev wG (y : MethodName) (cc : ByteArray) (n : Nat) (ret : Option FieldType) : List Cond := .code y cc n ret :: GL
theorem gGI {Ts : List Cond} {cd : Cond} (hT : ∀ w ∈ GL, w ∈ Ts) (h5 : cd ∈ GL) : GoodIn Ts (cd :: GL) := fun w h => by
  rcases List.mem_cons.mp h with rfl | h
  · exact ⟨hT _ h5, GL_good h5⟩
  · exact ⟨hT _ h, GL_good h⟩
theorem gGV {Ts : List Cond} {cd : Cond} {own C : String} {idx : Nat} {y : MethodName} (hT : ∀ w ∈ GL, w ∈ Ts) (h1 : Cond.methodLink own idx y ∈ GL) (h2 : Cond.instanceMethod y ∈ GL) (h3 : Cond.selects C y y ∈ GL) (h4 : Cond.initialized C ∈ GL) (h5 : cd ∈ GL) : GoodIn Ts (wsV own idx C y (cd :: GL)) := fun w h => by
  unfold wsV at h
  rcases List.mem_append.mp h with h | h
  · simp only [List.mem_cons, List.not_mem_nil, or_false] at h
    rcases h with rfl | rfl | rfl | rfl
    · exact ⟨hT _ h1, GL_good h1⟩
    · exact ⟨hT _ h2, GL_good h2⟩
    · exact ⟨hT _ h3, GL_good h3⟩
    · exact ⟨hT _ h4, GL_good h4⟩
  · exact gGI hT h5 w h
theorem gGS {Ts : List Cond} {cd : Cond} {own : String} {idx : Nat} {y : MethodName} (hT : ∀ w ∈ GL, w ∈ Ts) (h1 : Cond.methodLink own idx y ∈ GL) (h2 : Cond.static y ∈ GL) (h4 : Cond.initialized y.cls ∈ GL) (h5 : cd ∈ GL) : GoodIn Ts (va_wsS own idx y (cd :: GL)) := fun w h => by
  unfold va_wsS at h
  rcases List.mem_append.mp h with h | h
  · simp only [List.mem_cons, List.not_mem_nil, or_false] at h
    rcases h with rfl | rfl | rfl
    · exact ⟨hT _ h1, GL_good h1⟩
    · exact ⟨hT _ h2, GL_good h2⟩
    · exact ⟨hT _ h4, GL_good h4⟩
  · exact gGI hT h5 w h
abbrev gT (cI cB cS cZ cW : ClassId) : List (ClassId × FieldType) := [(cI, .int), (cB, .byte), (cS, .short), (cZ, .boolean), (cW, .object "LastTongue$World")]
def gE (D : va_G) (T : List (ClassId × FieldType)) (U : State) : Prop := va_K D vwCl T U ∧ (∀ q ∈ gNL, va_Nw (.methodLinkNest q.1 q.2.1 q.2.2.1 q.2.2.2) U) ∧ va_AO "LastTongue$World" U
theorem gE.calling {D : va_G} {T : List (ClassId × FieldType)} {U : State} {g : JFrame} {mk : MethodId} {a : Array Value} (h : gE D T U) : gE D T (U.calling g mk a) := ⟨va_K.moved (u := U) (U := U.calling g mk a) (Vm.Alike.refl U.vm) h.1, fun q hq => va_Nw.same (u := U) (U := U.calling g mk a) rfl rfl (h.2.1 q hq), va_AO.moved (u := U) (U := U.calling g mk a) (Vm.Alike.refl U.vm) h.2.2⟩
theorem gE.warm {D : va_G} {T : List (ClassId × FieldType)} {s U : State} (hW : s.WarmedH U.vm) (h : gE D T s) : gE D T U := ⟨va_K.moved hW.alike h.1, fun q hq => va_Nw.warmM hW (h.2.1 q hq), va_AO.moved hW.alike h.2.2⟩
def gP (D : va_G) (T : List (ClassId × FieldType)) (ws : va_W) (sz : Nat) (U : State) : Prop := U.heap.size = sz ∧ va_P D vwCl ws U.heap ∧ gE D T U ∧ va_D (fun _ => True) ws
def gB (D : va_G) (A : Nat → Prop) (ws : va_W) (t : State) : Prop := va_P D vwCl ws t.heap ∧ va_D A ws
abbrev gQi (D : va_G) {S : Type} (post : Int32 → S → Prop) (w1 : S → va_W) (A : Nat → Prop) : Array Value → State → Outcome → State → Prop := va_Qi post (fun u => gB D A (w1 u)) A
abbrev gQv (D : va_G) {S : Type} (post : S → Prop) (w1 : S → va_W) (A : Nat → Prop) : Array Value → State → Outcome → State → Prop := va_Qv post (fun u => gB D A (w1 u)) A
abbrev MI (l : Launch) (D : va_G) (T : List (ClassId × FieldType)) (y : MethodName) (w : List Cond) (rm : Room) (As : List Value) (ws : va_W) (sz : Nat) {S : Type} (post : Int32 → S → Prop) (w1 : S → va_W) (mc ms : Nat) : Prop := Met l y w rm (va_Pc As (gP D T ws sz)) (gQi D post w1 (va_A ws sz)) mc ms (va_A ws sz)
abbrev MV (l : Launch) (D : va_G) (T : List (ClassId × FieldType)) (y : MethodName) (w : List Cond) (rm : Room) (As : List Value) (ws : va_W) (sz : Nat) {S : Type} (post : S → Prop) (w1 : S → va_W) (mc ms : Nat) : Prop := Met l y w rm (va_Pc As (gP D T ws sz)) (gQv D post w1 (va_A ws sz)) mc ms (va_A ws sz)
theorem g_blind {D : va_G} {T : List (ClassId × FieldType)} {As : List Value} {ws : va_W} {sz : Nat} : FrameBlind (va_Pc As (gP D T ws sz)) := fun _ _ _ _ h => ⟨h.1, h.2.1, h.2.2.1, gE.calling h.2.2.2.1, h.2.2.2.2⟩
theorem g_enter {l : Launch} {y : MethodName} {w w' : List Cond} {rm : Room} {cc : ByteArray} {maxL : Nat} {ret : Option FieldType} {D : va_G} {T : List (ClassId × FieldType)} {As : List Value} {ws : va_W} {sz mc ms : Nat} (Qc : (Nat → Prop) → Array Value → State → Outcome → State → Prop)
    (hy : plainName y.cls = true) (hw : w = Cond.code y cc maxL ret :: w') (hlen : (lg_sl As).length ≤ maxL)
    (body : ∀ (p : Program) (e : Env) (s : State) (m : MethodId) (below : List Frame) (meth : Method) (c : Code) (A : Nat → Prop) (ls : Array Slot), CallFix p m c cc maxL s As.toArray w y.cls → meth.sig.returnType = ret → meth.locks = false → meth.name = y.name → s.heap.size = sz → gE D T s → (∀ q, s.heap.size ≤ q → A q) → va_P D vwCl ws s.heap → va_D A ws → va_S A s.heap s.heap [] → lv_has ls maxL (lv_args 0 As) → W p l e rm s m As.toArray below meth c s.heap [] 0 0 (MQ below (Qc A) As.toArray s mc ms A) (F0 m 0 ls [])) :
    Met l y w rm (va_Pc As (gP D T ws sz)) (Qc (va_A ws sz)) mc ms (va_A ws sz) := by
  refine Met.ofW (cc := cc) (maxL := maxL) (ret := ret) hy hw ?_
  intro p e s m args below meth c s₁ B hml hv
  obtain ⟨rfl, hsz, hP, hE, hD0⟩ := hv
  rw [lg_entry_eq]
  exact body p e s m below meth c (va_A ws sz) _ ⟨B.exec, B.bytes, hml, findClass_of_methodNamed B.named, atoms_spec (ws := w) B.pre⟩ B.returns B.notSynchronized (name_of_methodNamed B.named B.method).1 hsz hE (fun q h => Or.inr (hsz ▸ h)) hP hD0.self va_S.rf (lv_entry As hlen)
section GW
variable {p : Program} {l : Launch} {e : Env} {R : Room} {s : State} {m : MethodId} {args : Array Value} {below : List Frame} {meth : Method} {c : Code} {H : Heap} {locs : List Loc} {cells slots : Nat} {Q : State → Prop} {cc : ByteArray} {pc nL : Nat} {ls : Array Slot} {rest st0 : List Value} {A A0 : Nat → Prop} {D : va_G} {T : List (ClassId × FieldType)} {ws wc wr : va_W} {Ts : List Cond} {own : String} {mc ms : Nat} {H0 : Heap}
theorem g_preS {As : List Value} (hE : gE D T s) (hP : va_P D vwCl wc H) (hD : va_D A wc) : PreS s H (va_Pc As (gP D T wc H.size)) As :=
  ⟨g_blind, fun U hU hW => ⟨rfl, by rw [hU], by rw [hU]; exact hP, gE.warm hW hE, hD.weaken (fun _ _ _ _ => trivial)⟩⟩
theorem g_preV {As : List Value} {b ci q0 : Nat} {q : vw_C} {fs : List Value} (hE : gE D T s) (hP : va_P D vwCl wc H) (hD : va_D A wc) (hc : vwCl[ci]? = some q) (he : wc[q0]? = some (b, .inr (ci, fs))) : PreV s H q.1 b (va_Pc (.ref b :: As) (gP D T wc H.size)) As :=
  ⟨g_blind, va_recv hE.1 hP hc he, fun U hU hW => ⟨rfl, by rw [hU], by rw [hU]; exact hP, gE.warm hW hE, hD.weaken (fun _ _ _ _ => trivial)⟩⟩
theorem g_fm {ws wc : va_W} : ∀ {isC : List Nat}, isC.map (fun i => ws[i]?) = wc.map some → isC.filterMap (fun i => ws[i]?) = wc := by
  intro isC h
  have h2 : isC.filterMap (fun i => ws[i]?) = (isC.map (fun i => ws[i]?)).filterMap id := by rw [List.filterMap_map]; rfl
  rw [h2, h, List.filterMap_map]
  have h3 : ∀ (l : va_W), l.filterMap (id ∘ some) = l := fun l => by induction l with
    | nil => rfl
    | cons a t ih => rw [List.filterMap_cons]; simp [ih]
  exact h3 wc
theorem g_ai {S : Type} {post : Int32 → S → Prop} {w1 : S → va_W} {a : Array Value} (hP : va_P D vwCl ws H) (hD : va_D A ws) (hS : va_S A H0 H locs) (hA : ∀ q, H0.size ≤ q → A q) (isC isR : List Nat) (hC : isC.map (fun i => ws[i]?) = wc.map some) (hR : isR.map (fun i => ws[i]?) = wr.map some) (hnC : va_nd isC = true) (hn : va_nd isR = true) (hdis : ∀ i ∈ isR, i ∉ isC)
    (hr : va_P D vwCl wc H → va_D A wc → va_Run p l e R s m args below meth c H locs cells slots mc ms (F0 m pc ls st0) rest (gQi D post w1 (va_A wc H.size) a) (va_A wc H.size))
    (kk : ∀ (r : Int32) (u : S) (H1 : Heap) (locs1 : List Loc), post r u → va_P D vwCl (wr ++ w1 u) H1 → va_D A (wr ++ w1 u) → va_S A H0 H1 locs1 → W p l e R s m args below meth c H1 locs1 (cells + mc) (slots + ms) Q (F0 m (pc + 3) ls (.int r :: rest))) : W p l e R s m args below meth c H locs cells slots Q (F0 m pc ls st0) := by
  have hPc := hP.sub isC (g_fm hC)
  have hDc := hD.sub isC hnC hC
  have hFc := va_free hD hS hA isC hC
  refine va_calli (hr hPc hDc) hS (fun q _ h => hFc q h) hFc (fun r u t H1 locs1 ht hvm hw hB hz1 hk1 hS => ?_)
  obtain ⟨hP1, hD1⟩ := hB
  rw [ht] at hP1
  obtain ⟨hP, hD⟩ := va_join hP hD isC isR hC hR hn hdis hk1 hFc hP1 hD1
  exact kk r u H1 locs1 hw hP hD hS
theorem g_av {S : Type} {post : S → Prop} {w1 : S → va_W} {a : Array Value} (hP : va_P D vwCl ws H) (hD : va_D A ws) (hS : va_S A H0 H locs) (hA : ∀ q, H0.size ≤ q → A q) (isC isR : List Nat) (hC : isC.map (fun i => ws[i]?) = wc.map some) (hR : isR.map (fun i => ws[i]?) = wr.map some) (hnC : va_nd isC = true) (hn : va_nd isR = true) (hdis : ∀ i ∈ isR, i ∉ isC)
    (hr : va_P D vwCl wc H → va_D A wc → va_Run p l e R s m args below meth c H locs cells slots mc ms (F0 m pc ls st0) rest (gQv D post w1 (va_A wc H.size) a) (va_A wc H.size))
    (kk : ∀ (u : S) (H1 : Heap) (locs1 : List Loc), post u → va_P D vwCl (wr ++ w1 u) H1 → va_D A (wr ++ w1 u) → va_S A H0 H1 locs1 → W p l e R s m args below meth c H1 locs1 (cells + mc) (slots + ms) Q (F0 m (pc + 3) ls rest)) : W p l e R s m args below meth c H locs cells slots Q (F0 m pc ls st0) := by
  have hPc := hP.sub isC (g_fm hC)
  have hDc := hD.sub isC hnC hC
  have hFc := va_free hD hS hA isC hC
  refine va_callv (hr hPc hDc) hS (fun q _ h => hFc q h) hFc (fun u t H1 locs1 ht hvm hw hB hz1 hk1 hS => ?_)
  obtain ⟨hP1, hD1⟩ := hB
  rw [ht] at hP1
  obtain ⟨hP, hD⟩ := va_join hP hD isC isR hC hR hn hdis hk1 hFc hP1 hD1
  exact kk u H1 locs1 hw hP hD hS
theorem g_iret {S : Type} {post : Int32 → S → Prop} {w1 : S → va_W} {v : Int32} {ty : FieldType} (u : S) (hF : CallFix p m c cc nL s args Ts own) (hr : meth.sig.returnType = some ty) (hn : narrow ty (.int v) = .int v) (hlocks : meth.locks = false) (hP : va_P D vwCl (w1 u) H) (hD : va_D A (w1 u)) (hS : va_S A s.heap H locs) (hp : post v u) (hdg : decode cc pc = .ok (.ireturn, 1)) (hc : cells ≤ mc) (hs : slots ≤ ms) : W p l e R s m args below meth c H locs cells slots (MQ below (gQi D post w1 A) args s mc ms A) (F0 m pc ls [.int v]) :=
  W.widen hc hs (W.zret hF.1 hF.2.1 hr hn (fun t ht _ => ⟨⟨v, u, rfl, hp, by rw [ht]; exact hP, hD⟩, hS.F ht⟩) hS.2.2 hdg hlocks)
theorem g_vret {S : Type} {post : S → Prop} {w1 : S → va_W} (u : S) (hF : CallFix p m c cc nL s args Ts own) (hr : meth.sig.returnType = none) (hlocks : meth.locks = false) (hP : va_P D vwCl (w1 u) H) (hD : va_D A (w1 u)) (hS : va_S A s.heap H locs) (hp : post u) (hdg : decode cc pc = .ok (.return_, 1)) (hc : cells ≤ mc) (hs : slots ≤ ms) : W p l e R s m args below meth c H locs cells slots (MQ below (gQv D post w1 A) args s mc ms A) (F0 m pc ls []) :=
  W.widen hc hs (W.vret hF.1 hF.2.1 hr (fun t ht _ => ⟨⟨u, rfl, hp, by rw [ht]; exact hP, hD⟩, hS.F ht⟩) hS.2.2 hdg hlocks)
theorem g_top {x : Int32} (y : Int32) (h : x = y) (k : W p l e R s m args below meth c H locs cells slots Q (F0 m pc ls (.int y :: rest))) : W p l e R s m args below meth c H locs cells slots Q (F0 m pc ls (.int x :: rest)) := h ▸ k
theorem g_newa {t0 : Nat} {cA : ClassId} (hx : p.tables.exec = Jvm.exec) (hb : c.code = cc) {atype : ArrayType} {ty : FieldType} (ht : T[t0]? = some (cA, ty)) (hobj : ∀ C, ty ≠ .object C) (harr : (Cond.arrayClass (newarray.typeOf atype)).before args s = true) (hty : newarray.typeOf atype = ty) (hE : gE D T s) (hP : va_P D vwCl ws H) (hD : va_D A ws) (hS : va_S A H0 H locs) (hA : ∀ q, H0.size ≤ q → A q)
    {n : Int32} {N' : Nat} {a0 : vp_A} (ha : ∀ cA : ClassId, vp_cell cA a0 = arrV cA N' (fun _ => defaultValue ty)) (hn : ¬ n < 0) (hN : n.toNatClampNeg = N') (hbytes : N' * componentBytes ty ≤ 536870912) (hcells : cells + 1 ≤ R.cells) (hslots : slots + N' ≤ R.slots) (hdg : decode cc pc = .ok (.newarray atype, 2))
    (kk : ∀ (q : Nat) (H1 : Heap), va_P D vwCl (ws ++ [(q, .inl (cA, a0))]) H1 → va_D A (ws ++ [(q, .inl (cA, a0))]) → va_S A H0 H1 locs →
      W p l e R s m args below meth c H1 locs (cells + 1) (slots + N') Q (F0 m (pc + 2) ls (.ref q :: rest))) : W p l e R s m args below meth c H locs cells slots Q (F0 m pc ls (.int n :: rest)) := by
  refine va_newa hx hb harr hty hE.1 hP hD hS hA ha hn hN hbytes hcells hslots hdg (fun q cB H1 hK2 hP hD hS => ?_)
  have h1 := (hE.1.2 t0 _ ht).2
  have h2 := (hK2.2 T.length (cB, ty) (by simp)).2
  have e : cB = cA := by
    cases ty with
    | object C => exact absurd rfl (hobj C)
    | _ => exact Option.some.inj (h2.symm.trans h1)
  subst e
  exact kk q H1 hP hD hS
theorem g_newW {t0 : Nat} {cA : ClassId} {C : String} (hx : p.tables.exec = Jvm.exec) (hb : c.code = cc) {own : String} {index : Nat} (hown : s.vm.findClass own = some m.cls) (hclink : (Cond.classLink own index C).before args s = true) (ht : T[t0]? = some (cA, .object C)) (hover : va_AO C s) (hE : gE D T s) (hP : va_P D vwCl ws H) (hD : va_D A ws) (hS : va_S A H0 H locs) (hA : ∀ q, H0.size ≤ q → A q)
    {n : Int32} {N' : Nat} (hn : ¬ n < 0) (hN : n.toNatClampNeg = N') (hbytes : N' * 4 ≤ 536870912) (hcells : cells + 1 ≤ R.cells) (hslots : slots + N' ≤ R.slots) (hdg : decode cc pc = .ok (.anewarray index, 3))
    (kk : ∀ (q : Nat) (H1 : Heap), va_P D vwCl (ws ++ [(q, .inl (cA, N', .inr (.inr (.inr (.inr (fun _ => none))))))]) H1 → va_D A (ws ++ [(q, .inl (cA, N', .inr (.inr (.inr (.inr (fun _ => none))))))]) → va_S A H0 H1 locs →
      W p l e R s m args below meth c H1 locs (cells + 1) (slots + N') Q (F0 m (pc + 3) ls (.ref q :: rest))) : W p l e R s m args below meth c H locs cells slots Q (F0 m pc ls (.int n :: rest)) := by
  refine va_newq hx hb hown hclink hover hE.1 hP hD hS hA hn hN hbytes hcells hslots hdg (fun q cB H1 hK2 hP hD hS => ?_)
  obtain ⟨_, _, -, -, -, h1⟩ := (hE.1.2 t0 _ ht).2
  obtain ⟨_, _, -, -, -, h2⟩ := (hK2.2 T.length (cB, .object C) (by simp)).2
  have e : cB = cA := Option.some.inj (h2.symm.trans h1)
  subst e
  exact kk q H1 hP hD hS
end GW
theorem i_le {x y : Int32} : x ≤ y ↔ x.toInt ≤ y.toInt := Int32.le_iff_toInt_le
theorem i_lt {x y : Int32} : x < y ↔ x.toInt < y.toInt := Int32.lt_iff_toInt_lt
theorem i_eq {x y : Int32} : x = y ↔ x.toInt = y.toInt := Int32.toInt_inj.symm
theorem tm_100 : ((-100) : Int32).toInt = -100 := by decide +kernel
theorem tm_8 : ((-8) : Int32).toInt = -8 := by decide +kernel
theorem tm_2 : ((-2) : Int32).toInt = -2 := by decide +kernel
theorem tm_1 : ((-1) : Int32).toInt = -1 := by decide +kernel
theorem t_0 : (0 : Int32).toInt = 0 := by decide +kernel
theorem t_1 : (1 : Int32).toInt = 1 := by decide +kernel
theorem t_2 : (2 : Int32).toInt = 2 := by decide +kernel
theorem t_3 : (3 : Int32).toInt = 3 := by decide +kernel
theorem t_4 : (4 : Int32).toInt = 4 := by decide +kernel
theorem t_5 : (5 : Int32).toInt = 5 := by decide +kernel
theorem t_6 : (6 : Int32).toInt = 6 := by decide +kernel
theorem t_7 : (7 : Int32).toInt = 7 := by decide +kernel
theorem t_8 : (8 : Int32).toInt = 8 := by decide +kernel
theorem t_9 : (9 : Int32).toInt = 9 := by decide +kernel
theorem t_10 : (10 : Int32).toInt = 10 := by decide +kernel
theorem t_11 : (11 : Int32).toInt = 11 := by decide +kernel
theorem t_12 : (12 : Int32).toInt = 12 := by decide +kernel
theorem t_13 : (13 : Int32).toInt = 13 := by decide +kernel
theorem t_14 : (14 : Int32).toInt = 14 := by decide +kernel
theorem t_15 : (15 : Int32).toInt = 15 := by decide +kernel
theorem t_16 : (16 : Int32).toInt = 16 := by decide +kernel
theorem t_17 : (17 : Int32).toInt = 17 := by decide +kernel
theorem t_18 : (18 : Int32).toInt = 18 := by decide +kernel
theorem t_19 : (19 : Int32).toInt = 19 := by decide +kernel
theorem t_20 : (20 : Int32).toInt = 20 := by decide +kernel
theorem t_21 : (21 : Int32).toInt = 21 := by decide +kernel
theorem t_23 : (23 : Int32).toInt = 23 := by decide +kernel
theorem t_24 : (24 : Int32).toInt = 24 := by decide +kernel
theorem t_28 : (28 : Int32).toInt = 28 := by decide +kernel
theorem t_30 : (30 : Int32).toInt = 30 := by decide +kernel
theorem t_32 : (32 : Int32).toInt = 32 := by decide +kernel
theorem t_35 : (35 : Int32).toInt = 35 := by decide +kernel
theorem t_36 : (36 : Int32).toInt = 36 := by decide +kernel
theorem t_40 : (40 : Int32).toInt = 40 := by decide +kernel
theorem t_48 : (48 : Int32).toInt = 48 := by decide +kernel
theorem t_50 : (50 : Int32).toInt = 50 := by decide +kernel
theorem t_64 : (64 : Int32).toInt = 64 := by decide +kernel
theorem t_80 : (80 : Int32).toInt = 80 := by decide +kernel
theorem t_96 : (96 : Int32).toInt = 96 := by decide +kernel
theorem t_97 : (97 : Int32).toInt = 97 := by decide +kernel
theorem t_100 : (100 : Int32).toInt = 100 := by decide +kernel
theorem t_120 : (120 : Int32).toInt = 120 := by decide +kernel
theorem t_128 : (128 : Int32).toInt = 128 := by decide +kernel
theorem t_144 : (144 : Int32).toInt = 144 := by decide +kernel
theorem t_160 : (160 : Int32).toInt = 160 := by decide +kernel
theorem t_255 : (255 : Int32).toInt = 255 := by decide +kernel
theorem t_320 : (320 : Int32).toInt = 320 := by decide +kernel
theorem t_400 : (400 : Int32).toInt = 400 := by decide +kernel
theorem t_480 : (480 : Int32).toInt = 480 := by decide +kernel
theorem t_500 : (500 : Int32).toInt = 500 := by decide +kernel
theorem t_501 : (501 : Int32).toInt = 501 := by decide +kernel
theorem t_576 : (576 : Int32).toInt = 576 := by decide +kernel
theorem t_999 : (999 : Int32).toInt = 999 := by decide +kernel
theorem t_1200 : (1200 : Int32).toInt = 1200 := by decide +kernel
theorem t_1280 : (1280 : Int32).toInt = 1280 := by decide +kernel
theorem t_1480 : (1480 : Int32).toInt = 1480 := by decide +kernel
theorem t_1920 : (1920 : Int32).toInt = 1920 := by decide +kernel
theorem t_2000 : (2000 : Int32).toInt = 2000 := by decide +kernel
theorem t_3072 : (3072 : Int32).toInt = 3072 := by decide +kernel
theorem t_7680 : (7680 : Int32).toInt = 7680 := by decide +kernel
theorem t_10000 : (10000 : Int32).toInt = 10000 := by decide +kernel
abbrev oM (q : Nat → Nat) (i0 : Int32) (i62 : Int32) (i63 : Int32) (i64 : Int32) (i65 : Int32) (i66 : Int32) (i67 : Int64) (i68 : Int32) (i69 : Int32) (i70 : Int32) (i78 : Int32) (i81 : Int32) (i82 : Int32) (i83 : Int32) (i86 : Int32) (i90 : Int32) (i91 : Int32) (i92 : Int32) : va_E := .inr (12, [.int i0, .ref (q 1), .ref (q 2), .ref (q 3), .ref (q 4), .ref (q 5), .ref (q 6), .ref (q 7), .ref (q 8), .ref (q 9), .ref (q 10), .ref (q 11), .ref (q 12), .ref (q 13), .ref (q 14), .ref (q 15), .ref (q 16), .ref (q 17), .ref (q 18), .ref (q 19), .ref (q 20), .ref (q 21), .ref (q 22), .ref (q 23), .ref (q 24), .ref (q 25), .ref (q 26), .ref (q 27), .ref (q 28), .ref (q 29), .ref (q 30), .ref (q 31), .ref (q 32), .ref (q 33), .ref (q 34), .ref (q 35), .ref (q 36), .ref (q 37), .ref (q 38), .ref (q 39), .ref (q 40), .ref (q 41), .ref (q 42), .ref (q 43), .ref (q 44), .ref (q 45), .ref (q 46), .ref (q 47), .ref (q 48), .ref (q 49), .ref (q 50), .ref (q 51), .ref (q 52), .ref (q 53), .ref (q 54), .ref (q 55), .ref (q 56), .ref (q 57), .ref (q 58), .ref (q 59), .ref (q 60), .ref (q 61), .int i62, .int i63, .int i64, .int i65, .int i66, .long i67, .int i68, .int i69, .int i70, .ref (q 71), .ref (q 72), .ref (q 73), .ref (q 74), .ref (q 75), .ref (q 76), .ref (q 77), .int i78, .ref (q 79), .ref (q 80), .int i81, .int i82, .int i83, .ref (q 84), .ref (q 85), .int i86, .ref (q 87), .ref (q 88), .ref (q 89), .int i90, .int i91, .int i92, .ref (q 93), .ref (q 94), .ref (q 95), .ref (q 96)])
def kFP : Nat → Int32 := upd (fun _ => 0) 0 (-1)
def S_tongue (x : Int32) : Int32 := if x.toInt = -1 then 0 else -1
def S_field (x y : Int32) : Int32 := if 0 ≤ x.toInt ∧ x.toInt ≤ 23 ∧ 0 ≤ y.toInt ∧ y.toInt ≤ 3 then 1 else 0
def S_road (x y z : Int32) : Int32 := if 0 ≤ x.toInt ∧ x.toInt ≤ 5 ∧ 0 ≤ y.toInt ∧ y.toInt ≤ 5 ∧ ¬ x.toInt = y.toInt ∧ 0 ≤ z.toInt ∧ z.toInt ≤ 9 then 1 else 0
def S_end (x : Int32) : Int32 := if 0 ≤ x.toInt ∧ x.toInt ≤ 0 then x else -1
def S_custom (x : Int32) : Int32 := if 0 ≤ x.toInt ∧ x.toInt ≤ 999 then 0 else -2
def S_fault (x : Int32) : Int32 := if x.toInt = 0 then 0 else -1
def S_letter (x y z : Int32) : Int32 := if 0 ≤ x.toInt ∧ x.toInt ≤ 3 ∧ 1 ≤ y.toInt ∧ y.toInt ≤ 8 ∧ 1 ≤ z.toInt ∧ z.toInt ≤ 15 then 1 else 0
def S_tape (x : Int32) : Int32 := if 1 ≤ x.toInt ∧ x.toInt ≤ 400 then 0 else -1
def S_copies (x : Int32) : Int32 := if 0 ≤ x.toInt ∧ x.toInt ≤ 2 then 0 else -1
def S_schools (x y : Int32) : Int32 := if 0 ≤ x.toInt ∧ x.toInt ≤ 10000 ∧ 0 ≤ y.toInt ∧ y.toInt ≤ 2 then 0 else -1
def S_count (x : Int32) : Int32 := if x.toInt = 9 then -1 else if 0 ≤ x.toInt ∧ x.toInt ≤ 10 then 0 else -100
def S_image (x : Int32) : Int32 := if 0 ≤ x.toInt ∧ x.toInt ≤ 2 then 1 else 0
