def ne_W : List Cond := [.methodLinkNest RX0 43 yX2_writeBack "StoreBufferCores", .methodLinkNest RX0 37 yX2_write "StoreBufferCores", .methodLinkNest RX1 52 yX0_isFull "StoreBufferCores", .fieldLinkNest RX1 56 "StoreBufferCores$Buffer" "count" "I" "StoreBufferCores", .fieldLinkNest RX1 59 "StoreBufferCores$SharedMemory" "words" "[I" "StoreBufferCores", .methodLinkNest RX1 76 yX2_write "StoreBufferCores", .methodLinkNest RX1 64 yX0_newestValue "StoreBufferCores", .methodLinkNest RX1 68 yX0_append "StoreBufferCores", .fieldLinkNest RX3 51 "StoreBufferCores$Core" "buffer" "LStoreBufferCores$Buffer;" "StoreBufferCores", .fieldLinkNest RX3 64 "StoreBufferCores$Buffer" "count" "I" "StoreBufferCores", .methodLinkNest RX3 35 yX1_setInstruction "StoreBufferCores", .fieldLinkNest RX3 39 "StoreBufferCores$Core" "recoveryEntry" "I" "StoreBufferCores", .methodLinkNest RX3 43 yX1_doInstruction "StoreBufferCores", .methodLinkNest RX3 55 yX0_mayLeave "StoreBufferCores", .methodLinkNest RX3 60 yX0_letOut "StoreBufferCores", .methodLinkNest RX3 70 yX2_writeBack "StoreBufferCores", .fieldLinkNest RX3 79 "StoreBufferCores$Core" "registers" "[I" "StoreBufferCores", .fieldLinkNest RX3 83 "StoreBufferCores$Core" "pc" "I" "StoreBufferCores", .fieldLinkNest RX3 86 "StoreBufferCores$Buffer" "kinds" "[I" "StoreBufferCores", .fieldLinkNest RX3 89 "StoreBufferCores$Buffer" "targets" "[I" "StoreBufferCores", .fieldLinkNest RX3 92 "StoreBufferCores$Buffer" "values" "[I" "StoreBufferCores", .fieldLinkNest RX3 98 "StoreBufferCores$SharedMemory" "words" "[I" "StoreBufferCores", .methodLinkNest RX3 101 yX0_newestValue "StoreBufferCores", .fieldLinkNest RX3 105 "StoreBufferCores$SharedMemory" "stored" "[I" "StoreBufferCores", .fieldLinkNest RX3 108 "StoreBufferCores$SharedMemory" "unwritten" "[Z" "StoreBufferCores", .methodLinkNest RX3 73 yX2_fallBackToStorage "StoreBufferCores", .methodLinkNest RX3 76 yX1_beginAgain "StoreBufferCores", .methodLinkNest RX1 29 yX0_init "StoreBufferCores", .methodLinkNest RX3 11 yX2_init "StoreBufferCores", .methodLinkNest RX3 22 yX1_init "StoreBufferCores"]
theorem ne_0 : Cond.methodLinkNest RX0 43 yX2_writeBack "StoreBufferCores" ∈ ne_W := List.mem_of_getElem? (i := 0) rfl
theorem ne_1 : Cond.methodLinkNest RX0 37 yX2_write "StoreBufferCores" ∈ ne_W := List.mem_of_getElem? (i := 1) rfl
theorem ne_2 : Cond.methodLinkNest RX1 52 yX0_isFull "StoreBufferCores" ∈ ne_W := List.mem_of_getElem? (i := 2) rfl
theorem ne_3 : Cond.fieldLinkNest RX1 56 "StoreBufferCores$Buffer" "count" "I" "StoreBufferCores" ∈ ne_W := List.mem_of_getElem? (i := 3) rfl
theorem ne_4 : Cond.fieldLinkNest RX1 59 "StoreBufferCores$SharedMemory" "words" "[I" "StoreBufferCores" ∈ ne_W := List.mem_of_getElem? (i := 4) rfl
theorem ne_5 : Cond.methodLinkNest RX1 76 yX2_write "StoreBufferCores" ∈ ne_W := List.mem_of_getElem? (i := 5) rfl
theorem ne_6 : Cond.methodLinkNest RX1 64 yX0_newestValue "StoreBufferCores" ∈ ne_W := List.mem_of_getElem? (i := 6) rfl
theorem ne_7 : Cond.methodLinkNest RX1 68 yX0_append "StoreBufferCores" ∈ ne_W := List.mem_of_getElem? (i := 7) rfl
theorem ne_8 : Cond.fieldLinkNest RX3 51 "StoreBufferCores$Core" "buffer" "LStoreBufferCores$Buffer;" "StoreBufferCores" ∈ ne_W := List.mem_of_getElem? (i := 8) rfl
theorem ne_9 : Cond.fieldLinkNest RX3 64 "StoreBufferCores$Buffer" "count" "I" "StoreBufferCores" ∈ ne_W := List.mem_of_getElem? (i := 9) rfl
theorem ne_10 : Cond.methodLinkNest RX3 35 yX1_setInstruction "StoreBufferCores" ∈ ne_W := List.mem_of_getElem? (i := 10) rfl
theorem ne_11 : Cond.fieldLinkNest RX3 39 "StoreBufferCores$Core" "recoveryEntry" "I" "StoreBufferCores" ∈ ne_W := List.mem_of_getElem? (i := 11) rfl
theorem ne_12 : Cond.methodLinkNest RX3 43 yX1_doInstruction "StoreBufferCores" ∈ ne_W := List.mem_of_getElem? (i := 12) rfl
theorem ne_13 : Cond.methodLinkNest RX3 55 yX0_mayLeave "StoreBufferCores" ∈ ne_W := List.mem_of_getElem? (i := 13) rfl
theorem ne_14 : Cond.methodLinkNest RX3 60 yX0_letOut "StoreBufferCores" ∈ ne_W := List.mem_of_getElem? (i := 14) rfl
theorem ne_15 : Cond.methodLinkNest RX3 70 yX2_writeBack "StoreBufferCores" ∈ ne_W := List.mem_of_getElem? (i := 15) rfl
theorem ne_16 : Cond.fieldLinkNest RX3 79 "StoreBufferCores$Core" "registers" "[I" "StoreBufferCores" ∈ ne_W := List.mem_of_getElem? (i := 16) rfl
theorem ne_17 : Cond.fieldLinkNest RX3 83 "StoreBufferCores$Core" "pc" "I" "StoreBufferCores" ∈ ne_W := List.mem_of_getElem? (i := 17) rfl
theorem ne_18 : Cond.fieldLinkNest RX3 86 "StoreBufferCores$Buffer" "kinds" "[I" "StoreBufferCores" ∈ ne_W := List.mem_of_getElem? (i := 18) rfl
theorem ne_19 : Cond.fieldLinkNest RX3 89 "StoreBufferCores$Buffer" "targets" "[I" "StoreBufferCores" ∈ ne_W := List.mem_of_getElem? (i := 19) rfl
theorem ne_20 : Cond.fieldLinkNest RX3 92 "StoreBufferCores$Buffer" "values" "[I" "StoreBufferCores" ∈ ne_W := List.mem_of_getElem? (i := 20) rfl
theorem ne_21 : Cond.fieldLinkNest RX3 98 "StoreBufferCores$SharedMemory" "words" "[I" "StoreBufferCores" ∈ ne_W := List.mem_of_getElem? (i := 21) rfl
theorem ne_22 : Cond.methodLinkNest RX3 101 yX0_newestValue "StoreBufferCores" ∈ ne_W := List.mem_of_getElem? (i := 22) rfl
theorem ne_23 : Cond.fieldLinkNest RX3 105 "StoreBufferCores$SharedMemory" "stored" "[I" "StoreBufferCores" ∈ ne_W := List.mem_of_getElem? (i := 23) rfl
theorem ne_24 : Cond.fieldLinkNest RX3 108 "StoreBufferCores$SharedMemory" "unwritten" "[Z" "StoreBufferCores" ∈ ne_W := List.mem_of_getElem? (i := 24) rfl
theorem ne_25 : Cond.methodLinkNest RX3 73 yX2_fallBackToStorage "StoreBufferCores" ∈ ne_W := List.mem_of_getElem? (i := 25) rfl
theorem ne_26 : Cond.methodLinkNest RX3 76 yX1_beginAgain "StoreBufferCores" ∈ ne_W := List.mem_of_getElem? (i := 26) rfl
theorem ne_27 : Cond.methodLinkNest RX1 29 yX0_init "StoreBufferCores" ∈ ne_W := List.mem_of_getElem? (i := 27) rfl
theorem ne_28 : Cond.methodLinkNest RX3 11 yX2_init "StoreBufferCores" ∈ ne_W := List.mem_of_getElem? (i := 28) rfl
theorem ne_29 : Cond.methodLinkNest RX3 22 yX1_init "StoreBufferCores" ∈ ne_W := List.mem_of_getElem? (i := 29) rfl
/-! own words: contracts with one answer and one world behind; nest words travel with the start -/
def ne_ok : Cond → Bool
  | .fieldLinkNest .. => true
  | .methodLinkNest .. => true
  | _ => false
def ne_E (U : State) : Prop := (∀ w ∈ ne_W, va_Nw w U) ∧ va_AO "StoreBufferCores$Core" U
theorem ne_W_ok : ∀ w ∈ ne_W, ne_ok w = true := by decide +kernel
theorem ne_W_tab : ∀ w ∈ ne_W, w.onTables = true := by decide +kernel
theorem ne_E.warm {s U : State} (hW : s.WarmedH U.vm) (h : ne_E s) : ne_E U := by
  refine ⟨?_, va_AO.moved hW.alike h.2⟩
  intro w hw
  have h1 := ne_W_ok w hw
  have h2 := h.1 w hw
  cases w <;> first | exact va_Nw.warmF hW h2 | exact va_Nw.warmM hW h2 | (exfalso; revert h1; simp [ne_ok]; done)
theorem ne_E.same {u U : State} (e : u.vm = U.vm) (h : ne_E u) : ne_E U := ⟨fun w hw => va_Nw.same (ne_W_tab w hw) e (h.1 w hw), va_AO.moved (by rw [e]; exact Vm.Alike.refl _) h.2⟩
theorem ne_AO {U : State} (h : ne_E U) : va_AO "StoreBufferCores$Core" U := h.2
abbrev me_TY : Type := List (ClassId × FieldType)
def me_Pre (D : va_G) (tys : me_TY) (w : va_W) (sz : Nat) : State → Prop := fun U => U.heap.size = sz ∧ va_P D vwCl w U.heap ∧ va_K D vwCl tys U ∧ va_D (fun _ => True) w ∧ ne_E U
def me_At (D : va_G) (tys : me_TY) (A : Nat → Prop) (w : va_W) (t : State) : Prop := va_P D vwCl w t.heap ∧ va_K D vwCl tys t ∧ va_D A w
def me_QI (D : va_G) (tys : me_TY) (r : Int32) (w1 : va_W) (A : Nat → Prop) : Array Value → State → Outcome → State → Prop := va_Qi (fun (a : Int32) (u : va_W) => a = r ∧ u = w1) (me_At D tys A) A
def me_QV (D : va_G) (tys : me_TY) (w1 : va_W) (A : Nat → Prop) : Array Value → State → Outcome → State → Prop := va_Qv (fun (u : va_W) => u = w1) (me_At D tys A) A
def me_I (l : Launch) (y : MethodName) (ws : List Cond) (rm : Room) (D : va_G) (tys : me_TY) (av : List Value) (w : va_W) (r : Int32) (w1 : va_W) : Prop := ∀ sz : Nat, Met l y ws rm (va_Pc av (me_Pre D tys w sz)) (me_QI D tys r w1 (va_A w sz)) 0 0 (va_A w sz)
def me_V (l : Launch) (y : MethodName) (ws : List Cond) (rm : Room) (D : va_G) (tys : me_TY) (av : List Value) (w : va_W) (w1 : va_W) : Prop := ∀ sz : Nat, Met l y ws rm (va_Pc av (me_Pre D tys w sz)) (me_QV D tys w1 (va_A w sz)) 0 0 (va_A w sz)
theorem me_blind {D : va_G} {tys : me_TY} {av : List Value} {w : va_W} {sz : Nat} : FrameBlind (va_Pc av (me_Pre D tys w sz)) := by
  intro a U g mk q
  obtain ⟨q0, q1, qP, qK, qD, qN⟩ := q
  exact ⟨q0, q1, qP, va_K.moved (u := U) (U := U.calling g mk a) (Vm.Alike.refl U.vm) qK, qD, ne_E.same (u := U) (U := U.calling g mk a) rfl qN⟩
theorem me_subP {D : va_G} {cl : List vw_C} {ws ws' : va_W} {H : Heap} (h : va_P D cl ws H) (is : List Nat) (hs : is.map (fun i => ws[i]?) = ws'.map some) : va_P D cl ws' H := by
  intro k q hk
  have h1 : (is.map (fun i => ws[i]?))[k]? = some (some q) := by rw [hs, List.getElem?_map, hk]; rfl
  rw [List.getElem?_map] at h1
  cases hi : is[k]? with
  | none => rw [hi] at h1; cases h1
  | some i => rw [hi] at h1; exact h i q (Option.some.inj h1)
theorem me_ent {l : Launch} {y : MethodName} {ws ws' : List Cond} {rm : Room} {D : va_G} {tys : me_TY} {av : List Value} {w : va_W} {sz : Nat} {Qf : (Nat → Prop) → Array Value → State → Outcome → State → Prop} {mc ms : Nat} {cc : ByteArray} {maxL : Nat} {ret : Option FieldType}
    (hy : plainName y.cls = true) (hw : ws = Cond.code y cc maxL ret :: ws') (hlen : (lg_sl av).length ≤ maxL)
    (body : ∀ (p : Program) (e : Env) (s : State) (m : MethodId) (below : List Frame) (meth : Method) (c : Code) (A : Nat → Prop) (ls : Array Slot), p.tables.exec = Jvm.exec → c.code = cc → meth.sig.returnType = ret → c.maxLocals = maxL → (∀ x ∈ ws, x.before av.toArray s = true) → s.vm.findClass y.cls = some m.cls → meth.locks = false → meth.name = y.name → va_P D vwCl w s.heap → va_K D vwCl tys s → va_D A w → ne_E s → (∀ q, s.heap.size ≤ q → A q) → va_S A s.heap s.heap [] → lv_has ls maxL (lv_args 0 av) →
      W p l e rm s m av.toArray below meth c s.heap [] 0 0 (MQ below (Qf A) av.toArray s mc ms A) (F0 m 0 ls [])) :
    Met l y ws rm (va_Pc av (me_Pre D tys w sz)) (Qf (va_A w sz)) mc ms (va_A w sz) := by
  refine Met.ofW (cc := cc) (maxL := maxL) (ret := ret) hy hw ?_
  intro p e s m args below meth c s₁ B hml hv
  obtain ⟨rfl, hsz, hP, hK, hD0, hN⟩ := hv
  subst hsz
  have hts := atoms_spec (ws := ws) B.pre
  have hl := lv_entry av (n := maxL) hlen
  rw [lg_entry_eq]
  exact body p e s m below meth c _ _ B.exec B.bytes B.returns hml hts (findClass_of_methodNamed B.named) B.notSynchronized (name_of_methodNamed B.named B.method).1 hP hK hD0.self hN (fun q h => Or.inr h) va_S.rf hl
section RT
variable {p : Program} {l : Launch} {e : Env} {R : Room} {s : State} {m : MethodId} {args : Array Value} {below : List Frame} {meth : Method} {c : Code} {H : Heap} {locs : List Loc} {cells slots : Nat} {Q : State → Prop}
variable {D : va_G} {tys : me_TY} {A : Nat → Prop} {cc : ByteArray} {pc : Nat} {ls : Array Slot} {rest st0 : List Value} {ws : va_W} {a : Nat} {H0 : Heap}
theorem me_retI {r v : Int32} {w1 : va_W} (hx : p.tables.exec = Jvm.exec) (hb : c.code = cc) (hr : meth.sig.returnType = some .int) (hlk : meth.locks = false) (hK : va_K D vwCl tys s) (hS : va_S A s.heap H locs) (hd : decode cc pc = .ok (.ireturn, 1)) (hv : v = r) (hP : va_P D vwCl w1 H) (hD : va_D A w1) : W p l e R s m args below meth c H locs cells slots (MQ below (me_QI D tys r w1 A) args s cells slots A) (F0 m pc ls [.int v]) :=
  W.iret (v := v) hx hb hr (fun t ht hW => ⟨⟨v, w1, rfl, ⟨hv, rfl⟩, by rw [ht]; exact hP, va_K.moved hW.alike hK, hD⟩, hS.F ht⟩) hS.2.2 hd hlk
theorem me_retZ {r v : Int32} {w1 : va_W} (hx : p.tables.exec = Jvm.exec) (hb : c.code = cc) (hr : meth.sig.returnType = some .boolean) (hlk : meth.locks = false) (hK : va_K D vwCl tys s) (hS : va_S A s.heap H locs) (hd : decode cc pc = .ok (.ireturn, 1)) (hn : narrow .boolean (.int v) = .int v) (hv : v = r) (hP : va_P D vwCl w1 H) (hD : va_D A w1) : W p l e R s m args below meth c H locs cells slots (MQ below (me_QI D tys r w1 A) args s cells slots A) (F0 m pc ls [.int v]) :=
  W.zret (v := v) (ty := .boolean) hx hb hr hn (fun t ht hW => ⟨⟨v, w1, rfl, ⟨hv, rfl⟩, by rw [ht]; exact hP, va_K.moved hW.alike hK, hD⟩, hS.F ht⟩) hS.2.2 hd hlk
theorem me_retV {w1 : va_W} (hx : p.tables.exec = Jvm.exec) (hb : c.code = cc) (hr : meth.sig.returnType = none) (hlk : meth.locks = false) (hK : va_K D vwCl tys s) (hS : va_S A s.heap H locs) (hd : decode cc pc = .ok (.return_, 1)) (hP : va_P D vwCl w1 H) (hD : va_D A w1) : W p l e R s m args below meth c H locs cells slots (MQ below (me_QV D tys w1 A) args s cells slots A) (F0 m pc ls []) :=
  W.vret hx hb hr (fun t ht hW => ⟨⟨w1, rfl, rfl, by rw [ht]; exact hP, va_K.moved hW.alike hK, hD⟩, hS.F ht⟩) hS.2.2 hd hlk
theorem me_preV {C : String} {b : Addr} {As : List Value} {wc : va_W} (hP : va_P D vwCl ws H) (hD : va_D A ws) (hK : va_K D vwCl tys s) (hN : ne_E s) (isC : List Nat) (hC : isC.map (fun i => ws[i]?) = wc.map some) (hnC : va_nd isC = true) (hrec : ∃ cellB : Cell, H[b]? = some cellB ∧ cellB.vm.isStatics = false ∧ s.vm.findClass C = some cellB.cls) : PreV s H C b (va_Pc (.ref b :: As) (me_Pre D tys wc H.size)) As :=
  ⟨me_blind, hrec, fun U hU hW => ⟨rfl, by rw [hU], by rw [hU]; exact me_subP hP isC hC, va_K.moved hW.alike hK, (hD.sub isC hnC hC).weaken (fun _ _ _ _ => trivial), ne_E.warm hW hN⟩⟩
theorem me_preS {As : List Value} {wc : va_W} (hP : va_P D vwCl ws H) (hD : va_D A ws) (hK : va_K D vwCl tys s) (hN : ne_E s) (isC : List Nat) (hC : isC.map (fun i => ws[i]?) = wc.map some) (hnC : va_nd isC = true) : PreS s H (va_Pc As (me_Pre D tys wc H.size)) As :=
  ⟨me_blind, fun U hU hW => ⟨rfl, by rw [hU], by rw [hU]; exact me_subP hP isC hC, va_K.moved hW.alike hK, (hD.sub isC hnC hC).weaken (fun _ _ _ _ => trivial), ne_E.warm hW hN⟩⟩
theorem me_goI {r : Int32} {w1 wc wr : va_W} {av : Array Value} (hr : va_Run p l e R s m args below meth c H locs cells slots 0 0 (F0 m pc ls st0) rest (me_QI D tys r w1 (va_A wc H.size) av) (va_A wc H.size)) (hP : va_P D vwCl ws H) (hD : va_D A ws) (hS : va_S A H0 H locs) (hA : ∀ q, H0.size ≤ q → A q) (isC isR : List Nat) (hC : isC.map (fun i => ws[i]?) = wc.map some) (hR : isR.map (fun i => ws[i]?) = wr.map some) (hn : va_nd isR = true) (hdis : ∀ i ∈ isR, i ∉ isC)
    (kk : ∀ (H1 : Heap) (locs1 : List Loc), va_P D vwCl (wr ++ w1) H1 → va_D A (wr ++ w1) → va_S A H0 H1 locs1 → W p l e R s m args below meth c H1 locs1 cells slots Q (F0 m (pc + 3) ls (.int r :: rest))) : W p l e R s m args below meth c H locs cells slots Q (F0 m pc ls st0) := by
  have hFc := va_free (wc := wc) hD hS hA isC hC
  refine va_calli (S := va_W) (post := fun (a : Int32) (u : va_W) => a = r ∧ u = w1) (B := me_At D tys (va_A wc H.size)) hr hS (fun q _ h => hFc q h) hFc (fun r' u t H1 locs1 ht hvm hp hB hz hk hS1 => ?_)
  obtain ⟨e1, e2⟩ := hp
  subst e1 e2
  obtain ⟨hP1, hK1, hD1⟩ := hB
  rw [ht] at hP1
  obtain ⟨hP2, hD2⟩ := va_join (wr := wr) hP hD isC isR hC hR hn hdis hk hFc hP1 hD1
  exact kk H1 locs1 hP2 hD2 hS1
theorem me_goV {w1 wc wr : va_W} {av : Array Value} {mc ms : Nat} (hr : va_Run p l e R s m args below meth c H locs cells slots mc ms (F0 m pc ls st0) rest (me_QV D tys w1 (va_A wc H.size) av) (va_A wc H.size)) (hP : va_P D vwCl ws H) (hD : va_D A ws) (hS : va_S A H0 H locs) (hA : ∀ q, H0.size ≤ q → A q) (isC isR : List Nat) (hC : isC.map (fun i => ws[i]?) = wc.map some) (hR : isR.map (fun i => ws[i]?) = wr.map some) (hn : va_nd isR = true) (hdis : ∀ i ∈ isR, i ∉ isC)
    (kk : ∀ (H1 : Heap) (locs1 : List Loc), va_P D vwCl (wr ++ w1) H1 → va_D A (wr ++ w1) → va_S A H0 H1 locs1 → W p l e R s m args below meth c H1 locs1 (cells + mc) (slots + ms) Q (F0 m (pc + 3) ls rest)) : W p l e R s m args below meth c H locs cells slots Q (F0 m pc ls st0) := by
  have hFc := va_free (wc := wc) hD hS hA isC hC
  refine va_callv (S := va_W) (post := fun (u : va_W) => u = w1) (B := me_At D tys (va_A wc H.size)) hr hS (fun q _ h => hFc q h) hFc (fun u t H1 locs1 ht hvm hp hB hz hk hS1 => ?_)
  subst hp
  obtain ⟨hP1, hK1, hD1⟩ := hB
  rw [ht] at hP1
  obtain ⟨hP2, hD2⟩ := va_join (wr := wr) hP hD isC isR hC hR hn hdis hk hFc hP1 hD1
  exact kk H1 locs1 hP2 hD2 hS1
theorem me_t {x y : Int32} (h : x = y) (k : W p l e R s m args below meth c H locs cells slots Q (F0 m pc ls (.int y :: rest))) : W p l e R s m args below meth c H locs cells slots Q (F0 m pc ls (.int x :: rest)) := by
  rw [h]; exact k
theorem me_ild (hx : p.tables.exec = Jvm.exec) (hb : c.code = cc) (hK : va_K D vwCl tys s) (hP : va_P D vwCl ws H) (q0 t0 : Nat) {cA : ClassId} {n : Nat} {f : Nat → Int32} (ha : ws[q0]? = some (a, .inl (cA, n, .inl f))) (ht : tys[t0]? = some (cA, .int)) (j : Nat) {i : Int32} (hi : i = nI j) (hj : j < n) (hn : n < 2 ^ 31) (hdg : decode cc pc = .ok (.iaload, 1))
    (kk : W p l e R s m args below meth c H locs cells slots Q (F0 m (pc + 1) ls (.int (f j) :: rest))) : W p l e R s m args below meth c H locs cells slots Q (F0 m pc ls (.int i :: .ref a :: rest)) := by
  subst hi
  refine va_iald hx hb hK hP q0 t0 ha ht (vp_in_nI hj hn) hdg ?_
  rw [nI_clamp (Nat.lt_trans hj hn)]
  exact kk
theorem me_zld (hx : p.tables.exec = Jvm.exec) (hb : c.code = cc) (hK : va_K D vwCl tys s) (hP : va_P D vwCl ws H) (q0 t0 : Nat) {cA : ClassId} {n : Nat} {f : Nat → Int32} (ha : ws[q0]? = some (a, .inl (cA, n, .inl f))) (ht : tys[t0]? = some (cA, .boolean)) (j : Nat) {i : Int32} (hi : i = nI j) (hj : j < n) (hn : n < 2 ^ 31) (hdg : decode cc pc = .ok (.baload, 1))
    (kk : W p l e R s m args below meth c H locs cells slots Q (F0 m (pc + 1) ls (.int (f j) :: rest))) : W p l e R s m args below meth c H locs cells slots Q (F0 m pc ls (.int i :: .ref a :: rest)) := by
  subst hi
  refine va_zald hx hb hK hP q0 t0 ha ht (vp_in_nI hj hn) hdg ?_
  rw [nI_clamp (Nat.lt_trans hj hn)]
  exact kk
theorem me_ist (hx : p.tables.exec = Jvm.exec) (hb : c.code = cc) (hK : va_K D vwCl tys s) (hP : va_P D vwCl ws H) (hD : va_D A ws) (hS : va_S A H0 H locs) (q0 t0 : Nat) {cA : ClassId} {n : Nat} {f : Nat → Int32} (ha : ws[q0]? = some (a, .inl (cA, n, .inl f))) (ht : tys[t0]? = some (cA, .int)) (j : Nat) {i x : Int32} (hi : i = nI j) (hj : j < n) (hn : n < 2 ^ 31) (hdg : decode cc pc = .ok (.iastore, 1))
    (kk : ∀ (H1 : Heap) (locs1 : List Loc), va_P D vwCl (ws.set q0 (a, .inl (cA, n, .inl (upd f j x)))) H1 → va_D A (ws.set q0 (a, .inl (cA, n, .inl (upd f j x)))) → va_S A H0 H1 locs1 → W p l e R s m args below meth c H1 locs1 cells slots Q (F0 m (pc + 1) ls rest)) : W p l e R s m args below meth c H locs cells slots Q (F0 m pc ls (.int x :: .int i :: .ref a :: rest)) := by
  subst hi
  refine va_iast hx hb hK hP hD hS q0 t0 ha ht (vp_in_nI hj hn) hdg ?_
  rw [nI_clamp (Nat.lt_trans hj hn)]
  exact kk
theorem me_zst (hx : p.tables.exec = Jvm.exec) (hb : c.code = cc) (hK : va_K D vwCl tys s) (hP : va_P D vwCl ws H) (hD : va_D A ws) (hS : va_S A H0 H locs) (q0 t0 : Nat) {cA : ClassId} {n : Nat} {f : Nat → Int32} (ha : ws[q0]? = some (a, .inl (cA, n, .inl f))) (ht : tys[t0]? = some (cA, .boolean)) (j : Nat) {i x : Int32} (hi : i = nI j) (hj : j < n) (hn : n < 2 ^ 31) (hnar : vp_nar .boolean x = x) (hdg : decode cc pc = .ok (.bastore, 1))
    (kk : ∀ (H1 : Heap) (locs1 : List Loc), va_P D vwCl (ws.set q0 (a, .inl (cA, n, .inl (upd f j x)))) H1 → va_D A (ws.set q0 (a, .inl (cA, n, .inl (upd f j x)))) → va_S A H0 H1 locs1 → W p l e R s m args below meth c H1 locs1 cells slots Q (F0 m (pc + 1) ls rest)) : W p l e R s m args below meth c H locs cells slots Q (F0 m pc ls (.int x :: .int i :: .ref a :: rest)) := by
  subst hi
  refine va_zast hx hb hK hP hD hS q0 t0 ha ht (vp_in_nI hj hn) hdg ?_
  rw [nI_clamp (Nat.lt_trans hj hn), hnar]
  exact kk
theorem me_qld (hx : p.tables.exec = Jvm.exec) (hb : c.code = cc) (hK : va_K D vwCl tys s) (hP : va_P D vwCl ws H) (q0 t0 : Nat) {cA : ClassId} {C : String} {n : Nat} {f : Nat → Option Nat} (ha : ws[q0]? = some (a, .inl (cA, n, .inr (.inr (.inr (.inr f)))))) (ht : tys[t0]? = some (cA, .object C)) (j b : Nat) {i : Int32} (hi : i = nI j) (hj : j < n) (hn : n < 2 ^ 31) (hf : f j = some b) (hdg : decode cc pc = .ok (.aaload, 1))
    (kk : W p l e R s m args below meth c H locs cells slots Q (F0 m (pc + 1) ls (.ref b :: rest))) : W p l e R s m args below meth c H locs cells slots Q (F0 m pc ls (.int i :: .ref a :: rest)) := by
  subst hi
  refine va_aldq hx hb hK hP q0 t0 ha ht (vp_in_nI hj hn) hdg ?_
  rw [nI_clamp (Nat.lt_trans hj hn), hf]
  exact kk
end RT
/-! numbers -/
theorem me_oi1 : Int32.ofInt 1 = 1 := by decide
theorem me_oim1 : Int32.ofInt (-1) = -1 := by decide
theorem me_inc (j : Nat) : nI j + Int32.ofInt 1 = nI (j + 1) := by rw [me_oi1]; exact nI_1 j
theorem me_dec (j : Nat) : nI (j + 1) + Int32.ofInt (-1) = nI j := by rw [me_oim1]; exact pk_m1 j
noncomputable def me_sw {α : Type} (p : Prop) (a b : α) : α := @ite α p (Classical.propDecidable p) a b
theorem me_swt {α : Type} {p : Prop} {a b : α} (h : p) : me_sw p a b = a := by unfold me_sw; exact if_pos h
theorem me_swf {α : Type} {p : Prop} {a b : α} (h : ¬ p) : me_sw p a b = b := by unfold me_sw; exact if_neg h
noncomputable def me_b (p : Prop) : Int32 := me_sw p 1 0
theorem me_bt {p : Prop} (h : p) : me_b p = 1 := me_swt h
theorem me_bf {p : Prop} (h : ¬ p) : me_b p = 0 := me_swf h
theorem me_b0 {p : Prop} (h : me_b p = 0) : ¬ p := fun q => absurd ((me_bt q).symm.trans h) (by decide)
theorem me_b1 {p : Prop} (h : ¬ me_b p = 0) : p := Classical.byContradiction fun q => h (me_bf q)
theorem me_bc {p : Prop} : me_b p = 0 ∨ me_b p = 1 := (Classical.em p).elim (fun h => Or.inr (me_bt h)) (fun h => Or.inl (me_bf h))
theorem me_bn (p : Prop) : narrow .boolean (.int (me_b p)) = .int (me_b p) := by
  rcases (me_bc (p := p)) with h | h <;> rw [h] <;> rfl
theorem me_nz0 : narrow .boolean (.int 0) = .int 0 := rfl
theorem me_nz1 : narrow .boolean (.int 1) = .int 1 := rfl
theorem me_vz0 : vp_nar .boolean 0 = 0 := rfl
theorem me_vz1 : vp_nar .boolean 1 = 1 := rfl
def me_in (x : Int32) (n : Nat) : Prop := ∃ j : Nat, j < n ∧ x = nI j
theorem me_in1 {x : Int32} {n : Nat} (h : x < 0) (hn : n < 2 ^ 31) : ¬ me_in x n := by
  rintro ⟨j, hj, rfl⟩
  exact nI_pos (Nat.lt_trans hj hn) h
theorem me_in2 {x : Int32} {n : Nat} (h : nI n ≤ x) (hn : n < 2 ^ 31) : ¬ me_in x n := by
  rintro ⟨j, hj, rfl⟩
  exact nI_ge hj hn h
theorem me_in3 {x : Int32} {n : Nat} (h : nI n < x) (hn : n + 1 < 2 ^ 31) : ¬ me_in x (n + 1) := by
  rintro ⟨j, hj, rfl⟩
  have := (nI_ltI (by omega) (by omega)).mp h
  omega
theorem me_ino {x : Int32} {n : Nat} (h0 : ¬ x < 0) (h : ¬ nI n ≤ x) (hn : n < 2 ^ 31) : me_in x n := by
  rcases pk_ix x hn with h1 | h1 | h1
  · exact absurd h1 h0
  · exact absurd h1 h
  · exact h1
theorem me_ino3 {x : Int32} {n : Nat} (h0 : ¬ x < 0) (h : ¬ nI n < x) (hn : n + 1 < 2 ^ 31) : me_in x (n + 1) := by
  rcases pk_ix x hn with h1 | h1 | h1
  · exact absurd h1 h0
  · exfalso
    apply h
    rw [Int32.lt_iff_toInt_lt]
    rw [Int32.le_iff_toInt_le] at h1
    rw [nI_toInt hn] at h1
    rw [nI_toInt (by omega)]
    omega
  · exact h1
theorem me_inI {j n : Nat} (h : j < n) : me_in (nI j) n := ⟨j, h, rfl⟩
theorem me_inlt {j n : Nat} (h : me_in (nI j) n) (hj : j < 2 ^ 31) (hn : n < 2 ^ 31) : j < n := by
  obtain ⟨k, hk, e⟩ := h
  have := (nI_eq hj (Nat.lt_trans hk hn)).mp e
  omega
theorem me_lt {a b : Nat} (ha : a < 2 ^ 31) (hb : b < 2 ^ 31) (h : nI a < nI b) : a < b := (nI_ltI ha hb).mp h
theorem me_nlt {a b : Nat} (ha : a < 2 ^ 31) (hb : b < 2 ^ 31) (h : ¬ nI a < nI b) : b ≤ a := Nat.le_of_not_lt fun q => h ((nI_ltI ha hb).mpr q)
theorem me_le {a b : Nat} (ha : a < 2 ^ 31) (hb : b < 2 ^ 31) (h : nI a ≤ nI b) : a ≤ b := (nI_leI ha hb).mp h
theorem me_nle {a b : Nat} (ha : a < 2 ^ 31) (hb : b < 2 ^ 31) (h : ¬ nI a ≤ nI b) : b < a := Nat.lt_of_not_le fun q => h ((nI_leI ha hb).mpr q)
theorem me_eq {a b : Nat} (ha : a < 2 ^ 31) (hb : b < 2 ^ 31) (h : nI a = nI b) : a = b := (nI_eq ha hb).mp h
theorem me_ne {a b : Nat} (ha : a < 2 ^ 31) (hb : b < 2 ^ 31) (h : ¬ nI a = nI b) : ¬ a = b := fun q => h (by rw [q])
theorem me_decm (d : Nat) : (nI (d + 1) - 1) + Int32.ofInt (-1) = nI d - 1 := by rw [nI_pred, me_oim1, Int32.sub_eq_add_neg]
theorem me_nltle {x y : Int32} (h : x ≤ y) : ¬ y < x := by
  rw [Int32.lt_iff_toInt_lt]
  rw [Int32.le_iff_toInt_le] at h
  omega
theorem me_nlelt {x y : Int32} (h : ¬ x ≤ y) : y < x := by
  rw [Int32.lt_iff_toInt_lt]
  rw [Int32.le_iff_toInt_le] at h
  omega
theorem me_ino4 {x : Int32} {n : Nat} (h0 : ¬ x < 0) (h : x ≤ nI n) (hn : n + 1 < 2 ^ 31) : me_in x (n + 1) := me_ino3 h0 (me_nltle h) hn
theorem me_in4 {x : Int32} {n : Nat} (h : ¬ x ≤ nI n) (hn : n + 1 < 2 ^ 31) : ¬ me_in x (n + 1) := me_in3 (me_nlelt h) hn
theorem me_ino5 {x : Int32} {n : Nat} (h0 : ¬ x < 0) (h : x < nI n) (hn : n < 2 ^ 31) : me_in x n := me_ino h0 (fun q => me_nltle q h) hn
theorem me_in5 {x : Int32} {n : Nat} (h : ¬ x < nI n) (hn : n < 2 ^ 31) : ¬ me_in x n := me_in2 (Classical.byContradiction fun q => h (me_nlelt q)) hn
