set_option maxHeartbeats 4000000 in
set_option maxRecDepth 100000 in
theorem whole_start {p : Program} {e : Env} {s : State} {m : MethodId} {below : List Frame} {meth : Method} {c : Code} (l : Launch) {b L : Nat} {xs : Nat → Int32} (hL : L ≤ 3586) (C0 : lw_At p s m meth c b L xs) : W p l e room_1 s m #[Value.ref b] below meth c s.heap [] 0 0 (lw_Z below #[Value.ref b] s) (entryFrame m ([Value.ref b] : List Value).toArray 4) := by
  obtain ⟨hx, hb, hr, hml, hown0, hts, hX, hbl, hlk, hgv⟩ := C0
  have hown : s.vm.findClass RL = some m.cls := hown0
  have hg := bg_start hts
  have hN := ne_start hts
  obtain ⟨D, cI, cZ, cR, hK⟩ := la_K0 hg hN
  have X : la_C p s m c b L xs D cI cZ cR := ⟨hx, hb, hml, hown, hg, hX, hbl, hK, hN, hL⟩
  have hA : ∀ q, s.heap.size ≤ q → la_A s q := fun q h => h
  have hS : va_S (la_A s) s.heap s.heap [] := va_S.rf
  have hP : va_P D vwCl [] s.heap := fun k q h => by simp at h
  have hD : va_D (la_A s) [] := ⟨fun i j p q h => by simp at h, fun k q h => by simp at h⟩
  have hl := lv_entry ([.ref b]) (n := 4) (Nat.le_of_ble_eq_true rfl)
  rw [lg_entry_eq]
  generalize (lg_sl ([.ref b]) ++ List.replicate (4 - (lg_sl ([.ref b])).length) Slot.unset).toArray = ls at hl ⊢
  have hl : lv_has ls 4 [(0, .ref b)] := hl
  refine va_new (ci := 3) (fs := [.null, .null]) (C := RX3) (T := TX3) (N := 2) hx hb hg inX3 tyX3 tyX3_ok hown (hg _ bw_1_6) (hg _ bw_1_7) (hg _ bw_1_1) hK hP hD hS hA rfl (fun j hj => by rcases (show j = 0 ∨ j = 1 by omega) with rfl | rfl <;> rfl) (Nat.le_of_ble_eq_true rfl) (Nat.le_of_ble_eq_true rfl) dL_law_0 (fun o H hP hD hS => ?_)
  have hP : va_P D vwCl [(o, .inr (3, [.null, .null]))] H := hP
  have hD : va_D (la_A s) [(o, .inr (3, [.null, .null]))] := hD
  refine W.widen (k := 1) (n := 2) (by omega) (by omega) ?_
  refine lv_dup hx hb dL_law_3 rfl ?_
  refine lv_aload_n hx hb dL_law_4 rfl (lv_at hl 0 rfl) ?_
  refine lv_iconst (v := 0) hx hb dL_law_5 (by decide) ?_
  refine la_cell l X hP hS hl.1 (show (0 : Int32) = nI 0 from rfl) (by decide) (Nat.le_of_ble_eq_true rfl) (by decide) (by decide) dL_law_6 (fun H locs hP hS => ?_)
  refine lv_aload_n hx hb dL_law_9 rfl (lv_at hl 0 rfl) ?_
  refine lv_iconst (v := 1) hx hb dL_law_10 (by decide) ?_
  refine la_cell l X hP hS hl.1 (show (1 : Int32) = nI 1 from rfl) (by decide) (Nat.le_of_ble_eq_true rfl) (by decide) (by decide) dL_law_11 (fun H locs hP hS => ?_)
  obtain ⟨n, hn0⟩ : ∃ n, st_nn (st_ce L xs 0) = n := ⟨_, rfl⟩
  obtain ⟨ro, hr0⟩ : ∃ ro, st_rr (st_ce L xs 1) = ro := ⟨_, rfl⟩
  refine me_goXp (wr := []) (wc := [(o, .inr (3, [.null, .null]))]) (va_runI (b := o) (As := [.int (st_ce L xs 0), .int (st_ce L xs 1)]) (rest := [.ref o]) ⟨hx, hb, hml, hown, hg⟩ (i_sb l D cI cZ cR o (st_ce L xs 0) (st_ce L xs 1) n ro hn0 hr0 H.size) (cwI 2 hg (bg_gi (fun _ h => h) bw_1_10) rfl rfl rfl (hg _ bw_1_1) (hg _ bw_1_8) (hg _ bw_1_9) rfl (by decide +kernel) ⟨Nat.le_of_ble_eq_true rfl, Nat.le_of_ble_eq_true rfl⟩) (me_preSp (wr := []) (wc := [(o, .inr (3, [.null, .null]))]) hP hD hK hN) rfl rfl hl.1 rfl (lv_room (Nat.le_of_ble_eq_true rfl)) dL_law_14 ⟨Nat.le_of_ble_eq_true rfl, Nat.le_of_ble_eq_true rfl⟩) hP hD hS hA (fun w1 H locs hw hP hD hS => ?_)
  obtain ⟨rw, gq, bb, ad, hgq, rfl⟩ := hw
  refine W.widen (k := 46) (n := 625) (by omega) (by omega) ?_
  refine lv_astore_n hx hb dL_law_17 rfl hl (by decide) rfl (fun ls hl => ?_)
  have hl : lv_has ls 4 [(1, .ref o), (0, .ref b)] := hl
  refine va_new (ci := 4) (fs := [.int (0), .int (0), .null, .null, .null, .null, .null, .null, .null, .null, .null, .null, .null, .null, .null, .int (0), .null, .null]) (C := RX4) (T := TX4) (N := 18) hx hb hg inX4 tyX4 tyX4_ok hown (hg _ bw_2_30) (hg _ bw_2_31) (hg _ bw_1_5) hK hP hD hS hA rfl (fun j hj => by rcases (show j = 0 ∨ j = 1 ∨ j = 2 ∨ j = 3 ∨ j = 4 ∨ j = 5 ∨ j = 6 ∨ j = 7 ∨ j = 8 ∨ j = 9 ∨ j = 10 ∨ j = 11 ∨ j = 12 ∨ j = 13 ∨ j = 14 ∨ j = 15 ∨ j = 16 ∨ j = 17 by omega) with rfl | rfl | rfl | rfl | rfl | rfl | rfl | rfl | rfl | rfl | rfl | rfl | rfl | rfl | rfl | rfl | rfl | rfl <;> rfl) (Nat.le_of_ble_eq_true rfl) (Nat.le_of_ble_eq_true rfl) dL_law_18 (fun mo H hP hD hS => ?_)
  refine W.widen (k := 47) (n := 643) (by omega) (by omega) ?_
  refine lv_dup hx hb dL_law_21 rfl ?_
  refine lv_aload_n hx hb dL_law_22 rfl (lv_at hl 1 rfl) ?_
  refine lv_iconst (v := 0) hx hb dL_law_23 (by decide) ?_
  refine la_cell l X hP hS hl.1 (show (0 : Int32) = nI 0 from rfl) (by decide) (Nat.le_of_ble_eq_true rfl) (by decide) (by decide) dL_law_24 (fun H locs hP hS => ?_)
  refine lv_aload_n hx hb dL_law_27 rfl (lv_at hl 1 rfl) ?_
  refine lv_iconst (v := 1) hx hb dL_law_28 (by decide) ?_
  refine la_cell l X hP hS hl.1 (show (1 : Int32) = nI 1 from rfl) (by decide) (Nat.le_of_ble_eq_true rfl) (by decide) (by decide) dL_law_29 (fun H locs hP hS => ?_)
  refine me_goXp (wr := w_ba o rw cR n gq bb ++ w_sh bb cI cZ (fun _ _ => 0) ++ w_cr ad cI ro (fun _ _ _ => 0) (List.range n)) (wc := [(mo, .inr (4, [.int (0), .int (0), .null, .null, .null, .null, .null, .null, .null, .null, .null, .null, .null, .null, .null, .int (0), .null, .null]))]) (va_runI (b := mo) (As := [.int (st_ce L xs 0), .int (st_ce L xs 1)]) (rest := [.ref mo]) ⟨hx, hb, hml, hown, hg⟩ (i_mo l D cI cZ cR mo (st_ce L xs 0) (st_ce L xs 1) n ro hn0 hr0 H.size) (cwI 2 hg (bg_gi (fun _ h => h) bw_2_34) rfl rfl rfl (hg _ bw_1_5) (hg _ bw_2_32) (hg _ bw_2_33) rfl (by decide +kernel) ⟨Nat.le_of_ble_eq_true rfl, Nat.le_of_ble_eq_true rfl⟩) (me_preSp (wr := w_ba o rw cR n gq bb ++ w_sh bb cI cZ (fun _ _ => 0) ++ w_cr ad cI ro (fun _ _ _ => 0) (List.range n)) (wc := [(mo, .inr (4, [.int (0), .int (0), .null, .null, .null, .null, .null, .null, .null, .null, .null, .null, .null, .null, .null, .int (0), .null, .null]))]) hP hD hK hN) rfl rfl hl.1 rfl (lv_room (Nat.le_of_ble_eq_true rfl)) dL_law_32 ⟨Nat.le_of_ble_eq_true rfl, Nat.le_of_ble_eq_true rfl⟩) hP hD hS hA (fun w1 H locs hw hP hD hS => ?_)
  obtain ⟨r, rfl⟩ := hw
  refine W.widen (k := 62) (n := 1255) (by omega) (by omega) ?_
  refine lv_astore_n hx hb dL_law_35 rfl hl (by decide) rfl (fun ls hl => ?_)
  have hl : lv_has ls 4 [(2, .ref mo), (1, .ref o), (0, .ref b)] := hl
  refine lv_iconst (v := 2) hx hb dL_law_36 (by decide) ?_
  refine me_t (x := 2) (y := nI 2) rfl ?_
  refine lv_istore_n hx hb dL_law_37 rfl hl (by decide) rfl (fun ls hl => ?_)
  have hl : lv_has ls 4 [(3, .int (nI 2)), (2, .ref mo), (1, .ref o), (0, .ref b)] := hl
  have hn : n = 2 ∨ n = 3 ∨ n = 4 := by rw [← hn0]; exact st_nn3 _
  have hro : ro ≤ 8 := by rw [← hr0]; exact (st_rr8 _).2
  exact la_loop l X hr hlk (o := o) (rw := rw) (n := n) (gq := gq) (bb := bb) (ad := ad) (ro := ro) (mo := mo) (r := r) ⟨hn, hro, hgq⟩ (L - 2) 2 (fun _ _ _ => 0) (fun _ _ => 0) (0, fun _ => 0, fun _ => 0) H locs ls (Nat.le_refl _) (by decide) la_I0 hP hD hS (lv_sub hl [3, 2, 1, 0] rfl)
-- ===== YOUR PART ENDS =====
set_option maxHeartbeats 4000000 in
theorem lw_walk (l : Launch) (b : Addr) (xs : List Int32) : MetFree l x (headSpec (Jvm.Cond.code x code maxLocals ret :: tables_1) room_1) (lw_P b xs) (fun _ _ _ _ _ => True) lw_Q := by
  refine MetFree.of_bodyS (code := code) (maxLocals := maxLocals) (ret := ret) (by decide) ?_ ?_
  · intro args s m h hn
    obtain ⟨meth, c, h1, h2, h3, h4, h5, h6, -, -⟩ := Cond.code_spec hn (atoms_spec (ws := Jvm.Cond.code x code maxLocals ret :: tables_1) h _ List.mem_cons_self)
    exact ⟨meth, c, h1, h2, h3, h4, h5, h6⟩
  · intro p e s m args below meth c s₁ B hml0 hP _
    obtain ⟨rfl, hx, hbd, hgv⟩ := hP
    obtain ⟨scr, harrAt, hlist, hof, hsmall⟩ := hx
    obtain ⟨hcb, hkn, -, -⟩ := State.arrayAt?_spec harrAt
    have hown : s.vm.findClass R_law = some m.cls := findClass_of_methodNamed B.named
    have hts0 : ∀ c ∈ (Jvm.Cond.code x code maxLocals ret :: tables_1), c.before #[Value.ref b] s = true := atoms_spec (ws := Jvm.Cond.code x code maxLocals ret :: tables_1) B.pre
    have hts : ∀ w ∈ lw_tbl, w.before #[Value.ref b] s = true := k2_hts_sels lw_privs (fun w hw => hts0 w (List.mem_cons_of_mem _ hw)) lw_privs_ok
    have hml : c.maxLocals = 4 := B.maxLocals_eq (hts0 _ List.mem_cons_self)
    have X₀ : Stand p l e room_1 s m #[Value.ref b] below meth c s₁ [] 0 0 := Stand.of_body B
    have hh0 : s₁.heap = s.heap := by rw [B.state]; rfl
    have hsz : scr.slots.size = xs.length := by rw [← Array.length_toList, hlist, List.length_map]
    have hval : ∀ j : Nat, j < xs.length → scr.slots[j]? = some (.int (xs.getD j 0)) := fun j hj => by
      rw [← Array.getElem?_toList, hlist]
      simp [hj]
    have hbl : b < s.heap.size := (Array.getElem?_eq_some_iff.mp hcb).1
    have hX : va_X b xs.length (fun j => xs.getD j 0) s s.heap := ⟨scr, hcb, hof, hkn, hsz, hval⟩
    have K : W p l e room_1 s m #[Value.ref b] below meth c s₁.heap [] 0 0 (lw_Z below #[Value.ref b] s) (entryFrame m ([Value.ref b] : List Value).toArray 4) := by
      rw [hh0]
      exact whole_start l hbd ⟨B.exec, B.bytes, B.returns, hml, hown, hts, hX, hbl, B.notSynchronized, hgv⟩
    obtain ⟨t, a1, o, b1, b2, b3⟩ := K s₁ rfl X₀
    exact ⟨t, o, a1, b1, b2, b3⟩
theorem lw_pre_spec {args : Array Value} {s : State} (h : (Jvm.Cond.and given_1 narrow_1).before args s = true) (hr : rest_1_c.before args s = true) : ∃ (b : Addr) (xs : List Int32), lw_P b xs args s := by
  have hs := flat_of_before _ h
  have hq := flat_of_before _ hr
  have hc : (Cond.count 1).before args s = true := hs _ (by decide +kernel)
  have harr : (Cond.arrayOf (.arg 0) .int).before args s = true := hs _ (by decide +kernel)
  have hle : (Cond.le (.length (.arg 0)) (.int 3586)).before args s = true := hs _ (by decide +kernel)
  have hlen : (Cond.isInt (.length (.arg 0))).before args s = true := hq _ (by decide +kernel)
  have hall : (Cond.all (.arg 0) (.isInt (.elem (.arg 0) (.index 0)))).before args s = true := hq _ (by decide +kernel)
  obtain ⟨b, xs, hb, hx⟩ := State.ints_of_pre rfl harr hlen hall
  have hsm : xs.length < 2 ^ 31 := hx.choose_spec.2.2.2
  have hev : (Term.length (.arg 0)).eval args s none [] s = some (.int xs.length.toInt32) := hx.length_eval hb
  have hv := Cond.le_ints hev (show (Term.int 3586).eval args s none [] s = some (.int 3586) from rfl)
  have hd : xs.length.toInt32 ≤ 3586 := by
    simpa [Cond.before, Cond.holds, hv] using hle
  have hN : xs.length ≤ 3586 := (Int32.ofNat_le_ofNat hsm (by decide)).mp (show Int32.ofNat xs.length ≤ Int32.ofNat 3586 from hd)
  exact ⟨b, xs, Cond.one_arg hc (show args[0]? = some (.ref b) from hb), hx, hN, h⟩
theorem lw_comes (l : Launch) : Comes l x (Jvm.Cond.code x code maxLocals ret :: tables_1) room_1 (fun tb e args s => Calls_1 tb e args s ∧ rest_1 tb e args s ∧ Pre_1 tb e args s)
    (fun _ _ args s o t => lw_Q args s o t) := by
  intro p e ha hc hk s m args below hf hfit hheap happ hpre
  obtain ⟨b, xs, hP⟩ := lw_pre_spec hpre.2.2 hpre.2.1
  obtain ⟨k, o, h1, h2, h3, hQ⟩ := lw_walk l b xs p e ha hc hk s m args below hf ((Spec.applies_iff_loose hf).mp happ).1 hP trivial
  exact ⟨k, o, h1, h2, h3, hQ⟩
theorem lw_frame {s t : State} {o : Outcome} {args : Array Value} (h : Framed s o t [] 600000 7302250) :
    Framed s o t (fieldLocs frame_1_writes args s ++ arrayLocs frame_1_arrays args s ++ staticLocs frame_1_statics s) 600000 7302250 := h
theorem lw_limb (L : Cond) (hL : ∀ (args : Array Value) (s t : State), L.after args s (.returned (some (.int 1))) t = true) :
    ArmFor flags0 classFile x code maxLocals ret World_1 tables_1 room_1 Calls_1 rest_1 Pre_1
      (fun tb e a s o t => postC L tb e a s o t ∧ Framed s o t (fieldLocs frame_1_writes a s ++ arrayLocs frame_1_arrays a s ++ staticLocs frame_1_statics s) 600000 7302250) := by
  intro l _ _ _ p e ha hc hk s m args below hf hfit hheap happ hpre
  obtain ⟨k, o, h1, h2, h3, rfl, hF⟩ := lw_comes l p e ha hc hk s m args below hf hfit hheap happ hpre
  exact ⟨k, _, h1, h2, h3, hL args s _, lw_frame hF⟩
theorem i_vc : Claimed_1_1 ∧ Claimed_1_2 := ⟨lw_limb limb_1_1 (fun args s t => by simp [limb_1_1, Cond.after, Cond.holds, Cond.value]), lw_limb limb_1_2 (fun args s t => Cond.after_iff.mpr (by
  first | (rw [show limb_1_2 = Cond.eq .result (.int 1) from rfl, Cond.eq_ints (x := 1) (y := 1) rfl rfl]; simp; done) | (simp [limb_1_2, Cond.value, Term.eval]; done)))⟩
