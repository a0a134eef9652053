def st_ce (L : Nat) (xs : Nat → Int32) (k : Nat) : Int32 := if k < L then xs k else 0
set_option maxHeartbeats 4000000 in
set_option maxRecDepth 100000 in
/-- cell(script, k): what stands there, or 0 -/
theorem c_cell (l : Launch) (bs L : Nat) (xs : Nat → Int32) (k : Nat) (hk : k < 2) (hL : L ≤ 3586) (sz : Nat) : Met l yL_cell wsL_cell ({ frames := 0, cells := 0, slots := 0, locals := 0 } : Room) (va_Pc [.ref bs, .int (nI k)] (fun U => U.heap.size = sz ∧ va_X bs L xs U U.heap)) (va_Qi (fun (a : Int32) (_ : Unit) => a = st_ce L xs k) (fun _ _ => True) (fun q => sz ≤ q)) 0 0 (fun q => sz ≤ q) := by
  refine Met.ofW (cc := cL_cell) (maxL := 2) (ret := (some .int)) (by decide) rfl ?_
  intro p e s m args below meth c s₁ B hml hv
  obtain ⟨rfl, hsz, hX⟩ := hv
  subst hsz
  have hx := B.exec
  have hb := B.bytes
  have hr := B.returns
  have hlk := B.notSynchronized
  have hbl : bs < s.heap.size := by obtain ⟨scr, h1, -⟩ := hX; exact (Array.getElem?_eq_some_iff.mp h1).1
  have hbA : ¬ (fun q : Nat => s.heap.size ≤ q) bs := fun q => absurd q (by show ¬ s.heap.size ≤ bs; omega)
  have hS : va_S (fun q : Nat => s.heap.size ≤ q) s.heap s.heap [] := va_S.rf
  have hl := lv_entry ([.ref bs, .int (nI k)]) (n := 2) (Nat.le_of_ble_eq_true rfl)
  rw [lg_entry_eq]
  generalize (lg_sl ([.ref bs, .int (nI k)]) ++ List.replicate (2 - (lg_sl ([.ref bs, .int (nI k)])).length) Slot.unset).toArray = ls at hl ⊢
  have hl : lv_has ls 2 [(0, .ref bs), (1, .int (nI k))] := hl
  refine lv_iload_n hx hb dL_cell_0 rfl (lv_at hl 1 rfl) ?_
  refine lv_aload_n hx hb dL_cell_1 rfl (lv_at hl 0 rfl) ?_
  refine va_slen hx hb hX hbl hbA hS dL_cell_2 ?_
  refine lv_icmp_ge (tgt := 12) hx hb dL_cell_3 (by decide) (fun b3 => ?_) (fun b3 => ?_)
  · have b3 := me_le (a := L) (b := k) (by omega) (by omega) b3
    refine lv_iconst (v := 0) hx hb dL_cell_12 (by decide) ?_
    exact W.iret (v := 0) hx hb hr (fun t ht hW => ⟨⟨0, (), rfl, (if_neg (by omega)).symm, trivial⟩, hS.F ht⟩) hS.2.2 dL_cell_13 hlk
  · have b3 := me_nle (a := L) (b := k) (by omega) (by omega) b3
    refine lv_aload_n hx hb dL_cell_6 rfl (lv_at hl 0 rfl) ?_
    refine lv_iload_n hx hb dL_cell_7 rfl (lv_at hl 1 rfl) ?_
    refine me_sld hx hb hX hbl hbA hS (k) rfl (by omega) (by omega) dL_cell_8 ?_
    refine lv_goto (tgt := 13) hx hb dL_cell_9 (by decide) ?_
    exact W.iret (v := xs k) hx hb hr (fun t ht hW => ⟨⟨xs k, (), rfl, (if_pos b3).symm, trivial⟩, hS.F ht⟩) hS.2.2 dL_cell_13 hlk
set_option maxHeartbeats 4000000 in
set_option maxRecDepth 100000 in
theorem la_cell (l : Launch) {p : Program} {e : Env} {s : State} {m : MethodId} {below : List Frame} {meth : Method} {c : Code} {bs L : Nat} {xs : Nat → Int32} {D : va_G} {cI cZ cR : ClassId} (X : la_C p s m c bs L xs D cI cZ cR) {ws : va_W} {H : Heap} {locs : List Loc} (hP : va_P D vwCl ws H) (hS : va_S (la_A s) s.heap H locs) {pc : Nat} {ls : Array Slot} {rest : List Value} {cells slots k : Nat} {i : Int32} {Q : State → Prop} (hsz : ls.size = 4) (hi : i = nI k) (hk : k < 2) (hr8 : (rest.map fun v => v.category).sum ≤ 8) (hc : cells ≤ 600000) (hs : slots ≤ 7302250) (hdg : decode code pc = .ok (.invokestatic 9, 3))
    (kk : ∀ (H1 : Heap) (locs1 : List Loc), va_P D vwCl ws H1 → va_S (la_A s) s.heap H1 locs1 → W p l e room_1 s m #[Value.ref bs] below meth c H1 locs1 cells slots Q (F0 m (pc + 3) ls (.int (st_ce L xs k) :: rest))) : W p l e room_1 s m #[Value.ref bs] below meth c H locs cells slots Q (F0 m pc ls (.int i :: .ref bs :: rest)) := by
  subst hi
  obtain ⟨hx, hb, hml, hown, hg, hX, hbl, hK, hN, hL⟩ := X
  have hbA : ¬ la_A s bs := fun q => absurd q (by show ¬ s.heap.size ≤ bs; omega)
  refine va_calli (S := Unit) (post := fun (a : Int32) (_ : Unit) => a = st_ce L xs k) (B := fun _ _ => True) (A1 := fun q => H.size ≤ q) (va_runS (As := [.ref bs, .int (nI k)]) (rest := rest) ⟨hx, hb, hml, hown, hg⟩ (c_cell l bs L xs k hk hL H.size) (va_cwS 2 hg (bg_gS (fun _ h => h) bw_2_27 bw_2_28 bw_1_0 bw_2_29) rfl rfl rfl (by decide +kernel) ⟨Nat.le_of_ble_eq_true rfl, Nat.le_of_ble_eq_true rfl⟩) ⟨fun a U g mk q => by obtain ⟨q0, q1, q2⟩ := q; exact ⟨q0, q1, va_X.moved (u := U) (U := U.calling g mk a) (Vm.Alike.refl U.vm) q2⟩, fun U hU hW => ⟨rfl, by rw [hU], va_X.moved hW.alike (by rw [hU]; exact hX.kept (hS.2.1 bs hbl hbA))⟩⟩ rfl rfl hsz rfl (lv_room hr8) hdg ⟨hc, hs⟩) hS (fun q h1 h2 => absurd h2 (by omega)) (fun q h => Nat.le_trans hS.1 h) (fun r' u t H1 locs1 ht hvm hp hB hz hk1 hS1 => ?_)
  have hp : r' = st_ce L xs k := hp
  subst hp
  exact kk H1 locs1 (hP.kept (fun j q hq => hk1 q.1 (hP j q hq).lt (by show ¬ H.size ≤ q.1; have := (hP j q hq).lt; omega))) hS1
theorem me_inc7 (j : Nat) : nI j + Int32.ofInt 7 = nI (j + 7) := by rw [show Int32.ofInt 7 = nI 7 by decide]; exact nI_add j 7
set_option maxHeartbeats 4000000 in
set_option maxRecDepth 100000 in
theorem la_loop (l : Launch) {p : Program} {e : Env} {s : State} {m : MethodId} {below : List Frame} {meth : Method} {c : Code} {bs L : Nat} {xs : Nat → Int32} {D : va_G} {cI cZ cR : ClassId} (X : la_C p s m c bs L xs D cI cZ cR) (hr : meth.sig.returnType = ret) (hlk : meth.locks = false) {o rw n : Nat} {gq : Nat → Option Nat} {bb : Nat → Nat} {ad : Nat → Nat → Nat} {ro mo : Nat} {r : Nat → Nat} (G : la_G n ro gq ad) : ∀ (d ii : Nat) (C : Nat → st_T) (M : st_T) (tm : tm_T) (H : Heap) (locs : List Loc) (ls : Array Slot), L - ii ≤ d → ii ≤ 4000 → la_I n ro C M tm ii → va_P D vwCl (la_W o rw n gq bb ad ro mo r cI cZ cR C M C M tm) H → va_D (la_A s) (la_W o rw n gq bb ad ro mo r cI cZ cR C M C M tm) → va_S (la_A s) s.heap H locs → lv_has ls 4 [(0, .ref bs), (1, .ref o), (2, .ref mo), (3, .int (nI ii))] → W p l e room_1 s m #[Value.ref bs] below meth c H locs 62 1255 (lw_Z below #[Value.ref bs] s) (F0 m 38 ls []) := by
  intro d
  induction d with
  | zero =>
    intro ii C M tm H locs ls hd hi4 hI hP hD hS hl
    obtain ⟨hx, hb, hml, hown, hg, hX, hbl, hK, hN, hL⟩ := X
    have hbA : ¬ la_A s bs := fun q => absurd q (by show ¬ s.heap.size ≤ bs; omega)
    refine lv_iload_n hx hb dL_law_38 rfl (lv_at hl 3 rfl) ?_
    refine lv_aload_n hx hb dL_law_39 rfl (lv_at hl 0 rfl) ?_
    refine va_slen hx hb hX hbl hbA hS dL_law_40 ?_
    refine lv_bipush (v := 7) hx hb dL_law_41 (by decide) ?_
    refine lv_isub hx hb dL_law_43 ?_
    refine lv_icmp_gt (tgt := 633) hx hb dL_law_44 (by decide) (fun b44 => ?_) (fun b44 => ?_)
    · refine lv_iconst (v := 1) hx hb dL_law_633 (by decide) ?_
      refine va_forget hS.2.2 ?_
      refine W.widen (k := 600000) (n := 7302250) (by decide) (by decide) ?_
      exact lw_ret hx hb hr hlk dL_law_634
    · exact absurd ((me_lp (i := ii) (L := L) (by omega) (by omega)).mpr (by omega)) b44
  | succ d ih =>
    intro ii C M tm H locs ls hd hi4 hI hP hD hS hl
    have X0 := X
    obtain ⟨hx, hb, hml, hown, hg, hX, hbl, hK, hN, hL⟩ := X
    have hbA : ¬ la_A s bs := fun q => absurd q (by show ¬ s.heap.size ≤ bs; omega)
    refine lv_iload_n hx hb dL_law_38 rfl (lv_at hl 3 rfl) ?_
    refine lv_aload_n hx hb dL_law_39 rfl (lv_at hl 0 rfl) ?_
    refine va_slen hx hb hX hbl hbA hS dL_law_40 ?_
    refine lv_bipush (v := 7) hx hb dL_law_41 (by decide) ?_
    refine lv_isub hx hb dL_law_43 ?_
    refine lv_icmp_gt (tgt := 633) hx hb dL_law_44 (by decide) (fun b44 => ?_) (fun b44 => ?_)
    · refine lv_iconst (v := 1) hx hb dL_law_633 (by decide) ?_
      refine va_forget hS.2.2 ?_
      refine W.widen (k := 600000) (n := 7302250) (by decide) (by decide) ?_
      exact lw_ret hx hb hr hlk dL_law_634
    · have hi : ii + 7 ≤ L := Nat.le_of_not_lt fun q => b44 ((me_lp (i := ii) (L := L) (by omega) (by omega)).mpr q)
      have kk : ∀ (C1 : Nat → st_T) (M1 : st_T) (t1 : tm_T) (H1 : Heap) (locs1 : List Loc), la_I n ro C1 M1 t1 (ii + 7) → va_P D vwCl (la_W o rw n gq bb ad ro mo r cI cZ cR C1 M1 C1 M1 t1) H1 → va_D (la_A s) (la_W o rw n gq bb ad ro mo r cI cZ cR C1 M1 C1 M1 t1) → va_S (la_A s) s.heap H1 locs1 → W p l e room_1 s m #[Value.ref bs] below meth c H1 locs1 62 1255 (lw_Z below #[Value.ref bs] s) (F0 m 627 ls []) := by
        intro C1 M1 t1 H1 locs1 hI1 hP1 hD1 hS1
        refine lv_iinc (k := 3) (v := nI (ii + 7)) hx hb dL_law_627 hl rfl (me_inc7 ii) (by decide) rfl (fun ls hl => ?_)
        have hl : lv_has ls 4 [(3, .int (nI (ii + 7))), (0, .ref bs), (1, .ref o), (2, .ref mo)] := hl
        refine lv_goto (tgt := 38) hx hb dL_law_630 (by decide) ?_
        exact ih (ii + 7) C1 M1 t1 H1 locs1 ls (by omega) (by omega) hI1 hP1 hD1 hS1 (lv_sub hl [1, 2, 3, 0] rfl)
      refine lv_aload_n hx hb dL_law_47 rfl (lv_at hl 0 rfl) ?_
      refine lv_iload_n hx hb dL_law_48 rfl (lv_at hl 3 rfl) ?_
      refine me_sld hx hb hX hbl hbA hS (ii) rfl (by omega) (by omega) dL_law_49 ?_
      refine lv_bipush (v := 31) hx hb dL_law_50 (by decide) ?_
      refine lv_iand hx hb dL_law_52 ?_
      obtain ⟨j, hj, ej⟩ := pk_andE (xs ii) (m := 31) 5 (by decide)
      refine me_t (x := xs ii &&& 31) (y := nI j) ej ?_
      rcases (show j = 0 ∨ j = 1 ∨ j = 2 ∨ j = 3 ∨ j = 4 ∨ j = 5 ∨ j = 6 ∨ j = 7 ∨ j = 8 ∨ j = 9 ∨ j = 10 ∨ j = 11 ∨ j = 12 ∨ j = 13 ∨ j = 14 ∨ j = 15 ∨ j = 16 ∨ 17 ≤ j by omega) with rfl | rfl | rfl | rfl | rfl | rfl | rfl | rfl | rfl | rfl | rfl | rfl | rfl | rfl | rfl | rfl | rfl | hj17
      · refine lv_tableIn (off := 83) (tgt := 136) hx hb dL_law_53 (by decide) (by decide) (by decide) (by decide) ?_
        exact law_0 l X0 G hI hi hP hD hS hl kk
      · refine lv_tableIn (off := 158) (tgt := 211) hx hb dL_law_53 (by decide) (by decide) (by decide) (by decide) ?_
        exact law_1 l X0 G hI hi hP hD hS hl kk
      · refine lv_tableIn (off := 191) (tgt := 244) hx hb dL_law_53 (by decide) (by decide) (by decide) (by decide) ?_
        exact law_2 l X0 G hI hi hP hD hS hl kk
      · refine lv_tableIn (off := 214) (tgt := 267) hx hb dL_law_53 (by decide) (by decide) (by decide) (by decide) ?_
        exact law_3 l X0 G hI hi hP hD hS hl kk
      · refine lv_tableIn (off := 247) (tgt := 300) hx hb dL_law_53 (by decide) (by decide) (by decide) (by decide) ?_
        exact law_4 l X0 G hI hi hP hD hS hl kk
      · refine lv_tableIn (off := 280) (tgt := 333) hx hb dL_law_53 (by decide) (by decide) (by decide) (by decide) ?_
        exact law_5 l X0 G hI hi hP hD hS hl kk
      · refine lv_tableIn (off := 303) (tgt := 356) hx hb dL_law_53 (by decide) (by decide) (by decide) (by decide) ?_
        exact law_6 l X0 G hI hi hP hD hS hl kk
      · refine lv_tableIn (off := 326) (tgt := 379) hx hb dL_law_53 (by decide) (by decide) (by decide) (by decide) ?_
        exact law_7 l X0 G hI hi hP hD hS hl kk
      · refine lv_tableIn (off := 337) (tgt := 390) hx hb dL_law_53 (by decide) (by decide) (by decide) (by decide) ?_
        exact law_8 l X0 G hI hi hP hD hS hl kk
      · refine lv_tableIn (off := 370) (tgt := 423) hx hb dL_law_53 (by decide) (by decide) (by decide) (by decide) ?_
        exact law_9 l X0 G hI hi hP hD hS hl kk
      · refine lv_tableIn (off := 393) (tgt := 446) hx hb dL_law_53 (by decide) (by decide) (by decide) (by decide) ?_
        exact law_10 l X0 G hI hi hP hD hS hl kk
      · refine lv_tableIn (off := 416) (tgt := 469) hx hb dL_law_53 (by decide) (by decide) (by decide) (by decide) ?_
        exact law_11 l X0 G hI hi hP hD hS hl kk
      · refine lv_tableIn (off := 459) (tgt := 512) hx hb dL_law_53 (by decide) (by decide) (by decide) (by decide) ?_
        exact law_12 l X0 G hI hi hP hD hS hl kk
      · refine lv_tableIn (off := 492) (tgt := 545) hx hb dL_law_53 (by decide) (by decide) (by decide) (by decide) ?_
        exact law_13 l X0 G hI hi hP hD hS hl kk
      · refine lv_tableIn (off := 515) (tgt := 568) hx hb dL_law_53 (by decide) (by decide) (by decide) (by decide) ?_
        exact law_14 l X0 G hI hi hP hD hS hl kk
      · refine lv_tableIn (off := 538) (tgt := 591) hx hb dL_law_53 (by decide) (by decide) (by decide) (by decide) ?_
        exact law_15 l X0 G hI hi hP hD hS hl kk
      · refine lv_tableIn (off := 561) (tgt := 614) hx hb dL_law_53 (by decide) (by decide) (by decide) (by decide) ?_
        exact law_16 l X0 G hI hi hP hD hS hl kk
      · refine lv_tableOut (tgt := 627) hx hb dL_law_53 (Or.inr (by rw [nI_toInt (by omega)]; omega)) (by decide) ?_
        exact kk C M tm H locs (la_Isame hI hI.2.1 (by omega)) hP hD hS
set_option maxRecDepth 20000 in
theorem nt_0 : Cond.methodLinkNest RX0 43 yX2_writeBack "StoreBufferCores" ∈ lw_tbl := List.mem_append_right _ (List.mem_append_left _ (List.mem_of_getElem? (i := 195) (by decide +kernel)))
set_option maxRecDepth 20000 in
theorem nt_1 : Cond.methodLinkNest RX0 37 yX2_write "StoreBufferCores" ∈ lw_tbl := List.mem_append_right _ (List.mem_append_left _ (List.mem_of_getElem? (i := 194) (by decide +kernel)))
set_option maxRecDepth 20000 in
theorem nt_2 : Cond.methodLinkNest RX1 52 yX0_isFull "StoreBufferCores" ∈ lw_tbl := List.mem_append_right _ (List.mem_append_left _ (List.mem_of_getElem? (i := 137) (by decide +kernel)))
set_option maxRecDepth 20000 in
theorem nt_3 : Cond.fieldLinkNest RX1 56 "StoreBufferCores$Buffer" "count" "I" "StoreBufferCores" ∈ lw_tbl := List.mem_append_right _ (List.mem_append_left _ (List.mem_of_getElem? (i := 56) (by decide +kernel)))
set_option maxRecDepth 20000 in
theorem nt_4 : Cond.fieldLinkNest RX1 59 "StoreBufferCores$SharedMemory" "words" "[I" "StoreBufferCores" ∈ lw_tbl := List.mem_append_right _ (List.mem_append_left _ (List.mem_of_getElem? (i := 21) (by decide +kernel)))
set_option maxRecDepth 20000 in
theorem nt_5 : Cond.methodLinkNest RX1 76 yX2_write "StoreBufferCores" ∈ lw_tbl := List.mem_append_right _ (List.mem_append_left _ (List.mem_of_getElem? (i := 162) (by decide +kernel)))
set_option maxRecDepth 20000 in
theorem nt_6 : Cond.methodLinkNest RX1 64 yX0_newestValue "StoreBufferCores" ∈ lw_tbl := List.mem_append_right _ (List.mem_append_left _ (List.mem_of_getElem? (i := 149) (by decide +kernel)))
set_option maxRecDepth 20000 in
theorem nt_7 : Cond.methodLinkNest RX1 68 yX0_append "StoreBufferCores" ∈ lw_tbl := List.mem_append_right _ (List.mem_append_left _ (List.mem_of_getElem? (i := 153) (by decide +kernel)))
set_option maxRecDepth 20000 in
theorem nt_8 : Cond.fieldLinkNest RX3 51 "StoreBufferCores$Core" "buffer" "LStoreBufferCores$Buffer;" "StoreBufferCores" ∈ lw_tbl := List.mem_append_right _ (List.mem_append_left _ (List.mem_of_getElem? (i := 74) (by decide +kernel)))
set_option maxRecDepth 20000 in
theorem nt_9 : Cond.fieldLinkNest RX3 64 "StoreBufferCores$Buffer" "count" "I" "StoreBufferCores" ∈ lw_tbl := List.mem_append_right _ (List.mem_append_left _ (List.mem_of_getElem? (i := 57) (by decide +kernel)))
set_option maxRecDepth 20000 in
theorem nt_10 : Cond.methodLinkNest RX3 35 yX1_setInstruction "StoreBufferCores" ∈ lw_tbl := List.mem_append_right _ (List.mem_append_left _ (List.mem_of_getElem? (i := 117) (by decide +kernel)))
set_option maxRecDepth 20000 in
theorem nt_11 : Cond.fieldLinkNest RX3 39 "StoreBufferCores$Core" "recoveryEntry" "I" "StoreBufferCores" ∈ lw_tbl := List.mem_append_right _ (List.mem_append_left _ (List.mem_of_getElem? (i := 77) (by decide +kernel)))
set_option maxRecDepth 20000 in
theorem nt_12 : Cond.methodLinkNest RX3 43 yX1_doInstruction "StoreBufferCores" ∈ lw_tbl := List.mem_append_right _ (List.mem_append_left _ (List.mem_of_getElem? (i := 129) (by decide +kernel)))
set_option maxRecDepth 20000 in
theorem nt_13 : Cond.methodLinkNest RX3 55 yX0_mayLeave "StoreBufferCores" ∈ lw_tbl := List.mem_append_right _ (List.mem_append_left _ (List.mem_of_getElem? (i := 178) (by decide +kernel)))
set_option maxRecDepth 20000 in
theorem nt_14 : Cond.methodLinkNest RX3 60 yX0_letOut "StoreBufferCores" ∈ lw_tbl := List.mem_append_right _ (List.mem_append_left _ (List.mem_of_getElem? (i := 190) (by decide +kernel)))
set_option maxRecDepth 20000 in
theorem nt_15 : Cond.methodLinkNest RX3 70 yX2_writeBack "StoreBufferCores" ∈ lw_tbl := List.mem_append_right _ (List.mem_append_left _ (List.mem_of_getElem? (i := 214) (by decide +kernel)))
set_option maxRecDepth 20000 in
theorem nt_16 : Cond.fieldLinkNest RX3 79 "StoreBufferCores$Core" "registers" "[I" "StoreBufferCores" ∈ lw_tbl := List.mem_append_right _ (List.mem_append_left _ (List.mem_of_getElem? (i := 68) (by decide +kernel)))
set_option maxRecDepth 20000 in
theorem nt_17 : Cond.fieldLinkNest RX3 83 "StoreBufferCores$Core" "pc" "I" "StoreBufferCores" ∈ lw_tbl := List.mem_append_right _ (List.mem_append_left _ (List.mem_of_getElem? (i := 76) (by decide +kernel)))
set_option maxRecDepth 20000 in
theorem nt_18 : Cond.fieldLinkNest RX3 86 "StoreBufferCores$Buffer" "kinds" "[I" "StoreBufferCores" ∈ lw_tbl := List.mem_append_right _ (List.mem_append_left _ (List.mem_of_getElem? (i := 50) (by decide +kernel)))
set_option maxRecDepth 20000 in
theorem nt_19 : Cond.fieldLinkNest RX3 89 "StoreBufferCores$Buffer" "targets" "[I" "StoreBufferCores" ∈ lw_tbl := List.mem_append_right _ (List.mem_append_left _ (List.mem_of_getElem? (i := 52) (by decide +kernel)))
set_option maxRecDepth 20000 in
theorem nt_20 : Cond.fieldLinkNest RX3 92 "StoreBufferCores$Buffer" "values" "[I" "StoreBufferCores" ∈ lw_tbl := List.mem_append_right _ (List.mem_append_left _ (List.mem_of_getElem? (i := 54) (by decide +kernel)))
set_option maxRecDepth 20000 in
theorem nt_21 : Cond.fieldLinkNest RX3 98 "StoreBufferCores$SharedMemory" "words" "[I" "StoreBufferCores" ∈ lw_tbl := List.mem_append_right _ (List.mem_append_left _ (List.mem_of_getElem? (i := 22) (by decide +kernel)))
set_option maxRecDepth 20000 in
theorem nt_22 : Cond.methodLinkNest RX3 101 yX0_newestValue "StoreBufferCores" ∈ lw_tbl := List.mem_append_right _ (List.mem_append_right _ (List.mem_of_getElem? (i := 10) (by decide +kernel)))
set_option maxRecDepth 20000 in
theorem nt_23 : Cond.fieldLinkNest RX3 105 "StoreBufferCores$SharedMemory" "stored" "[I" "StoreBufferCores" ∈ lw_tbl := List.mem_append_right _ (List.mem_append_left _ (List.mem_of_getElem? (i := 24) (by decide +kernel)))
set_option maxRecDepth 20000 in
theorem nt_24 : Cond.fieldLinkNest RX3 108 "StoreBufferCores$SharedMemory" "unwritten" "[Z" "StoreBufferCores" ∈ lw_tbl := List.mem_append_right _ (List.mem_append_left _ (List.mem_of_getElem? (i := 26) (by decide +kernel)))
set_option maxRecDepth 20000 in
theorem nt_25 : Cond.methodLinkNest RX3 73 yX2_fallBackToStorage "StoreBufferCores" ∈ lw_tbl := List.mem_append_right _ (List.mem_append_left _ (List.mem_of_getElem? (i := 219) (by decide +kernel)))
set_option maxRecDepth 20000 in
theorem nt_26 : Cond.methodLinkNest RX3 76 yX1_beginAgain "StoreBufferCores" ∈ lw_tbl := List.mem_append_right _ (List.mem_append_left _ (List.mem_of_getElem? (i := 223) (by decide +kernel)))
set_option maxRecDepth 20000 in
theorem nt_27 : Cond.methodLinkNest RX1 29 yX0_init "StoreBufferCores" ∈ lw_tbl := List.mem_append_right _ (List.mem_append_left _ (List.mem_of_getElem? (i := 45) (by decide +kernel)))
set_option maxRecDepth 20000 in
theorem nt_28 : Cond.methodLinkNest RX3 11 yX2_init "StoreBufferCores" ∈ lw_tbl := List.mem_append_right _ (List.mem_append_left _ (List.mem_of_getElem? (i := 16) (by decide +kernel)))
set_option maxRecDepth 20000 in
theorem nt_29 : Cond.methodLinkNest RX3 22 yX1_init "StoreBufferCores" ∈ lw_tbl := List.mem_append_right _ (List.mem_append_left _ (List.mem_of_getElem? (i := 39) (by decide +kernel)))
set_option maxRecDepth 20000 in
theorem nt_ao : Cond.arrayOver (.object "StoreBufferCores$Core") ∈ lw_tbl := List.mem_append_right _ (List.mem_append_left _ (List.mem_of_getElem? (i := 37) (by decide +kernel)))
theorem nt_all : ∀ w ∈ ne_W, w ∈ lw_tbl := by
  unfold ne_W
  exact List.forall_mem_cons.mpr ⟨nt_0, List.forall_mem_cons.mpr ⟨nt_1, List.forall_mem_cons.mpr ⟨nt_2, List.forall_mem_cons.mpr ⟨nt_3, List.forall_mem_cons.mpr ⟨nt_4, List.forall_mem_cons.mpr ⟨nt_5, List.forall_mem_cons.mpr ⟨nt_6, List.forall_mem_cons.mpr ⟨nt_7, List.forall_mem_cons.mpr ⟨nt_8, List.forall_mem_cons.mpr ⟨nt_9, List.forall_mem_cons.mpr ⟨nt_10, List.forall_mem_cons.mpr ⟨nt_11, List.forall_mem_cons.mpr ⟨nt_12, List.forall_mem_cons.mpr ⟨nt_13, List.forall_mem_cons.mpr ⟨nt_14, List.forall_mem_cons.mpr ⟨nt_15, List.forall_mem_cons.mpr ⟨nt_16, List.forall_mem_cons.mpr ⟨nt_17, List.forall_mem_cons.mpr ⟨nt_18, List.forall_mem_cons.mpr ⟨nt_19, List.forall_mem_cons.mpr ⟨nt_20, List.forall_mem_cons.mpr ⟨nt_21, List.forall_mem_cons.mpr ⟨nt_22, List.forall_mem_cons.mpr ⟨nt_23, List.forall_mem_cons.mpr ⟨nt_24, List.forall_mem_cons.mpr ⟨nt_25, List.forall_mem_cons.mpr ⟨nt_26, List.forall_mem_cons.mpr ⟨nt_27, List.forall_mem_cons.mpr ⟨nt_28, List.forall_mem_cons.mpr ⟨nt_29, fun _ h => absurd h List.not_mem_nil⟩⟩⟩⟩⟩⟩⟩⟩⟩⟩⟩⟩⟩⟩⟩⟩⟩⟩⟩⟩⟩⟩⟩⟩⟩⟩⟩⟩⟩⟩
theorem ne_start {bs : Nat} {s : State} (hts : ∀ w ∈ lw_tbl, w.before #[Value.ref bs] s = true) : ne_E s := ⟨fun w hw => va_Nw.of (ne_W_tab w hw) (hts w (nt_all w hw)), va_AO.of (hts _ nt_ao)⟩
theorem bg_start {bs : Nat} {s : State} (hts : ∀ w ∈ lw_tbl, w.before #[Value.ref bs] s = true) : ∀ w ∈ bg, w.before #[Value.ref bs] s = true := fun w h => hts w (List.mem_filter.mp h).1
theorem la_K0 {bs : Nat} {s : State} (hg : ∀ w ∈ bg, w.before #[Value.ref bs] s = true) (hN : ne_E s) : ∃ (D : va_G) (cI cZ cR : ClassId), va_K D vwCl (me_TYS cI cZ cR) s := by
  obtain ⟨c0, i0, k0⟩ := u_known (C := RX0) (T := TX0) (N := 4) hg inX0 (hg _ bw_1_44)
  obtain ⟨c1, i1, k1⟩ := u_known (C := RX1) (T := TX1) (N := 8) hg inX1 (hg _ bw_1_38)
  obtain ⟨c2, i2, k2⟩ := u_known (C := RX2) (T := TX2) (N := 3) hg inX2 (hg _ bw_1_15)
  obtain ⟨c3, i3, k3⟩ := u_known (C := RX3) (T := TX3) (N := 2) hg inX3 (hg _ bw_1_7)
  obtain ⟨c4, i4, k4⟩ := u_known (C := RX4) (T := TX4) (N := 18) hg inX4 (hg _ bw_2_31)
  obtain ⟨cI, kI, pI, f1, f2, f3⟩ := Cond.arrayClass_spec (hg _ bw_1_34)
  obtain ⟨cZ, kZ, pZ, g1, g2, g3⟩ := Cond.arrayClass_spec (hg _ bw_1_35)
  obtain ⟨comp, cR, kR, h1, h2, h3, h4, h5⟩ := Cond.arrayOver_spec (ne_AO hN)
  refine ⟨((fun k => match k with | 0 => c0 | 1 => c1 | 2 => c2 | 3 => c3 | _ => c4), (fun k => match k with | 0 => i0 | 1 => i1 | 2 => i2 | 3 => i3 | _ => i4)), cI, cZ, cR, ?_, ?_⟩
  · intro k q hq
    match k, hq with
    | 0, hq => cases hq; exact k0
    | 1, hq => cases hq; exact k1
    | 2, hq => cases hq; exact k2
    | 3, hq => cases hq; exact k3
    | 4, hq => cases hq; exact k4
    | k + 5, hq => simp [vwCl] at hq
  · intro k q hq
    match k, hq with
    | 0, hq => cases hq; exact ⟨fun n z => ⟨fun k h => (by cases h), kI, f2, pI, f3⟩, f1⟩
    | 1, hq => cases hq; exact ⟨fun n z => ⟨fun k h => (by cases h), kZ, g2, pZ, g3⟩, g1⟩
    | 2, hq => cases hq; exact ⟨fun n z => ⟨fun k h => (by cases h), kR, h3, comp, h4⟩, kR, comp, h3, h4, h1, h5⟩
    | k + 3, hq => simp [me_TYS] at hq
