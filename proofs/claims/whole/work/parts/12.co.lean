set_option maxHeartbeats 4000000 in
set_option maxRecDepth 100000 in
theorem c_co_setI (l : Launch) (D : va_G) (cI cZ cR : ClassId) (a : Nat → Nat) (K : st_T) (i : Nat) (zi xi yi vi : Int32) (hi : i < 24) : me_V l yX1_setInstruction wsX1_setInstruction ({ frames := 0, cells := 0, slots := 0, locals := 0 } : Room) D (me_TYS cI cZ cR) ([.ref (a 0), .int (nI (i)), .int (zi), .int (xi), .int (yi), .int (vi)] : List Value) (w_co a cI K) (w_co a cI (st_pu K i zi xi yi vi)) := by
  intro sz
  refine me_ent (cc := cX1_setInstruction) (maxL := 6) (ret := none) (Qf := me_QV D (me_TYS cI cZ cR) (w_co a cI (st_pu K i zi xi yi vi))) (by decide) rfl (Nat.le_of_ble_eq_true rfl) ?_
  intro p e s m below meth c A ls hx hb hr hml hts hown hlk hin hP hK hD hN hA hS hl
  have hown : s.vm.findClass RX1 = some m.cls := hown
  have hg : ∀ w9 ∈ bg, w9.before ([.ref (a 0), .int (nI (i)), .int (zi), .int (xi), .int (yi), .int (vi)] : List Value).toArray s = true := fun w9 h9 => hts w9 (List.mem_cons_of_mem _ h9)
  have hl : lv_has ls 6 [(0, .ref (a 0)), (1, .int (nI (i))), (2, .int (zi)), (3, .int (xi)), (4, .int (yi)), (5, .int (vi))] := hl
  have hP : va_P D vwCl [(a 0, .inr (1, [.ref (a 1), .ref (a 2), .ref (a 3), .ref (a 4), .ref (a 5), .ref (a 6), .int (K 5 0), .int (K 6 0)])), (a 1, .inl (cI, 4, .inl (K 4))), (a 2, .inl (cI, 24, .inl (K 0))), (a 3, .inl (cI, 24, .inl (K 1))), (a 4, .inl (cI, 24, .inl (K 2))), (a 5, .inl (cI, 24, .inl (K 3)))] s.heap := hP
  have hD : va_D A [(a 0, .inr (1, [.ref (a 1), .ref (a 2), .ref (a 3), .ref (a 4), .ref (a 5), .ref (a 6), .int (K 5 0), .int (K 6 0)])), (a 1, .inl (cI, 4, .inl (K 4))), (a 2, .inl (cI, 24, .inl (K 0))), (a 3, .inl (cI, 24, .inl (K 1))), (a 4, .inl (cI, 24, .inl (K 2))), (a 5, .inl (cI, 24, .inl (K 3)))] := hD
  refine lv_aload_n hx hb dX1_setInstruction_0 rfl (lv_at hl 0 rfl) ?_
  refine va_get (D := D) (ci := 1) (v := .ref (a 2)) (C := RX1) (T := TX1) (N := 8) hx hb hg inX1 hown hK hP 0 rfl rfl 1 (by decide) (hg _ bw_1_69) (fun _ h9 => h9) rfl dX1_setInstruction_1 ?_
  refine lv_iload_n hx hb dX1_setInstruction_4 rfl (lv_at hl 1 rfl) ?_
  refine lv_iload_n hx hb dX1_setInstruction_5 rfl (lv_at hl 2 rfl) ?_
  refine me_ist hx hb hK hP hD hS 2 0 rfl rfl (i) (rfl) (by omega) (by omega) dX1_setInstruction_6 (fun H locs hP hD hS => ?_)
  have hP : va_P D vwCl [(a 0, .inr (1, [.ref (a 1), .ref (a 2), .ref (a 3), .ref (a 4), .ref (a 5), .ref (a 6), .int (K 5 0), .int (K 6 0)])), (a 1, .inl (cI, 4, .inl (K 4))), (a 2, .inl (cI, 24, .inl (upd (K 0) (i) (zi)))), (a 3, .inl (cI, 24, .inl (K 1))), (a 4, .inl (cI, 24, .inl (K 2))), (a 5, .inl (cI, 24, .inl (K 3)))] H := hP
  have hD : va_D A [(a 0, .inr (1, [.ref (a 1), .ref (a 2), .ref (a 3), .ref (a 4), .ref (a 5), .ref (a 6), .int (K 5 0), .int (K 6 0)])), (a 1, .inl (cI, 4, .inl (K 4))), (a 2, .inl (cI, 24, .inl (upd (K 0) (i) (zi)))), (a 3, .inl (cI, 24, .inl (K 1))), (a 4, .inl (cI, 24, .inl (K 2))), (a 5, .inl (cI, 24, .inl (K 3)))] := hD
  refine lv_aload_n hx hb dX1_setInstruction_7 rfl (lv_at hl 0 rfl) ?_
  refine va_get (D := D) (ci := 1) (v := .ref (a 3)) (C := RX1) (T := TX1) (N := 8) hx hb hg inX1 hown hK hP 0 rfl rfl 2 (by decide) (hg _ bw_1_70) (fun _ h9 => h9) rfl dX1_setInstruction_8 ?_
  refine lv_iload_n hx hb dX1_setInstruction_11 rfl (lv_at hl 1 rfl) ?_
  refine lv_iload_n hx hb dX1_setInstruction_12 rfl (lv_at hl 3 rfl) ?_
  refine me_ist hx hb hK hP hD hS 3 0 rfl rfl (i) (rfl) (by omega) (by omega) dX1_setInstruction_13 (fun H locs hP hD hS => ?_)
  have hP : va_P D vwCl [(a 0, .inr (1, [.ref (a 1), .ref (a 2), .ref (a 3), .ref (a 4), .ref (a 5), .ref (a 6), .int (K 5 0), .int (K 6 0)])), (a 1, .inl (cI, 4, .inl (K 4))), (a 2, .inl (cI, 24, .inl (upd (K 0) (i) (zi)))), (a 3, .inl (cI, 24, .inl (upd (K 1) (i) (xi)))), (a 4, .inl (cI, 24, .inl (K 2))), (a 5, .inl (cI, 24, .inl (K 3)))] H := hP
  have hD : va_D A [(a 0, .inr (1, [.ref (a 1), .ref (a 2), .ref (a 3), .ref (a 4), .ref (a 5), .ref (a 6), .int (K 5 0), .int (K 6 0)])), (a 1, .inl (cI, 4, .inl (K 4))), (a 2, .inl (cI, 24, .inl (upd (K 0) (i) (zi)))), (a 3, .inl (cI, 24, .inl (upd (K 1) (i) (xi)))), (a 4, .inl (cI, 24, .inl (K 2))), (a 5, .inl (cI, 24, .inl (K 3)))] := hD
  refine lv_aload_n hx hb dX1_setInstruction_14 rfl (lv_at hl 0 rfl) ?_
  refine va_get (D := D) (ci := 1) (v := .ref (a 4)) (C := RX1) (T := TX1) (N := 8) hx hb hg inX1 hown hK hP 0 rfl rfl 3 (by decide) (hg _ bw_1_71) (fun _ h9 => h9) rfl dX1_setInstruction_15 ?_
  refine lv_iload_n hx hb dX1_setInstruction_18 rfl (lv_at hl 1 rfl) ?_
  refine lv_iload hx hb dX1_setInstruction_19 (lv_at hl 4 rfl) ?_
  refine me_ist hx hb hK hP hD hS 4 0 rfl rfl (i) (rfl) (by omega) (by omega) dX1_setInstruction_21 (fun H locs hP hD hS => ?_)
  have hP : va_P D vwCl [(a 0, .inr (1, [.ref (a 1), .ref (a 2), .ref (a 3), .ref (a 4), .ref (a 5), .ref (a 6), .int (K 5 0), .int (K 6 0)])), (a 1, .inl (cI, 4, .inl (K 4))), (a 2, .inl (cI, 24, .inl (upd (K 0) (i) (zi)))), (a 3, .inl (cI, 24, .inl (upd (K 1) (i) (xi)))), (a 4, .inl (cI, 24, .inl (upd (K 2) (i) (yi)))), (a 5, .inl (cI, 24, .inl (K 3)))] H := hP
  have hD : va_D A [(a 0, .inr (1, [.ref (a 1), .ref (a 2), .ref (a 3), .ref (a 4), .ref (a 5), .ref (a 6), .int (K 5 0), .int (K 6 0)])), (a 1, .inl (cI, 4, .inl (K 4))), (a 2, .inl (cI, 24, .inl (upd (K 0) (i) (zi)))), (a 3, .inl (cI, 24, .inl (upd (K 1) (i) (xi)))), (a 4, .inl (cI, 24, .inl (upd (K 2) (i) (yi)))), (a 5, .inl (cI, 24, .inl (K 3)))] := hD
  refine lv_aload_n hx hb dX1_setInstruction_22 rfl (lv_at hl 0 rfl) ?_
  refine va_get (D := D) (ci := 1) (v := .ref (a 5)) (C := RX1) (T := TX1) (N := 8) hx hb hg inX1 hown hK hP 0 rfl rfl 4 (by decide) (hg _ bw_1_72) (fun _ h9 => h9) rfl dX1_setInstruction_23 ?_
  refine lv_iload_n hx hb dX1_setInstruction_26 rfl (lv_at hl 1 rfl) ?_
  refine lv_iload hx hb dX1_setInstruction_27 (lv_at hl 5 rfl) ?_
  refine me_ist hx hb hK hP hD hS 5 0 rfl rfl (i) (rfl) (by omega) (by omega) dX1_setInstruction_29 (fun H locs hP hD hS => ?_)
  have hP : va_P D vwCl [(a 0, .inr (1, [.ref (a 1), .ref (a 2), .ref (a 3), .ref (a 4), .ref (a 5), .ref (a 6), .int (K 5 0), .int (K 6 0)])), (a 1, .inl (cI, 4, .inl (K 4))), (a 2, .inl (cI, 24, .inl (upd (K 0) (i) (zi)))), (a 3, .inl (cI, 24, .inl (upd (K 1) (i) (xi)))), (a 4, .inl (cI, 24, .inl (upd (K 2) (i) (yi)))), (a 5, .inl (cI, 24, .inl (upd (K 3) (i) (vi))))] H := hP
  have hD : va_D A [(a 0, .inr (1, [.ref (a 1), .ref (a 2), .ref (a 3), .ref (a 4), .ref (a 5), .ref (a 6), .int (K 5 0), .int (K 6 0)])), (a 1, .inl (cI, 4, .inl (K 4))), (a 2, .inl (cI, 24, .inl (upd (K 0) (i) (zi)))), (a 3, .inl (cI, 24, .inl (upd (K 1) (i) (xi)))), (a 4, .inl (cI, 24, .inl (upd (K 2) (i) (yi)))), (a 5, .inl (cI, 24, .inl (upd (K 3) (i) (vi))))] := hD
  have hP9 := me_subP (ws' := [(a 0, .inr (1, [.ref (a 1), .ref (a 2), .ref (a 3), .ref (a 4), .ref (a 5), .ref (a 6), .int ((st_pu K i zi xi yi vi) 5 0), .int ((st_pu K i zi xi yi vi) 6 0)])), (a 1, .inl (cI, 4, .inl ((st_pu K i zi xi yi vi) 4))), (a 2, .inl (cI, 24, .inl ((st_pu K i zi xi yi vi) 0))), (a 3, .inl (cI, 24, .inl ((st_pu K i zi xi yi vi) 1))), (a 4, .inl (cI, 24, .inl ((st_pu K i zi xi yi vi) 2))), (a 5, .inl (cI, 24, .inl ((st_pu K i zi xi yi vi) 3)))]) hP [0, 1, 2, 3, 4, 5] rfl
  have hD9 := hD.sub (ws' := [(a 0, .inr (1, [.ref (a 1), .ref (a 2), .ref (a 3), .ref (a 4), .ref (a 5), .ref (a 6), .int ((st_pu K i zi xi yi vi) 5 0), .int ((st_pu K i zi xi yi vi) 6 0)])), (a 1, .inl (cI, 4, .inl ((st_pu K i zi xi yi vi) 4))), (a 2, .inl (cI, 24, .inl ((st_pu K i zi xi yi vi) 0))), (a 3, .inl (cI, 24, .inl ((st_pu K i zi xi yi vi) 1))), (a 4, .inl (cI, 24, .inl ((st_pu K i zi xi yi vi) 2))), (a 5, .inl (cI, 24, .inl ((st_pu K i zi xi yi vi) 3)))]) [0, 1, 2, 3, 4, 5] (by decide) rfl
  exact me_retV hx hb hr hlk hK hS dX1_setInstruction_30 hP9 hD9
set_option maxHeartbeats 4000000 in
set_option maxRecDepth 100000 in
theorem c_co_mustWait (l : Launch) (D : va_G) (cI cZ cR : ClassId) (a : Nat → Nat) (ro : Nat) (K : st_T) (z : Nat) (hh : K 7 0 = nI (st_h K)) (hb1 : st_h K ≤ ro) (hro : ro ≤ 8) (hz : z ≤ 10) : me_I l yX1_mustWait wsX1_mustWait ({ frames := 1, cells := 0, slots := 0, locals := 20 } : Room) D (me_TYS cI cZ cR) ([.ref (a 0), .int (nI (z))] : List Value) (w_co a cI K ++ w_bu a cI ro K) (me_b (st_wq ro K (nI z))) (w_co a cI K ++ w_bu a cI ro K) := by
  intro sz
  refine me_ent (cc := cX1_mustWait) (maxL := 2) (ret := (some .boolean)) (Qf := me_QI D (me_TYS cI cZ cR) (me_b (st_wq ro K (nI z))) (w_co a cI K ++ w_bu a cI ro K)) (by decide) rfl (Nat.le_of_ble_eq_true rfl) ?_
  intro p e s m below meth c A ls hx hb hr hml hts hown hlk hin hP hK hD hN hA hS hl
  have hown : s.vm.findClass RX1 = some m.cls := hown
  have hg : ∀ w9 ∈ bg, w9.before ([.ref (a 0), .int (nI (z))] : List Value).toArray s = true := fun w9 h9 => hts w9 (List.mem_cons_of_mem _ h9)
  have hl : lv_has ls 2 [(0, .ref (a 0)), (1, .int (nI (z)))] := hl
  have hP : va_P D vwCl [(a 0, .inr (1, [.ref (a 1), .ref (a 2), .ref (a 3), .ref (a 4), .ref (a 5), .ref (a 6), .int (K 5 0), .int (K 6 0)])), (a 1, .inl (cI, 4, .inl (K 4))), (a 2, .inl (cI, 24, .inl (K 0))), (a 3, .inl (cI, 24, .inl (K 1))), (a 4, .inl (cI, 24, .inl (K 2))), (a 5, .inl (cI, 24, .inl (K 3))), (a 6, .inr (0, [.ref (a 7), .ref (a 8), .ref (a 9), .int (K 7 0)])), (a 7, .inl (cI, ro, .inl (K 8))), (a 8, .inl (cI, ro, .inl (K 9))), (a 9, .inl (cI, ro, .inl (K 10)))] s.heap := hP
  have hD : va_D A [(a 0, .inr (1, [.ref (a 1), .ref (a 2), .ref (a 3), .ref (a 4), .ref (a 5), .ref (a 6), .int (K 5 0), .int (K 6 0)])), (a 1, .inl (cI, 4, .inl (K 4))), (a 2, .inl (cI, 24, .inl (K 0))), (a 3, .inl (cI, 24, .inl (K 1))), (a 4, .inl (cI, 24, .inl (K 2))), (a 5, .inl (cI, 24, .inl (K 3))), (a 6, .inr (0, [.ref (a 7), .ref (a 8), .ref (a 9), .int (K 7 0)])), (a 7, .inl (cI, ro, .inl (K 8))), (a 8, .inl (cI, ro, .inl (K 9))), (a 9, .inl (cI, ro, .inl (K 10)))] := hD
  rcases (show z = 0 ∨ z = 1 ∨ z = 2 ∨ z = 3 ∨ z = 4 ∨ z = 5 ∨ z = 6 ∨ z = 7 ∨ z = 8 ∨ z = 9 ∨ z = 10 by omega) with rfl | rfl | rfl | rfl | rfl | rfl | rfl | rfl | rfl | rfl | rfl
  · have hl : lv_has ls 2 [(0, .ref (a 0)), (1, .int (nI (0)))] := hl
    refine lv_iload_n hx hb dX1_mustWait_0 rfl (lv_at hl 1 rfl) ?_
    refine lv_tableOut (tgt := 68) hx hb dX1_mustWait_1 (by decide) (by decide) ?_
    refine lv_iconst (v := 0) hx hb dX1_mustWait_68 (by decide) ?_
    have hP9 := me_subP (ws' := [(a 0, .inr (1, [.ref (a 1), .ref (a 2), .ref (a 3), .ref (a 4), .ref (a 5), .ref (a 6), .int (K 5 0), .int (K 6 0)])), (a 1, .inl (cI, 4, .inl (K 4))), (a 2, .inl (cI, 24, .inl (K 0))), (a 3, .inl (cI, 24, .inl (K 1))), (a 4, .inl (cI, 24, .inl (K 2))), (a 5, .inl (cI, 24, .inl (K 3))), (a 6, .inr (0, [.ref (a 7), .ref (a 8), .ref (a 9), .int (K 7 0)])), (a 7, .inl (cI, ro, .inl (K 8))), (a 8, .inl (cI, ro, .inl (K 9))), (a 9, .inl (cI, ro, .inl (K 10)))]) hP [0, 1, 2, 3, 4, 5, 6, 7, 8, 9] rfl
    have hD9 := hD.sub (ws' := [(a 0, .inr (1, [.ref (a 1), .ref (a 2), .ref (a 3), .ref (a 4), .ref (a 5), .ref (a 6), .int (K 5 0), .int (K 6 0)])), (a 1, .inl (cI, 4, .inl (K 4))), (a 2, .inl (cI, 24, .inl (K 0))), (a 3, .inl (cI, 24, .inl (K 1))), (a 4, .inl (cI, 24, .inl (K 2))), (a 5, .inl (cI, 24, .inl (K 3))), (a 6, .inr (0, [.ref (a 7), .ref (a 8), .ref (a 9), .int (K 7 0)])), (a 7, .inl (cI, ro, .inl (K 8))), (a 8, .inl (cI, ro, .inl (K 9))), (a 9, .inl (cI, ro, .inl (K 10)))]) [0, 1, 2, 3, 4, 5, 6, 7, 8, 9] (by decide) rfl
    exact me_retZ hx hb hr hlk hK hS dX1_mustWait_69 (rfl) ((me_bf (st_wq0 (by decide))).symm) hP9 hD9
  · have hl : lv_has ls 2 [(0, .ref (a 0)), (1, .int (nI (1)))] := hl
    refine lv_iload_n hx hb dX1_mustWait_0 rfl (lv_at hl 1 rfl) ?_
    refine lv_tableOut (tgt := 68) hx hb dX1_mustWait_1 (by decide) (by decide) ?_
    refine lv_iconst (v := 0) hx hb dX1_mustWait_68 (by decide) ?_
    have hP9 := me_subP (ws' := [(a 0, .inr (1, [.ref (a 1), .ref (a 2), .ref (a 3), .ref (a 4), .ref (a 5), .ref (a 6), .int (K 5 0), .int (K 6 0)])), (a 1, .inl (cI, 4, .inl (K 4))), (a 2, .inl (cI, 24, .inl (K 0))), (a 3, .inl (cI, 24, .inl (K 1))), (a 4, .inl (cI, 24, .inl (K 2))), (a 5, .inl (cI, 24, .inl (K 3))), (a 6, .inr (0, [.ref (a 7), .ref (a 8), .ref (a 9), .int (K 7 0)])), (a 7, .inl (cI, ro, .inl (K 8))), (a 8, .inl (cI, ro, .inl (K 9))), (a 9, .inl (cI, ro, .inl (K 10)))]) hP [0, 1, 2, 3, 4, 5, 6, 7, 8, 9] rfl
    have hD9 := hD.sub (ws' := [(a 0, .inr (1, [.ref (a 1), .ref (a 2), .ref (a 3), .ref (a 4), .ref (a 5), .ref (a 6), .int (K 5 0), .int (K 6 0)])), (a 1, .inl (cI, 4, .inl (K 4))), (a 2, .inl (cI, 24, .inl (K 0))), (a 3, .inl (cI, 24, .inl (K 1))), (a 4, .inl (cI, 24, .inl (K 2))), (a 5, .inl (cI, 24, .inl (K 3))), (a 6, .inr (0, [.ref (a 7), .ref (a 8), .ref (a 9), .int (K 7 0)])), (a 7, .inl (cI, ro, .inl (K 8))), (a 8, .inl (cI, ro, .inl (K 9))), (a 9, .inl (cI, ro, .inl (K 10)))]) [0, 1, 2, 3, 4, 5, 6, 7, 8, 9] (by decide) rfl
    exact me_retZ hx hb hr hlk hK hS dX1_mustWait_69 (rfl) ((me_bf (st_wq0 (by decide))).symm) hP9 hD9
  · have hl : lv_has ls 2 [(0, .ref (a 0)), (1, .int (nI (2)))] := hl
    refine lv_iload_n hx hb dX1_mustWait_0 rfl (lv_at hl 1 rfl) ?_
    refine lv_tableOut (tgt := 68) hx hb dX1_mustWait_1 (by decide) (by decide) ?_
    refine lv_iconst (v := 0) hx hb dX1_mustWait_68 (by decide) ?_
    have hP9 := me_subP (ws' := [(a 0, .inr (1, [.ref (a 1), .ref (a 2), .ref (a 3), .ref (a 4), .ref (a 5), .ref (a 6), .int (K 5 0), .int (K 6 0)])), (a 1, .inl (cI, 4, .inl (K 4))), (a 2, .inl (cI, 24, .inl (K 0))), (a 3, .inl (cI, 24, .inl (K 1))), (a 4, .inl (cI, 24, .inl (K 2))), (a 5, .inl (cI, 24, .inl (K 3))), (a 6, .inr (0, [.ref (a 7), .ref (a 8), .ref (a 9), .int (K 7 0)])), (a 7, .inl (cI, ro, .inl (K 8))), (a 8, .inl (cI, ro, .inl (K 9))), (a 9, .inl (cI, ro, .inl (K 10)))]) hP [0, 1, 2, 3, 4, 5, 6, 7, 8, 9] rfl
    have hD9 := hD.sub (ws' := [(a 0, .inr (1, [.ref (a 1), .ref (a 2), .ref (a 3), .ref (a 4), .ref (a 5), .ref (a 6), .int (K 5 0), .int (K 6 0)])), (a 1, .inl (cI, 4, .inl (K 4))), (a 2, .inl (cI, 24, .inl (K 0))), (a 3, .inl (cI, 24, .inl (K 1))), (a 4, .inl (cI, 24, .inl (K 2))), (a 5, .inl (cI, 24, .inl (K 3))), (a 6, .inr (0, [.ref (a 7), .ref (a 8), .ref (a 9), .int (K 7 0)])), (a 7, .inl (cI, ro, .inl (K 8))), (a 8, .inl (cI, ro, .inl (K 9))), (a 9, .inl (cI, ro, .inl (K 10)))]) [0, 1, 2, 3, 4, 5, 6, 7, 8, 9] (by decide) rfl
    exact me_retZ hx hb hr hlk hK hS dX1_mustWait_69 (rfl) ((me_bf (st_wq0 (by decide))).symm) hP9 hD9
  · have hl : lv_has ls 2 [(0, .ref (a 0)), (1, .int (nI (3)))] := hl
    refine lv_iload_n hx hb dX1_mustWait_0 rfl (lv_at hl 1 rfl) ?_
    refine lv_tableIn (off := 43) (tgt := 44) hx hb dX1_mustWait_1 (by decide) (by decide) (by decide) (by decide) ?_
    refine lv_aload_n hx hb dX1_mustWait_44 rfl (lv_at hl 0 rfl) ?_
    refine va_get (D := D) (ci := 1) (v := .ref (a 6)) (C := RX1) (T := TX1) (N := 8) hx hb hg inX1 hown hK hP 0 rfl rfl 5 (by decide) (hg _ bw_1_73) (fun _ h9 => h9) rfl dX1_mustWait_45 ?_
    refine me_goI (wr := [(a 0, .inr (1, [.ref (a 1), .ref (a 2), .ref (a 3), .ref (a 4), .ref (a 5), .ref (a 6), .int (K 5 0), .int (K 6 0)])), (a 1, .inl (cI, 4, .inl (K 4))), (a 2, .inl (cI, 24, .inl (K 0))), (a 3, .inl (cI, 24, .inl (K 1))), (a 4, .inl (cI, 24, .inl (K 2))), (a 5, .inl (cI, 24, .inl (K 3)))]) (wc := [(a 6, .inr (0, [.ref (a 7), .ref (a 8), .ref (a 9), .int (K 7 0)])), (a 7, .inl (cI, ro, .inl (K 8))), (a 8, .inl (cI, ro, .inl (K 9))), (a 9, .inl (cI, ro, .inl (K 10)))]) (w1 := [(a 6, .inr (0, [.ref (a 7), .ref (a 8), .ref (a 9), .int (K 7 0)])), (a 7, .inl (cI, ro, .inl (K 8))), (a 8, .inl (cI, ro, .inl (K 9))), (a 9, .inl (cI, ro, .inl (K 10)))]) (va_runVN (C := RX0) (b := a 6) (As := []) (rest := []) ⟨hx, hb, hml, hown, hg⟩ (c_bu_isFull l D cI cZ cR a ro K hh hb1 hro s.heap.size) ⟨va_cnB 0 hg (bg_gi (fun _ h => h) bw_1_140) rfl rfl rfl (hN.1 _ ne_2) (hg _ bw_1_4) (by decide +kernel) ⟨Nat.le_of_ble_eq_true rfl, Nat.le_of_ble_eq_true rfl⟩, (hg _ bw_1_139), (hg _ bw_s_4)⟩ (me_preV (wc := [(a 6, .inr (0, [.ref (a 7), .ref (a 8), .ref (a 9), .int (K 7 0)])), (a 7, .inl (cI, ro, .inl (K 8))), (a 8, .inl (cI, ro, .inl (K 9))), (a 9, .inl (cI, ro, .inl (K 10)))]) hP hD hK hN [6, 7, 8, 9] rfl (by decide) (va_recv (q0 := 6) (ci := 0) hK hP rfl rfl)) rfl rfl hl.1 rfl (lv_room (Nat.le_of_ble_eq_true rfl)) dX1_mustWait_48 ⟨Nat.zero_le _, Nat.zero_le _⟩) hP hD hS hA [6, 7, 8, 9] [0, 1, 2, 3, 4, 5] rfl rfl (by decide) (by decide) (fun H locs hP hD hS => ?_)
    have hP : va_P D vwCl [(a 0, .inr (1, [.ref (a 1), .ref (a 2), .ref (a 3), .ref (a 4), .ref (a 5), .ref (a 6), .int (K 5 0), .int (K 6 0)])), (a 1, .inl (cI, 4, .inl (K 4))), (a 2, .inl (cI, 24, .inl (K 0))), (a 3, .inl (cI, 24, .inl (K 1))), (a 4, .inl (cI, 24, .inl (K 2))), (a 5, .inl (cI, 24, .inl (K 3))), (a 6, .inr (0, [.ref (a 7), .ref (a 8), .ref (a 9), .int (K 7 0)])), (a 7, .inl (cI, ro, .inl (K 8))), (a 8, .inl (cI, ro, .inl (K 9))), (a 9, .inl (cI, ro, .inl (K 10)))] H := hP
    have hD : va_D A [(a 0, .inr (1, [.ref (a 1), .ref (a 2), .ref (a 3), .ref (a 4), .ref (a 5), .ref (a 6), .int (K 5 0), .int (K 6 0)])), (a 1, .inl (cI, 4, .inl (K 4))), (a 2, .inl (cI, 24, .inl (K 0))), (a 3, .inl (cI, 24, .inl (K 1))), (a 4, .inl (cI, 24, .inl (K 2))), (a 5, .inl (cI, 24, .inl (K 3))), (a 6, .inr (0, [.ref (a 7), .ref (a 8), .ref (a 9), .int (K 7 0)])), (a 7, .inl (cI, ro, .inl (K 8))), (a 8, .inl (cI, ro, .inl (K 9))), (a 9, .inl (cI, ro, .inl (K 10)))] := hD
    have hP9 := me_subP (ws' := [(a 0, .inr (1, [.ref (a 1), .ref (a 2), .ref (a 3), .ref (a 4), .ref (a 5), .ref (a 6), .int (K 5 0), .int (K 6 0)])), (a 1, .inl (cI, 4, .inl (K 4))), (a 2, .inl (cI, 24, .inl (K 0))), (a 3, .inl (cI, 24, .inl (K 1))), (a 4, .inl (cI, 24, .inl (K 2))), (a 5, .inl (cI, 24, .inl (K 3))), (a 6, .inr (0, [.ref (a 7), .ref (a 8), .ref (a 9), .int (K 7 0)])), (a 7, .inl (cI, ro, .inl (K 8))), (a 8, .inl (cI, ro, .inl (K 9))), (a 9, .inl (cI, ro, .inl (K 10)))]) hP [0, 1, 2, 3, 4, 5, 6, 7, 8, 9] rfl
    have hD9 := hD.sub (ws' := [(a 0, .inr (1, [.ref (a 1), .ref (a 2), .ref (a 3), .ref (a 4), .ref (a 5), .ref (a 6), .int (K 5 0), .int (K 6 0)])), (a 1, .inl (cI, 4, .inl (K 4))), (a 2, .inl (cI, 24, .inl (K 0))), (a 3, .inl (cI, 24, .inl (K 1))), (a 4, .inl (cI, 24, .inl (K 2))), (a 5, .inl (cI, 24, .inl (K 3))), (a 6, .inr (0, [.ref (a 7), .ref (a 8), .ref (a 9), .int (K 7 0)])), (a 7, .inl (cI, ro, .inl (K 8))), (a 8, .inl (cI, ro, .inl (K 9))), (a 9, .inl (cI, ro, .inl (K 10)))]) [0, 1, 2, 3, 4, 5, 6, 7, 8, 9] (by decide) rfl
    exact me_retZ hx hb hr hlk hK hS dX1_mustWait_51 (me_bn _) (congrArg me_b (propext (st_wq3 (by decide)).symm)) hP9 hD9
  · have hl : lv_has ls 2 [(0, .ref (a 0)), (1, .int (nI (4)))] := hl
    refine lv_iload_n hx hb dX1_mustWait_0 rfl (lv_at hl 1 rfl) ?_
    refine lv_tableIn (off := 67) (tgt := 68) hx hb dX1_mustWait_1 (by decide) (by decide) (by decide) (by decide) ?_
    refine lv_iconst (v := 0) hx hb dX1_mustWait_68 (by decide) ?_
    have hP9 := me_subP (ws' := [(a 0, .inr (1, [.ref (a 1), .ref (a 2), .ref (a 3), .ref (a 4), .ref (a 5), .ref (a 6), .int (K 5 0), .int (K 6 0)])), (a 1, .inl (cI, 4, .inl (K 4))), (a 2, .inl (cI, 24, .inl (K 0))), (a 3, .inl (cI, 24, .inl (K 1))), (a 4, .inl (cI, 24, .inl (K 2))), (a 5, .inl (cI, 24, .inl (K 3))), (a 6, .inr (0, [.ref (a 7), .ref (a 8), .ref (a 9), .int (K 7 0)])), (a 7, .inl (cI, ro, .inl (K 8))), (a 8, .inl (cI, ro, .inl (K 9))), (a 9, .inl (cI, ro, .inl (K 10)))]) hP [0, 1, 2, 3, 4, 5, 6, 7, 8, 9] rfl
    have hD9 := hD.sub (ws' := [(a 0, .inr (1, [.ref (a 1), .ref (a 2), .ref (a 3), .ref (a 4), .ref (a 5), .ref (a 6), .int (K 5 0), .int (K 6 0)])), (a 1, .inl (cI, 4, .inl (K 4))), (a 2, .inl (cI, 24, .inl (K 0))), (a 3, .inl (cI, 24, .inl (K 1))), (a 4, .inl (cI, 24, .inl (K 2))), (a 5, .inl (cI, 24, .inl (K 3))), (a 6, .inr (0, [.ref (a 7), .ref (a 8), .ref (a 9), .int (K 7 0)])), (a 7, .inl (cI, ro, .inl (K 8))), (a 8, .inl (cI, ro, .inl (K 9))), (a 9, .inl (cI, ro, .inl (K 10)))]) [0, 1, 2, 3, 4, 5, 6, 7, 8, 9] (by decide) rfl
    exact me_retZ hx hb hr hlk hK hS dX1_mustWait_69 (rfl) ((me_bf (st_wq0 (by decide))).symm) hP9 hD9
  · have hl : lv_has ls 2 [(0, .ref (a 0)), (1, .int (nI (5)))] := hl
    refine lv_iload_n hx hb dX1_mustWait_0 rfl (lv_at hl 1 rfl) ?_
    refine lv_tableIn (off := 51) (tgt := 52) hx hb dX1_mustWait_1 (by decide) (by decide) (by decide) (by decide) ?_
    refine lv_aload_n hx hb dX1_mustWait_52 rfl (lv_at hl 0 rfl) ?_
    refine va_get (D := D) (ci := 1) (v := .ref (a 6)) (C := RX1) (T := TX1) (N := 8) hx hb hg inX1 hown hK hP 0 rfl rfl 5 (by decide) (hg _ bw_1_73) (fun _ h9 => h9) rfl dX1_mustWait_53 ?_
    refine va_getN (D := D) (ci := 0) (v := .int (K 7 0)) (C := RX0) (T := TX0) (N := 4) hx hb hg inX0 hown hK hP 6 rfl rfl 3 (by decide) (va_Nw.use rfl (hN.1 _ ne_3)) (fun _ h9 => h9) rfl dX1_mustWait_56 ?_
    refine me_t (x := K 7 0) (y := nI (st_h K)) (hh) ?_
    refine lv_if_le (tgt := 66) hx hb dX1_mustWait_59 (by decide) (fun b59 => ?_) (fun b59 => ?_)
    · have b59 := me_le (a := st_h K) (b := 0) (by omega) (by omega) b59
      refine lv_iconst (v := 0) hx hb dX1_mustWait_66 (by decide) ?_
      have hP9 := me_subP (ws' := [(a 0, .inr (1, [.ref (a 1), .ref (a 2), .ref (a 3), .ref (a 4), .ref (a 5), .ref (a 6), .int (K 5 0), .int (K 6 0)])), (a 1, .inl (cI, 4, .inl (K 4))), (a 2, .inl (cI, 24, .inl (K 0))), (a 3, .inl (cI, 24, .inl (K 1))), (a 4, .inl (cI, 24, .inl (K 2))), (a 5, .inl (cI, 24, .inl (K 3))), (a 6, .inr (0, [.ref (a 7), .ref (a 8), .ref (a 9), .int (K 7 0)])), (a 7, .inl (cI, ro, .inl (K 8))), (a 8, .inl (cI, ro, .inl (K 9))), (a 9, .inl (cI, ro, .inl (K 10)))]) hP [0, 1, 2, 3, 4, 5, 6, 7, 8, 9] rfl
      have hD9 := hD.sub (ws' := [(a 0, .inr (1, [.ref (a 1), .ref (a 2), .ref (a 3), .ref (a 4), .ref (a 5), .ref (a 6), .int (K 5 0), .int (K 6 0)])), (a 1, .inl (cI, 4, .inl (K 4))), (a 2, .inl (cI, 24, .inl (K 0))), (a 3, .inl (cI, 24, .inl (K 1))), (a 4, .inl (cI, 24, .inl (K 2))), (a 5, .inl (cI, 24, .inl (K 3))), (a 6, .inr (0, [.ref (a 7), .ref (a 8), .ref (a 9), .int (K 7 0)])), (a 7, .inl (cI, ro, .inl (K 8))), (a 8, .inl (cI, ro, .inl (K 9))), (a 9, .inl (cI, ro, .inl (K 10)))]) [0, 1, 2, 3, 4, 5, 6, 7, 8, 9] (by decide) rfl
      exact me_retZ hx hb hr hlk hK hS dX1_mustWait_67 (rfl) ((me_bf (fun q => absurd ((st_wq5 (by decide)).mp q) (by omega))).symm) hP9 hD9
    · have b59 := me_nle (a := st_h K) (b := 0) (by omega) (by omega) b59
      refine lv_iconst (v := 1) hx hb dX1_mustWait_62 (by decide) ?_
      refine lv_goto (tgt := 67) hx hb dX1_mustWait_63 (by decide) ?_
      have hP9 := me_subP (ws' := [(a 0, .inr (1, [.ref (a 1), .ref (a 2), .ref (a 3), .ref (a 4), .ref (a 5), .ref (a 6), .int (K 5 0), .int (K 6 0)])), (a 1, .inl (cI, 4, .inl (K 4))), (a 2, .inl (cI, 24, .inl (K 0))), (a 3, .inl (cI, 24, .inl (K 1))), (a 4, .inl (cI, 24, .inl (K 2))), (a 5, .inl (cI, 24, .inl (K 3))), (a 6, .inr (0, [.ref (a 7), .ref (a 8), .ref (a 9), .int (K 7 0)])), (a 7, .inl (cI, ro, .inl (K 8))), (a 8, .inl (cI, ro, .inl (K 9))), (a 9, .inl (cI, ro, .inl (K 10)))]) hP [0, 1, 2, 3, 4, 5, 6, 7, 8, 9] rfl
      have hD9 := hD.sub (ws' := [(a 0, .inr (1, [.ref (a 1), .ref (a 2), .ref (a 3), .ref (a 4), .ref (a 5), .ref (a 6), .int (K 5 0), .int (K 6 0)])), (a 1, .inl (cI, 4, .inl (K 4))), (a 2, .inl (cI, 24, .inl (K 0))), (a 3, .inl (cI, 24, .inl (K 1))), (a 4, .inl (cI, 24, .inl (K 2))), (a 5, .inl (cI, 24, .inl (K 3))), (a 6, .inr (0, [.ref (a 7), .ref (a 8), .ref (a 9), .int (K 7 0)])), (a 7, .inl (cI, ro, .inl (K 8))), (a 8, .inl (cI, ro, .inl (K 9))), (a 9, .inl (cI, ro, .inl (K 10)))]) [0, 1, 2, 3, 4, 5, 6, 7, 8, 9] (by decide) rfl
      exact me_retZ hx hb hr hlk hK hS dX1_mustWait_67 (rfl) ((me_bt ((st_wq5 (by decide)).mpr b59)).symm) hP9 hD9
  · have hl : lv_has ls 2 [(0, .ref (a 0)), (1, .int (nI (6)))] := hl
    refine lv_iload_n hx hb dX1_mustWait_0 rfl (lv_at hl 1 rfl) ?_
    refine lv_tableIn (off := 51) (tgt := 52) hx hb dX1_mustWait_1 (by decide) (by decide) (by decide) (by decide) ?_
    refine lv_aload_n hx hb dX1_mustWait_52 rfl (lv_at hl 0 rfl) ?_
    refine va_get (D := D) (ci := 1) (v := .ref (a 6)) (C := RX1) (T := TX1) (N := 8) hx hb hg inX1 hown hK hP 0 rfl rfl 5 (by decide) (hg _ bw_1_73) (fun _ h9 => h9) rfl dX1_mustWait_53 ?_
    refine va_getN (D := D) (ci := 0) (v := .int (K 7 0)) (C := RX0) (T := TX0) (N := 4) hx hb hg inX0 hown hK hP 6 rfl rfl 3 (by decide) (va_Nw.use rfl (hN.1 _ ne_3)) (fun _ h9 => h9) rfl dX1_mustWait_56 ?_
    refine me_t (x := K 7 0) (y := nI (st_h K)) (hh) ?_
    refine lv_if_le (tgt := 66) hx hb dX1_mustWait_59 (by decide) (fun b59 => ?_) (fun b59 => ?_)
    · have b59 := me_le (a := st_h K) (b := 0) (by omega) (by omega) b59
      refine lv_iconst (v := 0) hx hb dX1_mustWait_66 (by decide) ?_
      have hP9 := me_subP (ws' := [(a 0, .inr (1, [.ref (a 1), .ref (a 2), .ref (a 3), .ref (a 4), .ref (a 5), .ref (a 6), .int (K 5 0), .int (K 6 0)])), (a 1, .inl (cI, 4, .inl (K 4))), (a 2, .inl (cI, 24, .inl (K 0))), (a 3, .inl (cI, 24, .inl (K 1))), (a 4, .inl (cI, 24, .inl (K 2))), (a 5, .inl (cI, 24, .inl (K 3))), (a 6, .inr (0, [.ref (a 7), .ref (a 8), .ref (a 9), .int (K 7 0)])), (a 7, .inl (cI, ro, .inl (K 8))), (a 8, .inl (cI, ro, .inl (K 9))), (a 9, .inl (cI, ro, .inl (K 10)))]) hP [0, 1, 2, 3, 4, 5, 6, 7, 8, 9] rfl
      have hD9 := hD.sub (ws' := [(a 0, .inr (1, [.ref (a 1), .ref (a 2), .ref (a 3), .ref (a 4), .ref (a 5), .ref (a 6), .int (K 5 0), .int (K 6 0)])), (a 1, .inl (cI, 4, .inl (K 4))), (a 2, .inl (cI, 24, .inl (K 0))), (a 3, .inl (cI, 24, .inl (K 1))), (a 4, .inl (cI, 24, .inl (K 2))), (a 5, .inl (cI, 24, .inl (K 3))), (a 6, .inr (0, [.ref (a 7), .ref (a 8), .ref (a 9), .int (K 7 0)])), (a 7, .inl (cI, ro, .inl (K 8))), (a 8, .inl (cI, ro, .inl (K 9))), (a 9, .inl (cI, ro, .inl (K 10)))]) [0, 1, 2, 3, 4, 5, 6, 7, 8, 9] (by decide) rfl
      exact me_retZ hx hb hr hlk hK hS dX1_mustWait_67 (rfl) ((me_bf (fun q => absurd ((st_wq5 (by decide)).mp q) (by omega))).symm) hP9 hD9
    · have b59 := me_nle (a := st_h K) (b := 0) (by omega) (by omega) b59
      refine lv_iconst (v := 1) hx hb dX1_mustWait_62 (by decide) ?_
      refine lv_goto (tgt := 67) hx hb dX1_mustWait_63 (by decide) ?_
      have hP9 := me_subP (ws' := [(a 0, .inr (1, [.ref (a 1), .ref (a 2), .ref (a 3), .ref (a 4), .ref (a 5), .ref (a 6), .int (K 5 0), .int (K 6 0)])), (a 1, .inl (cI, 4, .inl (K 4))), (a 2, .inl (cI, 24, .inl (K 0))), (a 3, .inl (cI, 24, .inl (K 1))), (a 4, .inl (cI, 24, .inl (K 2))), (a 5, .inl (cI, 24, .inl (K 3))), (a 6, .inr (0, [.ref (a 7), .ref (a 8), .ref (a 9), .int (K 7 0)])), (a 7, .inl (cI, ro, .inl (K 8))), (a 8, .inl (cI, ro, .inl (K 9))), (a 9, .inl (cI, ro, .inl (K 10)))]) hP [0, 1, 2, 3, 4, 5, 6, 7, 8, 9] rfl
      have hD9 := hD.sub (ws' := [(a 0, .inr (1, [.ref (a 1), .ref (a 2), .ref (a 3), .ref (a 4), .ref (a 5), .ref (a 6), .int (K 5 0), .int (K 6 0)])), (a 1, .inl (cI, 4, .inl (K 4))), (a 2, .inl (cI, 24, .inl (K 0))), (a 3, .inl (cI, 24, .inl (K 1))), (a 4, .inl (cI, 24, .inl (K 2))), (a 5, .inl (cI, 24, .inl (K 3))), (a 6, .inr (0, [.ref (a 7), .ref (a 8), .ref (a 9), .int (K 7 0)])), (a 7, .inl (cI, ro, .inl (K 8))), (a 8, .inl (cI, ro, .inl (K 9))), (a 9, .inl (cI, ro, .inl (K 10)))]) [0, 1, 2, 3, 4, 5, 6, 7, 8, 9] (by decide) rfl
      exact me_retZ hx hb hr hlk hK hS dX1_mustWait_67 (rfl) ((me_bt ((st_wq5 (by decide)).mpr b59)).symm) hP9 hD9
  · have hl : lv_has ls 2 [(0, .ref (a 0)), (1, .int (nI (7)))] := hl
    refine lv_iload_n hx hb dX1_mustWait_0 rfl (lv_at hl 1 rfl) ?_
    refine lv_tableIn (off := 43) (tgt := 44) hx hb dX1_mustWait_1 (by decide) (by decide) (by decide) (by decide) ?_
    refine lv_aload_n hx hb dX1_mustWait_44 rfl (lv_at hl 0 rfl) ?_
    refine va_get (D := D) (ci := 1) (v := .ref (a 6)) (C := RX1) (T := TX1) (N := 8) hx hb hg inX1 hown hK hP 0 rfl rfl 5 (by decide) (hg _ bw_1_73) (fun _ h9 => h9) rfl dX1_mustWait_45 ?_
    refine me_goI (wr := [(a 0, .inr (1, [.ref (a 1), .ref (a 2), .ref (a 3), .ref (a 4), .ref (a 5), .ref (a 6), .int (K 5 0), .int (K 6 0)])), (a 1, .inl (cI, 4, .inl (K 4))), (a 2, .inl (cI, 24, .inl (K 0))), (a 3, .inl (cI, 24, .inl (K 1))), (a 4, .inl (cI, 24, .inl (K 2))), (a 5, .inl (cI, 24, .inl (K 3)))]) (wc := [(a 6, .inr (0, [.ref (a 7), .ref (a 8), .ref (a 9), .int (K 7 0)])), (a 7, .inl (cI, ro, .inl (K 8))), (a 8, .inl (cI, ro, .inl (K 9))), (a 9, .inl (cI, ro, .inl (K 10)))]) (w1 := [(a 6, .inr (0, [.ref (a 7), .ref (a 8), .ref (a 9), .int (K 7 0)])), (a 7, .inl (cI, ro, .inl (K 8))), (a 8, .inl (cI, ro, .inl (K 9))), (a 9, .inl (cI, ro, .inl (K 10)))]) (va_runVN (C := RX0) (b := a 6) (As := []) (rest := []) ⟨hx, hb, hml, hown, hg⟩ (c_bu_isFull l D cI cZ cR a ro K hh hb1 hro s.heap.size) ⟨va_cnB 0 hg (bg_gi (fun _ h => h) bw_1_140) rfl rfl rfl (hN.1 _ ne_2) (hg _ bw_1_4) (by decide +kernel) ⟨Nat.le_of_ble_eq_true rfl, Nat.le_of_ble_eq_true rfl⟩, (hg _ bw_1_139), (hg _ bw_s_4)⟩ (me_preV (wc := [(a 6, .inr (0, [.ref (a 7), .ref (a 8), .ref (a 9), .int (K 7 0)])), (a 7, .inl (cI, ro, .inl (K 8))), (a 8, .inl (cI, ro, .inl (K 9))), (a 9, .inl (cI, ro, .inl (K 10)))]) hP hD hK hN [6, 7, 8, 9] rfl (by decide) (va_recv (q0 := 6) (ci := 0) hK hP rfl rfl)) rfl rfl hl.1 rfl (lv_room (Nat.le_of_ble_eq_true rfl)) dX1_mustWait_48 ⟨Nat.zero_le _, Nat.zero_le _⟩) hP hD hS hA [6, 7, 8, 9] [0, 1, 2, 3, 4, 5] rfl rfl (by decide) (by decide) (fun H locs hP hD hS => ?_)
    have hP : va_P D vwCl [(a 0, .inr (1, [.ref (a 1), .ref (a 2), .ref (a 3), .ref (a 4), .ref (a 5), .ref (a 6), .int (K 5 0), .int (K 6 0)])), (a 1, .inl (cI, 4, .inl (K 4))), (a 2, .inl (cI, 24, .inl (K 0))), (a 3, .inl (cI, 24, .inl (K 1))), (a 4, .inl (cI, 24, .inl (K 2))), (a 5, .inl (cI, 24, .inl (K 3))), (a 6, .inr (0, [.ref (a 7), .ref (a 8), .ref (a 9), .int (K 7 0)])), (a 7, .inl (cI, ro, .inl (K 8))), (a 8, .inl (cI, ro, .inl (K 9))), (a 9, .inl (cI, ro, .inl (K 10)))] H := hP
    have hD : va_D A [(a 0, .inr (1, [.ref (a 1), .ref (a 2), .ref (a 3), .ref (a 4), .ref (a 5), .ref (a 6), .int (K 5 0), .int (K 6 0)])), (a 1, .inl (cI, 4, .inl (K 4))), (a 2, .inl (cI, 24, .inl (K 0))), (a 3, .inl (cI, 24, .inl (K 1))), (a 4, .inl (cI, 24, .inl (K 2))), (a 5, .inl (cI, 24, .inl (K 3))), (a 6, .inr (0, [.ref (a 7), .ref (a 8), .ref (a 9), .int (K 7 0)])), (a 7, .inl (cI, ro, .inl (K 8))), (a 8, .inl (cI, ro, .inl (K 9))), (a 9, .inl (cI, ro, .inl (K 10)))] := hD
    have hP9 := me_subP (ws' := [(a 0, .inr (1, [.ref (a 1), .ref (a 2), .ref (a 3), .ref (a 4), .ref (a 5), .ref (a 6), .int (K 5 0), .int (K 6 0)])), (a 1, .inl (cI, 4, .inl (K 4))), (a 2, .inl (cI, 24, .inl (K 0))), (a 3, .inl (cI, 24, .inl (K 1))), (a 4, .inl (cI, 24, .inl (K 2))), (a 5, .inl (cI, 24, .inl (K 3))), (a 6, .inr (0, [.ref (a 7), .ref (a 8), .ref (a 9), .int (K 7 0)])), (a 7, .inl (cI, ro, .inl (K 8))), (a 8, .inl (cI, ro, .inl (K 9))), (a 9, .inl (cI, ro, .inl (K 10)))]) hP [0, 1, 2, 3, 4, 5, 6, 7, 8, 9] rfl
    have hD9 := hD.sub (ws' := [(a 0, .inr (1, [.ref (a 1), .ref (a 2), .ref (a 3), .ref (a 4), .ref (a 5), .ref (a 6), .int (K 5 0), .int (K 6 0)])), (a 1, .inl (cI, 4, .inl (K 4))), (a 2, .inl (cI, 24, .inl (K 0))), (a 3, .inl (cI, 24, .inl (K 1))), (a 4, .inl (cI, 24, .inl (K 2))), (a 5, .inl (cI, 24, .inl (K 3))), (a 6, .inr (0, [.ref (a 7), .ref (a 8), .ref (a 9), .int (K 7 0)])), (a 7, .inl (cI, ro, .inl (K 8))), (a 8, .inl (cI, ro, .inl (K 9))), (a 9, .inl (cI, ro, .inl (K 10)))]) [0, 1, 2, 3, 4, 5, 6, 7, 8, 9] (by decide) rfl
    exact me_retZ hx hb hr hlk hK hS dX1_mustWait_51 (me_bn _) (congrArg me_b (propext (st_wq3 (by decide)).symm)) hP9 hD9
  · have hl : lv_has ls 2 [(0, .ref (a 0)), (1, .int (nI (8)))] := hl
    refine lv_iload_n hx hb dX1_mustWait_0 rfl (lv_at hl 1 rfl) ?_
    refine lv_tableIn (off := 43) (tgt := 44) hx hb dX1_mustWait_1 (by decide) (by decide) (by decide) (by decide) ?_
    refine lv_aload_n hx hb dX1_mustWait_44 rfl (lv_at hl 0 rfl) ?_
    refine va_get (D := D) (ci := 1) (v := .ref (a 6)) (C := RX1) (T := TX1) (N := 8) hx hb hg inX1 hown hK hP 0 rfl rfl 5 (by decide) (hg _ bw_1_73) (fun _ h9 => h9) rfl dX1_mustWait_45 ?_
    refine me_goI (wr := [(a 0, .inr (1, [.ref (a 1), .ref (a 2), .ref (a 3), .ref (a 4), .ref (a 5), .ref (a 6), .int (K 5 0), .int (K 6 0)])), (a 1, .inl (cI, 4, .inl (K 4))), (a 2, .inl (cI, 24, .inl (K 0))), (a 3, .inl (cI, 24, .inl (K 1))), (a 4, .inl (cI, 24, .inl (K 2))), (a 5, .inl (cI, 24, .inl (K 3)))]) (wc := [(a 6, .inr (0, [.ref (a 7), .ref (a 8), .ref (a 9), .int (K 7 0)])), (a 7, .inl (cI, ro, .inl (K 8))), (a 8, .inl (cI, ro, .inl (K 9))), (a 9, .inl (cI, ro, .inl (K 10)))]) (w1 := [(a 6, .inr (0, [.ref (a 7), .ref (a 8), .ref (a 9), .int (K 7 0)])), (a 7, .inl (cI, ro, .inl (K 8))), (a 8, .inl (cI, ro, .inl (K 9))), (a 9, .inl (cI, ro, .inl (K 10)))]) (va_runVN (C := RX0) (b := a 6) (As := []) (rest := []) ⟨hx, hb, hml, hown, hg⟩ (c_bu_isFull l D cI cZ cR a ro K hh hb1 hro s.heap.size) ⟨va_cnB 0 hg (bg_gi (fun _ h => h) bw_1_140) rfl rfl rfl (hN.1 _ ne_2) (hg _ bw_1_4) (by decide +kernel) ⟨Nat.le_of_ble_eq_true rfl, Nat.le_of_ble_eq_true rfl⟩, (hg _ bw_1_139), (hg _ bw_s_4)⟩ (me_preV (wc := [(a 6, .inr (0, [.ref (a 7), .ref (a 8), .ref (a 9), .int (K 7 0)])), (a 7, .inl (cI, ro, .inl (K 8))), (a 8, .inl (cI, ro, .inl (K 9))), (a 9, .inl (cI, ro, .inl (K 10)))]) hP hD hK hN [6, 7, 8, 9] rfl (by decide) (va_recv (q0 := 6) (ci := 0) hK hP rfl rfl)) rfl rfl hl.1 rfl (lv_room (Nat.le_of_ble_eq_true rfl)) dX1_mustWait_48 ⟨Nat.zero_le _, Nat.zero_le _⟩) hP hD hS hA [6, 7, 8, 9] [0, 1, 2, 3, 4, 5] rfl rfl (by decide) (by decide) (fun H locs hP hD hS => ?_)
    have hP : va_P D vwCl [(a 0, .inr (1, [.ref (a 1), .ref (a 2), .ref (a 3), .ref (a 4), .ref (a 5), .ref (a 6), .int (K 5 0), .int (K 6 0)])), (a 1, .inl (cI, 4, .inl (K 4))), (a 2, .inl (cI, 24, .inl (K 0))), (a 3, .inl (cI, 24, .inl (K 1))), (a 4, .inl (cI, 24, .inl (K 2))), (a 5, .inl (cI, 24, .inl (K 3))), (a 6, .inr (0, [.ref (a 7), .ref (a 8), .ref (a 9), .int (K 7 0)])), (a 7, .inl (cI, ro, .inl (K 8))), (a 8, .inl (cI, ro, .inl (K 9))), (a 9, .inl (cI, ro, .inl (K 10)))] H := hP
    have hD : va_D A [(a 0, .inr (1, [.ref (a 1), .ref (a 2), .ref (a 3), .ref (a 4), .ref (a 5), .ref (a 6), .int (K 5 0), .int (K 6 0)])), (a 1, .inl (cI, 4, .inl (K 4))), (a 2, .inl (cI, 24, .inl (K 0))), (a 3, .inl (cI, 24, .inl (K 1))), (a 4, .inl (cI, 24, .inl (K 2))), (a 5, .inl (cI, 24, .inl (K 3))), (a 6, .inr (0, [.ref (a 7), .ref (a 8), .ref (a 9), .int (K 7 0)])), (a 7, .inl (cI, ro, .inl (K 8))), (a 8, .inl (cI, ro, .inl (K 9))), (a 9, .inl (cI, ro, .inl (K 10)))] := hD
    have hP9 := me_subP (ws' := [(a 0, .inr (1, [.ref (a 1), .ref (a 2), .ref (a 3), .ref (a 4), .ref (a 5), .ref (a 6), .int (K 5 0), .int (K 6 0)])), (a 1, .inl (cI, 4, .inl (K 4))), (a 2, .inl (cI, 24, .inl (K 0))), (a 3, .inl (cI, 24, .inl (K 1))), (a 4, .inl (cI, 24, .inl (K 2))), (a 5, .inl (cI, 24, .inl (K 3))), (a 6, .inr (0, [.ref (a 7), .ref (a 8), .ref (a 9), .int (K 7 0)])), (a 7, .inl (cI, ro, .inl (K 8))), (a 8, .inl (cI, ro, .inl (K 9))), (a 9, .inl (cI, ro, .inl (K 10)))]) hP [0, 1, 2, 3, 4, 5, 6, 7, 8, 9] rfl
    have hD9 := hD.sub (ws' := [(a 0, .inr (1, [.ref (a 1), .ref (a 2), .ref (a 3), .ref (a 4), .ref (a 5), .ref (a 6), .int (K 5 0), .int (K 6 0)])), (a 1, .inl (cI, 4, .inl (K 4))), (a 2, .inl (cI, 24, .inl (K 0))), (a 3, .inl (cI, 24, .inl (K 1))), (a 4, .inl (cI, 24, .inl (K 2))), (a 5, .inl (cI, 24, .inl (K 3))), (a 6, .inr (0, [.ref (a 7), .ref (a 8), .ref (a 9), .int (K 7 0)])), (a 7, .inl (cI, ro, .inl (K 8))), (a 8, .inl (cI, ro, .inl (K 9))), (a 9, .inl (cI, ro, .inl (K 10)))]) [0, 1, 2, 3, 4, 5, 6, 7, 8, 9] (by decide) rfl
    exact me_retZ hx hb hr hlk hK hS dX1_mustWait_51 (me_bn _) (congrArg me_b (propext (st_wq3 (by decide)).symm)) hP9 hD9
  · have hl : lv_has ls 2 [(0, .ref (a 0)), (1, .int (nI (9)))] := hl
    refine lv_iload_n hx hb dX1_mustWait_0 rfl (lv_at hl 1 rfl) ?_
    refine lv_tableIn (off := 43) (tgt := 44) hx hb dX1_mustWait_1 (by decide) (by decide) (by decide) (by decide) ?_
    refine lv_aload_n hx hb dX1_mustWait_44 rfl (lv_at hl 0 rfl) ?_
    refine va_get (D := D) (ci := 1) (v := .ref (a 6)) (C := RX1) (T := TX1) (N := 8) hx hb hg inX1 hown hK hP 0 rfl rfl 5 (by decide) (hg _ bw_1_73) (fun _ h9 => h9) rfl dX1_mustWait_45 ?_
    refine me_goI (wr := [(a 0, .inr (1, [.ref (a 1), .ref (a 2), .ref (a 3), .ref (a 4), .ref (a 5), .ref (a 6), .int (K 5 0), .int (K 6 0)])), (a 1, .inl (cI, 4, .inl (K 4))), (a 2, .inl (cI, 24, .inl (K 0))), (a 3, .inl (cI, 24, .inl (K 1))), (a 4, .inl (cI, 24, .inl (K 2))), (a 5, .inl (cI, 24, .inl (K 3)))]) (wc := [(a 6, .inr (0, [.ref (a 7), .ref (a 8), .ref (a 9), .int (K 7 0)])), (a 7, .inl (cI, ro, .inl (K 8))), (a 8, .inl (cI, ro, .inl (K 9))), (a 9, .inl (cI, ro, .inl (K 10)))]) (w1 := [(a 6, .inr (0, [.ref (a 7), .ref (a 8), .ref (a 9), .int (K 7 0)])), (a 7, .inl (cI, ro, .inl (K 8))), (a 8, .inl (cI, ro, .inl (K 9))), (a 9, .inl (cI, ro, .inl (K 10)))]) (va_runVN (C := RX0) (b := a 6) (As := []) (rest := []) ⟨hx, hb, hml, hown, hg⟩ (c_bu_isFull l D cI cZ cR a ro K hh hb1 hro s.heap.size) ⟨va_cnB 0 hg (bg_gi (fun _ h => h) bw_1_140) rfl rfl rfl (hN.1 _ ne_2) (hg _ bw_1_4) (by decide +kernel) ⟨Nat.le_of_ble_eq_true rfl, Nat.le_of_ble_eq_true rfl⟩, (hg _ bw_1_139), (hg _ bw_s_4)⟩ (me_preV (wc := [(a 6, .inr (0, [.ref (a 7), .ref (a 8), .ref (a 9), .int (K 7 0)])), (a 7, .inl (cI, ro, .inl (K 8))), (a 8, .inl (cI, ro, .inl (K 9))), (a 9, .inl (cI, ro, .inl (K 10)))]) hP hD hK hN [6, 7, 8, 9] rfl (by decide) (va_recv (q0 := 6) (ci := 0) hK hP rfl rfl)) rfl rfl hl.1 rfl (lv_room (Nat.le_of_ble_eq_true rfl)) dX1_mustWait_48 ⟨Nat.zero_le _, Nat.zero_le _⟩) hP hD hS hA [6, 7, 8, 9] [0, 1, 2, 3, 4, 5] rfl rfl (by decide) (by decide) (fun H locs hP hD hS => ?_)
    have hP : va_P D vwCl [(a 0, .inr (1, [.ref (a 1), .ref (a 2), .ref (a 3), .ref (a 4), .ref (a 5), .ref (a 6), .int (K 5 0), .int (K 6 0)])), (a 1, .inl (cI, 4, .inl (K 4))), (a 2, .inl (cI, 24, .inl (K 0))), (a 3, .inl (cI, 24, .inl (K 1))), (a 4, .inl (cI, 24, .inl (K 2))), (a 5, .inl (cI, 24, .inl (K 3))), (a 6, .inr (0, [.ref (a 7), .ref (a 8), .ref (a 9), .int (K 7 0)])), (a 7, .inl (cI, ro, .inl (K 8))), (a 8, .inl (cI, ro, .inl (K 9))), (a 9, .inl (cI, ro, .inl (K 10)))] H := hP
    have hD : va_D A [(a 0, .inr (1, [.ref (a 1), .ref (a 2), .ref (a 3), .ref (a 4), .ref (a 5), .ref (a 6), .int (K 5 0), .int (K 6 0)])), (a 1, .inl (cI, 4, .inl (K 4))), (a 2, .inl (cI, 24, .inl (K 0))), (a 3, .inl (cI, 24, .inl (K 1))), (a 4, .inl (cI, 24, .inl (K 2))), (a 5, .inl (cI, 24, .inl (K 3))), (a 6, .inr (0, [.ref (a 7), .ref (a 8), .ref (a 9), .int (K 7 0)])), (a 7, .inl (cI, ro, .inl (K 8))), (a 8, .inl (cI, ro, .inl (K 9))), (a 9, .inl (cI, ro, .inl (K 10)))] := hD
    have hP9 := me_subP (ws' := [(a 0, .inr (1, [.ref (a 1), .ref (a 2), .ref (a 3), .ref (a 4), .ref (a 5), .ref (a 6), .int (K 5 0), .int (K 6 0)])), (a 1, .inl (cI, 4, .inl (K 4))), (a 2, .inl (cI, 24, .inl (K 0))), (a 3, .inl (cI, 24, .inl (K 1))), (a 4, .inl (cI, 24, .inl (K 2))), (a 5, .inl (cI, 24, .inl (K 3))), (a 6, .inr (0, [.ref (a 7), .ref (a 8), .ref (a 9), .int (K 7 0)])), (a 7, .inl (cI, ro, .inl (K 8))), (a 8, .inl (cI, ro, .inl (K 9))), (a 9, .inl (cI, ro, .inl (K 10)))]) hP [0, 1, 2, 3, 4, 5, 6, 7, 8, 9] rfl
    have hD9 := hD.sub (ws' := [(a 0, .inr (1, [.ref (a 1), .ref (a 2), .ref (a 3), .ref (a 4), .ref (a 5), .ref (a 6), .int (K 5 0), .int (K 6 0)])), (a 1, .inl (cI, 4, .inl (K 4))), (a 2, .inl (cI, 24, .inl (K 0))), (a 3, .inl (cI, 24, .inl (K 1))), (a 4, .inl (cI, 24, .inl (K 2))), (a 5, .inl (cI, 24, .inl (K 3))), (a 6, .inr (0, [.ref (a 7), .ref (a 8), .ref (a 9), .int (K 7 0)])), (a 7, .inl (cI, ro, .inl (K 8))), (a 8, .inl (cI, ro, .inl (K 9))), (a 9, .inl (cI, ro, .inl (K 10)))]) [0, 1, 2, 3, 4, 5, 6, 7, 8, 9] (by decide) rfl
    exact me_retZ hx hb hr hlk hK hS dX1_mustWait_51 (me_bn _) (congrArg me_b (propext (st_wq3 (by decide)).symm)) hP9 hD9
  · have hl : lv_has ls 2 [(0, .ref (a 0)), (1, .int (nI (10)))] := hl
    refine lv_iload_n hx hb dX1_mustWait_0 rfl (lv_at hl 1 rfl) ?_
    refine lv_tableOut (tgt := 68) hx hb dX1_mustWait_1 (by decide) (by decide) ?_
    refine lv_iconst (v := 0) hx hb dX1_mustWait_68 (by decide) ?_
    have hP9 := me_subP (ws' := [(a 0, .inr (1, [.ref (a 1), .ref (a 2), .ref (a 3), .ref (a 4), .ref (a 5), .ref (a 6), .int (K 5 0), .int (K 6 0)])), (a 1, .inl (cI, 4, .inl (K 4))), (a 2, .inl (cI, 24, .inl (K 0))), (a 3, .inl (cI, 24, .inl (K 1))), (a 4, .inl (cI, 24, .inl (K 2))), (a 5, .inl (cI, 24, .inl (K 3))), (a 6, .inr (0, [.ref (a 7), .ref (a 8), .ref (a 9), .int (K 7 0)])), (a 7, .inl (cI, ro, .inl (K 8))), (a 8, .inl (cI, ro, .inl (K 9))), (a 9, .inl (cI, ro, .inl (K 10)))]) hP [0, 1, 2, 3, 4, 5, 6, 7, 8, 9] rfl
    have hD9 := hD.sub (ws' := [(a 0, .inr (1, [.ref (a 1), .ref (a 2), .ref (a 3), .ref (a 4), .ref (a 5), .ref (a 6), .int (K 5 0), .int (K 6 0)])), (a 1, .inl (cI, 4, .inl (K 4))), (a 2, .inl (cI, 24, .inl (K 0))), (a 3, .inl (cI, 24, .inl (K 1))), (a 4, .inl (cI, 24, .inl (K 2))), (a 5, .inl (cI, 24, .inl (K 3))), (a 6, .inr (0, [.ref (a 7), .ref (a 8), .ref (a 9), .int (K 7 0)])), (a 7, .inl (cI, ro, .inl (K 8))), (a 8, .inl (cI, ro, .inl (K 9))), (a 9, .inl (cI, ro, .inl (K 10)))]) [0, 1, 2, 3, 4, 5, 6, 7, 8, 9] (by decide) rfl
    exact me_retZ hx hb hr hlk hK hS dX1_mustWait_69 (rfl) ((me_bf (st_wq0 (by decide))).symm) hP9 hD9
set_option maxHeartbeats 4000000 in
set_option maxRecDepth 100000 in
theorem c_co_nextPlace (l : Launch) (D : va_G) (cI cZ cR : ClassId) (a : Nat → Nat) (K : st_T) (hp : K 5 0 = nI (st_p K)) (hp1 : st_p K < 24) (hX : K 1 (st_p K) = nI (st_x K)) (hX1 : st_x K < 4) : me_I l yX1_nextPlace wsX1_nextPlace ({ frames := 0, cells := 0, slots := 0, locals := 0 } : Room) D (me_TYS cI cZ cR) ([.ref (a 0)] : List Value) (w_co a cI K) (st_nx K) (w_co a cI K) := by
  intro sz
  refine me_ent (cc := cX1_nextPlace) (maxL := 2) (ret := (some .int)) (Qf := me_QI D (me_TYS cI cZ cR) (st_nx K) (w_co a cI K)) (by decide) rfl (Nat.le_of_ble_eq_true rfl) ?_
  intro p e s m below meth c A ls hx hb hr hml hts hown hlk hin hP hK hD hN hA hS hl
  have hown : s.vm.findClass RX1 = some m.cls := hown
  have hg : ∀ w9 ∈ bg, w9.before ([.ref (a 0)] : List Value).toArray s = true := fun w9 h9 => hts w9 (List.mem_cons_of_mem _ h9)
  have hl : lv_has ls 2 [(0, .ref (a 0))] := hl
  have hP : va_P D vwCl [(a 0, .inr (1, [.ref (a 1), .ref (a 2), .ref (a 3), .ref (a 4), .ref (a 5), .ref (a 6), .int (K 5 0), .int (K 6 0)])), (a 1, .inl (cI, 4, .inl (K 4))), (a 2, .inl (cI, 24, .inl (K 0))), (a 3, .inl (cI, 24, .inl (K 1))), (a 4, .inl (cI, 24, .inl (K 2))), (a 5, .inl (cI, 24, .inl (K 3)))] s.heap := hP
  have hD : va_D A [(a 0, .inr (1, [.ref (a 1), .ref (a 2), .ref (a 3), .ref (a 4), .ref (a 5), .ref (a 6), .int (K 5 0), .int (K 6 0)])), (a 1, .inl (cI, 4, .inl (K 4))), (a 2, .inl (cI, 24, .inl (K 0))), (a 3, .inl (cI, 24, .inl (K 1))), (a 4, .inl (cI, 24, .inl (K 2))), (a 5, .inl (cI, 24, .inl (K 3)))] := hD
  refine lv_aload_n hx hb dX1_nextPlace_0 rfl (lv_at hl 0 rfl) ?_
  refine va_get (D := D) (ci := 1) (v := .ref (a 2)) (C := RX1) (T := TX1) (N := 8) hx hb hg inX1 hown hK hP 0 rfl rfl 1 (by decide) (hg _ bw_1_69) (fun _ h9 => h9) rfl dX1_nextPlace_1 ?_
  refine lv_aload_n hx hb dX1_nextPlace_4 rfl (lv_at hl 0 rfl) ?_
  refine va_get (D := D) (ci := 1) (v := .int (K 5 0)) (C := RX1) (T := TX1) (N := 8) hx hb hg inX1 hown hK hP 0 rfl rfl 6 (by decide) (hg _ bw_1_75) (fun _ h9 => h9) rfl dX1_nextPlace_5 ?_
  refine me_t (x := K 5 0) (y := nI (st_p K)) (hp) ?_
  refine me_ild hx hb hK hP 2 0 rfl rfl (st_p K) (rfl) (by omega) (by omega) dX1_nextPlace_8 ?_
  refine lv_bipush (v := 10) hx hb dX1_nextPlace_9 (by decide) ?_
  refine lv_icmp_ne (tgt := 35) hx hb dX1_nextPlace_11 (by decide) (fun b11 => ?_) (fun b11 => ?_)
  · refine lv_iconst (v := 0) hx hb dX1_nextPlace_35 (by decide) ?_
    refine lv_istore_n hx hb dX1_nextPlace_36 rfl hl (by decide) rfl (fun ls hl => ?_)
    have hl : lv_has ls 2 [(1, .int (0)), (0, .ref (a 0))] := hl
    refine lv_iload_n hx hb dX1_nextPlace_37 rfl (lv_at hl 0 rfl) ?_
    refine lv_if_eq (tgt := 53) hx hb dX1_nextPlace_38 (by decide) (fun _ => ?_) (fun q => absurd (by decide) q)
    refine lv_aload_n hx hb dX1_nextPlace_53 rfl (lv_at hl 1 rfl) ?_
    refine va_get (D := D) (ci := 1) (v := .int (K 5 0)) (C := RX1) (T := TX1) (N := 8) hx hb hg inX1 hown hK hP 0 rfl rfl 6 (by decide) (hg _ bw_1_75) (fun _ h9 => h9) rfl dX1_nextPlace_54 ?_
    refine me_t (x := K 5 0) (y := nI (st_p K)) (hp) ?_
    refine lv_iconst (v := 1) hx hb dX1_nextPlace_57 (by decide) ?_
    refine lv_iadd hx hb dX1_nextPlace_58 ?_
    refine me_t (x := (nI (st_p K)) + 1) (y := nI (st_p K + 1)) (nI_add (st_p K) (1)) ?_
    have hP9 := me_subP (ws' := [(a 0, .inr (1, [.ref (a 1), .ref (a 2), .ref (a 3), .ref (a 4), .ref (a 5), .ref (a 6), .int (K 5 0), .int (K 6 0)])), (a 1, .inl (cI, 4, .inl (K 4))), (a 2, .inl (cI, 24, .inl (K 0))), (a 3, .inl (cI, 24, .inl (K 1))), (a 4, .inl (cI, 24, .inl (K 2))), (a 5, .inl (cI, 24, .inl (K 3)))]) hP [0, 1, 2, 3, 4, 5] rfl
    have hD9 := hD.sub (ws' := [(a 0, .inr (1, [.ref (a 1), .ref (a 2), .ref (a 3), .ref (a 4), .ref (a 5), .ref (a 6), .int (K 5 0), .int (K 6 0)])), (a 1, .inl (cI, 4, .inl (K 4))), (a 2, .inl (cI, 24, .inl (K 0))), (a 3, .inl (cI, 24, .inl (K 1))), (a 4, .inl (cI, 24, .inl (K 2))), (a 5, .inl (cI, 24, .inl (K 3)))]) [0, 1, 2, 3, 4, 5] (by decide) rfl
    exact me_retI hx hb hr hlk hK hS dX1_nextPlace_59 ((me_swf (fun q => b11 q.1)).symm) hP9 hD9
  · refine lv_aload_n hx hb dX1_nextPlace_14 rfl (lv_at hl 0 rfl) ?_
    refine va_get (D := D) (ci := 1) (v := .ref (a 1)) (C := RX1) (T := TX1) (N := 8) hx hb hg inX1 hown hK hP 0 rfl rfl 0 (by decide) (hg _ bw_1_67) (fun _ h9 => h9) rfl dX1_nextPlace_15 ?_
    refine lv_aload_n hx hb dX1_nextPlace_18 rfl (lv_at hl 0 rfl) ?_
    refine va_get (D := D) (ci := 1) (v := .ref (a 3)) (C := RX1) (T := TX1) (N := 8) hx hb hg inX1 hown hK hP 0 rfl rfl 2 (by decide) (hg _ bw_1_70) (fun _ h9 => h9) rfl dX1_nextPlace_19 ?_
    refine lv_aload_n hx hb dX1_nextPlace_22 rfl (lv_at hl 0 rfl) ?_
    refine va_get (D := D) (ci := 1) (v := .int (K 5 0)) (C := RX1) (T := TX1) (N := 8) hx hb hg inX1 hown hK hP 0 rfl rfl 6 (by decide) (hg _ bw_1_75) (fun _ h9 => h9) rfl dX1_nextPlace_23 ?_
    refine me_t (x := K 5 0) (y := nI (st_p K)) (hp) ?_
    refine me_ild hx hb hK hP 3 0 rfl rfl (st_p K) (rfl) (by omega) (by omega) dX1_nextPlace_26 ?_
    refine me_t (x := K 1 (st_p K)) (y := nI (st_x K)) (hX) ?_
    refine me_ild hx hb hK hP 1 0 rfl rfl (st_x K) (rfl) (by omega) (by omega) dX1_nextPlace_27 ?_
    refine lv_if_eq (tgt := 35) hx hb dX1_nextPlace_28 (by decide) (fun b28 => ?_) (fun b28 => ?_)
    · refine lv_iconst (v := 0) hx hb dX1_nextPlace_35 (by decide) ?_
      refine lv_istore_n hx hb dX1_nextPlace_36 rfl hl (by decide) rfl (fun ls hl => ?_)
      have hl : lv_has ls 2 [(1, .int (0)), (0, .ref (a 0))] := hl
      refine lv_iload_n hx hb dX1_nextPlace_37 rfl (lv_at hl 0 rfl) ?_
      refine lv_if_eq (tgt := 53) hx hb dX1_nextPlace_38 (by decide) (fun _ => ?_) (fun q => absurd (by decide) q)
      refine lv_aload_n hx hb dX1_nextPlace_53 rfl (lv_at hl 1 rfl) ?_
      refine va_get (D := D) (ci := 1) (v := .int (K 5 0)) (C := RX1) (T := TX1) (N := 8) hx hb hg inX1 hown hK hP 0 rfl rfl 6 (by decide) (hg _ bw_1_75) (fun _ h9 => h9) rfl dX1_nextPlace_54 ?_
      refine me_t (x := K 5 0) (y := nI (st_p K)) (hp) ?_
      refine lv_iconst (v := 1) hx hb dX1_nextPlace_57 (by decide) ?_
      refine lv_iadd hx hb dX1_nextPlace_58 ?_
      refine me_t (x := (nI (st_p K)) + 1) (y := nI (st_p K + 1)) (nI_add (st_p K) (1)) ?_
      have hP9 := me_subP (ws' := [(a 0, .inr (1, [.ref (a 1), .ref (a 2), .ref (a 3), .ref (a 4), .ref (a 5), .ref (a 6), .int (K 5 0), .int (K 6 0)])), (a 1, .inl (cI, 4, .inl (K 4))), (a 2, .inl (cI, 24, .inl (K 0))), (a 3, .inl (cI, 24, .inl (K 1))), (a 4, .inl (cI, 24, .inl (K 2))), (a 5, .inl (cI, 24, .inl (K 3)))]) hP [0, 1, 2, 3, 4, 5] rfl
      have hD9 := hD.sub (ws' := [(a 0, .inr (1, [.ref (a 1), .ref (a 2), .ref (a 3), .ref (a 4), .ref (a 5), .ref (a 6), .int (K 5 0), .int (K 6 0)])), (a 1, .inl (cI, 4, .inl (K 4))), (a 2, .inl (cI, 24, .inl (K 0))), (a 3, .inl (cI, 24, .inl (K 1))), (a 4, .inl (cI, 24, .inl (K 2))), (a 5, .inl (cI, 24, .inl (K 3)))]) [0, 1, 2, 3, 4, 5] (by decide) rfl
      exact me_retI hx hb hr hlk hK hS dX1_nextPlace_59 ((me_swf (fun q => q.2 b28)).symm) hP9 hD9
    · refine lv_iconst (v := 1) hx hb dX1_nextPlace_31 (by decide) ?_
      refine lv_goto (tgt := 36) hx hb dX1_nextPlace_32 (by decide) ?_
      refine lv_istore_n hx hb dX1_nextPlace_36 rfl hl (by decide) rfl (fun ls hl => ?_)
      have hl : lv_has ls 2 [(1, .int (1)), (0, .ref (a 0))] := hl
      refine lv_iload_n hx hb dX1_nextPlace_37 rfl (lv_at hl 0 rfl) ?_
      refine lv_if_eq (tgt := 53) hx hb dX1_nextPlace_38 (by decide) (fun q => absurd q (by decide)) (fun _ => ?_)
      refine lv_aload_n hx hb dX1_nextPlace_41 rfl (lv_at hl 1 rfl) ?_
      refine va_get (D := D) (ci := 1) (v := .ref (a 5)) (C := RX1) (T := TX1) (N := 8) hx hb hg inX1 hown hK hP 0 rfl rfl 4 (by decide) (hg _ bw_1_72) (fun _ h9 => h9) rfl dX1_nextPlace_42 ?_
      refine lv_aload_n hx hb dX1_nextPlace_45 rfl (lv_at hl 1 rfl) ?_
      refine va_get (D := D) (ci := 1) (v := .int (K 5 0)) (C := RX1) (T := TX1) (N := 8) hx hb hg inX1 hown hK hP 0 rfl rfl 6 (by decide) (hg _ bw_1_75) (fun _ h9 => h9) rfl dX1_nextPlace_46 ?_
      refine me_t (x := K 5 0) (y := nI (st_p K)) (hp) ?_
      refine me_ild hx hb hK hP 5 0 rfl rfl (st_p K) (rfl) (by omega) (by omega) dX1_nextPlace_49 ?_
      refine lv_goto (tgt := 59) hx hb dX1_nextPlace_50 (by decide) ?_
      have hP9 := me_subP (ws' := [(a 0, .inr (1, [.ref (a 1), .ref (a 2), .ref (a 3), .ref (a 4), .ref (a 5), .ref (a 6), .int (K 5 0), .int (K 6 0)])), (a 1, .inl (cI, 4, .inl (K 4))), (a 2, .inl (cI, 24, .inl (K 0))), (a 3, .inl (cI, 24, .inl (K 1))), (a 4, .inl (cI, 24, .inl (K 2))), (a 5, .inl (cI, 24, .inl (K 3)))]) hP [0, 1, 2, 3, 4, 5] rfl
      have hD9 := hD.sub (ws' := [(a 0, .inr (1, [.ref (a 1), .ref (a 2), .ref (a 3), .ref (a 4), .ref (a 5), .ref (a 6), .int (K 5 0), .int (K 6 0)])), (a 1, .inl (cI, 4, .inl (K 4))), (a 2, .inl (cI, 24, .inl (K 0))), (a 3, .inl (cI, 24, .inl (K 1))), (a 4, .inl (cI, 24, .inl (K 2))), (a 5, .inl (cI, 24, .inl (K 3)))]) [0, 1, 2, 3, 4, 5] (by decide) rfl
      exact me_retI hx hb hr hlk hK hS dX1_nextPlace_59 ((me_swt ⟨b11, b28⟩).symm) hP9 hD9
set_option maxHeartbeats 4000000 in
set_option maxRecDepth 100000 in
theorem c_co_swap (l : Launch) (D : va_G) (cI cZ cR : ClassId) (a b : Nat → Nat) (K M : st_T) (w x : Nat) (hw : w < 32) (hx4 : x < 4) : me_V l yX1_swap wsX1_swap ({ frames := 1, cells := 0, slots := 0, locals := 22 } : Room) D (me_TYS cI cZ cR) ([.ref (a 0), .int (nI (w)), .int (nI (x)), .ref (b 0)] : List Value) (w_co a cI K ++ w_sh b cI cZ M) (w_co a cI (st_swK K M w) ++ w_sh b cI cZ (st_swM K M w x)) := by
  intro sz
  refine me_ent (cc := cX1_swap) (maxL := 4) (ret := none) (Qf := me_QV D (me_TYS cI cZ cR) (w_co a cI (st_swK K M w) ++ w_sh b cI cZ (st_swM K M w x))) (by decide) rfl (Nat.le_of_ble_eq_true rfl) ?_
  intro p e s m below meth c A ls hx hb hr hml hts hown hlk hin hP hK hD hN hA hS hl
  have hown : s.vm.findClass RX1 = some m.cls := hown
  have hg : ∀ w9 ∈ bg, w9.before ([.ref (a 0), .int (nI (w)), .int (nI (x)), .ref (b 0)] : List Value).toArray s = true := fun w9 h9 => hts w9 (List.mem_cons_of_mem _ h9)
  have hl : lv_has ls 4 [(0, .ref (a 0)), (1, .int (nI (w))), (2, .int (nI (x))), (3, .ref (b 0))] := hl
  have hP : va_P D vwCl [(a 0, .inr (1, [.ref (a 1), .ref (a 2), .ref (a 3), .ref (a 4), .ref (a 5), .ref (a 6), .int (K 5 0), .int (K 6 0)])), (a 1, .inl (cI, 4, .inl (K 4))), (a 2, .inl (cI, 24, .inl (K 0))), (a 3, .inl (cI, 24, .inl (K 1))), (a 4, .inl (cI, 24, .inl (K 2))), (a 5, .inl (cI, 24, .inl (K 3))), (b 0, .inr (2, [.ref (b 1), .ref (b 2), .ref (b 3)])), (b 1, .inl (cI, 32, .inl (M 0))), (b 2, .inl (cI, 32, .inl (M 1))), (b 3, .inl (cZ, 8, .inl (M 2)))] s.heap := hP
  have hD : va_D A [(a 0, .inr (1, [.ref (a 1), .ref (a 2), .ref (a 3), .ref (a 4), .ref (a 5), .ref (a 6), .int (K 5 0), .int (K 6 0)])), (a 1, .inl (cI, 4, .inl (K 4))), (a 2, .inl (cI, 24, .inl (K 0))), (a 3, .inl (cI, 24, .inl (K 1))), (a 4, .inl (cI, 24, .inl (K 2))), (a 5, .inl (cI, 24, .inl (K 3))), (b 0, .inr (2, [.ref (b 1), .ref (b 2), .ref (b 3)])), (b 1, .inl (cI, 32, .inl (M 0))), (b 2, .inl (cI, 32, .inl (M 1))), (b 3, .inl (cZ, 8, .inl (M 2)))] := hD
  refine lv_aload_n hx hb dX1_swap_0 rfl (lv_at hl 3 rfl) ?_
  refine va_getN (D := D) (ci := 2) (v := .ref (b 1)) (C := RX2) (T := TX2) (N := 3) hx hb hg inX2 hown hK hP 6 rfl rfl 0 (by decide) (va_Nw.use rfl (hN.1 _ ne_4)) (fun _ h9 => h9) rfl dX1_swap_1 ?_
  refine lv_iload_n hx hb dX1_swap_4 rfl (lv_at hl 1 rfl) ?_
  refine me_ild hx hb hK hP 7 0 rfl rfl (w) (rfl) (by omega) (by omega) dX1_swap_5 ?_
  refine lv_aload_n hx hb dX1_swap_6 rfl (lv_at hl 0 rfl) ?_
  refine va_get (D := D) (ci := 1) (v := .ref (a 1)) (C := RX1) (T := TX1) (N := 8) hx hb hg inX1 hown hK hP 0 rfl rfl 0 (by decide) (hg _ bw_1_67) (fun _ h9 => h9) rfl dX1_swap_7 ?_
  refine lv_iconst (v := 0) hx hb dX1_swap_10 (by decide) ?_
  refine me_ild hx hb hK hP 1 0 rfl rfl (0) (rfl) (by omega) (by omega) dX1_swap_11 ?_
  refine lv_icmp_ne (tgt := 29) hx hb dX1_swap_12 (by decide) (fun b12 => ?_) (fun b12 => ?_)
  · refine lv_aload_n hx hb dX1_swap_29 rfl (lv_at hl 0 rfl) ?_
    refine va_get (D := D) (ci := 1) (v := .ref (a 1)) (C := RX1) (T := TX1) (N := 8) hx hb hg inX1 hown hK hP 0 rfl rfl 0 (by decide) (hg _ bw_1_67) (fun _ h9 => h9) rfl dX1_swap_30 ?_
    refine lv_iconst (v := 0) hx hb dX1_swap_33 (by decide) ?_
    refine lv_aload_n hx hb dX1_swap_34 rfl (lv_at hl 3 rfl) ?_
    refine va_getN (D := D) (ci := 2) (v := .ref (b 1)) (C := RX2) (T := TX2) (N := 3) hx hb hg inX2 hown hK hP 6 rfl rfl 0 (by decide) (va_Nw.use rfl (hN.1 _ ne_4)) (fun _ h9 => h9) rfl dX1_swap_35 ?_
    refine lv_iload_n hx hb dX1_swap_38 rfl (lv_at hl 1 rfl) ?_
    refine me_ild hx hb hK hP 7 0 rfl rfl (w) (rfl) (by omega) (by omega) dX1_swap_39 ?_
    refine me_ist hx hb hK hP hD hS 1 0 rfl rfl (0) (rfl) (by omega) (by omega) dX1_swap_40 (fun H locs hP hD hS => ?_)
    have hP : va_P D vwCl [(a 0, .inr (1, [.ref (a 1), .ref (a 2), .ref (a 3), .ref (a 4), .ref (a 5), .ref (a 6), .int (K 5 0), .int (K 6 0)])), (a 1, .inl (cI, 4, .inl (upd (K 4) (0) (M 0 w)))), (a 2, .inl (cI, 24, .inl (K 0))), (a 3, .inl (cI, 24, .inl (K 1))), (a 4, .inl (cI, 24, .inl (K 2))), (a 5, .inl (cI, 24, .inl (K 3))), (b 0, .inr (2, [.ref (b 1), .ref (b 2), .ref (b 3)])), (b 1, .inl (cI, 32, .inl (M 0))), (b 2, .inl (cI, 32, .inl (M 1))), (b 3, .inl (cZ, 8, .inl (M 2)))] H := hP
    have hD : va_D A [(a 0, .inr (1, [.ref (a 1), .ref (a 2), .ref (a 3), .ref (a 4), .ref (a 5), .ref (a 6), .int (K 5 0), .int (K 6 0)])), (a 1, .inl (cI, 4, .inl (upd (K 4) (0) (M 0 w)))), (a 2, .inl (cI, 24, .inl (K 0))), (a 3, .inl (cI, 24, .inl (K 1))), (a 4, .inl (cI, 24, .inl (K 2))), (a 5, .inl (cI, 24, .inl (K 3))), (b 0, .inr (2, [.ref (b 1), .ref (b 2), .ref (b 3)])), (b 1, .inl (cI, 32, .inl (M 0))), (b 2, .inl (cI, 32, .inl (M 1))), (b 3, .inl (cZ, 8, .inl (M 2)))] := hD
    rw [show st_swK K M w = st_ks K 4 0 (M 0 w) from me_swf b12, show st_swM K M w x = M from me_swf b12]
    have hP9 := me_subP (ws' := [(a 0, .inr (1, [.ref (a 1), .ref (a 2), .ref (a 3), .ref (a 4), .ref (a 5), .ref (a 6), .int ((st_ks K 4 0 (M 0 w)) 5 0), .int ((st_ks K 4 0 (M 0 w)) 6 0)])), (a 1, .inl (cI, 4, .inl ((st_ks K 4 0 (M 0 w)) 4))), (a 2, .inl (cI, 24, .inl ((st_ks K 4 0 (M 0 w)) 0))), (a 3, .inl (cI, 24, .inl ((st_ks K 4 0 (M 0 w)) 1))), (a 4, .inl (cI, 24, .inl ((st_ks K 4 0 (M 0 w)) 2))), (a 5, .inl (cI, 24, .inl ((st_ks K 4 0 (M 0 w)) 3))), (b 0, .inr (2, [.ref (b 1), .ref (b 2), .ref (b 3)])), (b 1, .inl (cI, 32, .inl (M 0))), (b 2, .inl (cI, 32, .inl (M 1))), (b 3, .inl (cZ, 8, .inl (M 2)))]) hP [0, 1, 2, 3, 4, 5, 6, 7, 8, 9] rfl
    have hD9 := hD.sub (ws' := [(a 0, .inr (1, [.ref (a 1), .ref (a 2), .ref (a 3), .ref (a 4), .ref (a 5), .ref (a 6), .int ((st_ks K 4 0 (M 0 w)) 5 0), .int ((st_ks K 4 0 (M 0 w)) 6 0)])), (a 1, .inl (cI, 4, .inl ((st_ks K 4 0 (M 0 w)) 4))), (a 2, .inl (cI, 24, .inl ((st_ks K 4 0 (M 0 w)) 0))), (a 3, .inl (cI, 24, .inl ((st_ks K 4 0 (M 0 w)) 1))), (a 4, .inl (cI, 24, .inl ((st_ks K 4 0 (M 0 w)) 2))), (a 5, .inl (cI, 24, .inl ((st_ks K 4 0 (M 0 w)) 3))), (b 0, .inr (2, [.ref (b 1), .ref (b 2), .ref (b 3)])), (b 1, .inl (cI, 32, .inl (M 0))), (b 2, .inl (cI, 32, .inl (M 1))), (b 3, .inl (cZ, 8, .inl (M 2)))]) [0, 1, 2, 3, 4, 5, 6, 7, 8, 9] (by decide) rfl
    exact me_retV hx hb hr hlk hK hS dX1_swap_41 hP9 hD9
  · refine lv_aload_n hx hb dX1_swap_15 rfl (lv_at hl 3 rfl) ?_
    refine lv_iload_n hx hb dX1_swap_16 rfl (lv_at hl 1 rfl) ?_
    refine lv_aload_n hx hb dX1_swap_17 rfl (lv_at hl 0 rfl) ?_
    refine va_get (D := D) (ci := 1) (v := .ref (a 1)) (C := RX1) (T := TX1) (N := 8) hx hb hg inX1 hown hK hP 0 rfl rfl 0 (by decide) (hg _ bw_1_67) (fun _ h9 => h9) rfl dX1_swap_18 ?_
    refine lv_iload_n hx hb dX1_swap_21 rfl (lv_at hl 2 rfl) ?_
    refine me_ild hx hb hK hP 1 0 rfl rfl (x) (rfl) (by omega) (by omega) dX1_swap_22 ?_
    refine me_goV (wr := [(a 0, .inr (1, [.ref (a 1), .ref (a 2), .ref (a 3), .ref (a 4), .ref (a 5), .ref (a 6), .int (K 5 0), .int (K 6 0)])), (a 1, .inl (cI, 4, .inl (K 4))), (a 2, .inl (cI, 24, .inl (K 0))), (a 3, .inl (cI, 24, .inl (K 1))), (a 4, .inl (cI, 24, .inl (K 2))), (a 5, .inl (cI, 24, .inl (K 3)))]) (wc := [(b 0, .inr (2, [.ref (b 1), .ref (b 2), .ref (b 3)])), (b 1, .inl (cI, 32, .inl (M 0))), (b 2, .inl (cI, 32, .inl (M 1))), (b 3, .inl (cZ, 8, .inl (M 2)))]) (w1 := [(b 0, .inr (2, [.ref (b 1), .ref (b 2), .ref (b 3)])), (b 1, .inl (cI, 32, .inl ((st_wr M w (K 4 x)) 0))), (b 2, .inl (cI, 32, .inl ((st_wr M w (K 4 x)) 1))), (b 3, .inl (cZ, 8, .inl ((st_wr M w (K 4 x)) 2)))]) (va_runVN (C := RX2) (b := b 0) (As := [.int (nI (w)), .int (K 4 x)]) (rest := []) ⟨hx, hb, hml, hown, hg⟩ (c_sm_write l D cI cZ cR b M w (K 4 x) hw s.heap.size) ⟨va_cnB 2 hg (bg_gi (fun _ h => h) bw_1_165) rfl rfl rfl (hN.1 _ ne_5) (hg _ bw_1_2) (by decide +kernel) ⟨Nat.le_of_ble_eq_true rfl, Nat.le_of_ble_eq_true rfl⟩, (hg _ bw_1_164), (hg _ bw_s_10)⟩ (me_preV (wc := [(b 0, .inr (2, [.ref (b 1), .ref (b 2), .ref (b 3)])), (b 1, .inl (cI, 32, .inl (M 0))), (b 2, .inl (cI, 32, .inl (M 1))), (b 3, .inl (cZ, 8, .inl (M 2)))]) hP hD hK hN [6, 7, 8, 9] rfl (by decide) (va_recv (q0 := 6) (ci := 2) hK hP rfl rfl)) rfl rfl hl.1 rfl (lv_room (Nat.le_of_ble_eq_true rfl)) dX1_swap_23 ⟨Nat.zero_le _, Nat.zero_le _⟩) hP hD hS hA [6, 7, 8, 9] [0, 1, 2, 3, 4, 5] rfl rfl (by decide) (by decide) (fun H locs hP hD hS => ?_)
    have hP : va_P D vwCl [(a 0, .inr (1, [.ref (a 1), .ref (a 2), .ref (a 3), .ref (a 4), .ref (a 5), .ref (a 6), .int (K 5 0), .int (K 6 0)])), (a 1, .inl (cI, 4, .inl (K 4))), (a 2, .inl (cI, 24, .inl (K 0))), (a 3, .inl (cI, 24, .inl (K 1))), (a 4, .inl (cI, 24, .inl (K 2))), (a 5, .inl (cI, 24, .inl (K 3))), (b 0, .inr (2, [.ref (b 1), .ref (b 2), .ref (b 3)])), (b 1, .inl (cI, 32, .inl ((st_wr M w (K 4 x)) 0))), (b 2, .inl (cI, 32, .inl ((st_wr M w (K 4 x)) 1))), (b 3, .inl (cZ, 8, .inl ((st_wr M w (K 4 x)) 2)))] H := hP
    have hD : va_D A [(a 0, .inr (1, [.ref (a 1), .ref (a 2), .ref (a 3), .ref (a 4), .ref (a 5), .ref (a 6), .int (K 5 0), .int (K 6 0)])), (a 1, .inl (cI, 4, .inl (K 4))), (a 2, .inl (cI, 24, .inl (K 0))), (a 3, .inl (cI, 24, .inl (K 1))), (a 4, .inl (cI, 24, .inl (K 2))), (a 5, .inl (cI, 24, .inl (K 3))), (b 0, .inr (2, [.ref (b 1), .ref (b 2), .ref (b 3)])), (b 1, .inl (cI, 32, .inl ((st_wr M w (K 4 x)) 0))), (b 2, .inl (cI, 32, .inl ((st_wr M w (K 4 x)) 1))), (b 3, .inl (cZ, 8, .inl ((st_wr M w (K 4 x)) 2)))] := hD
    refine lv_goto (tgt := 41) hx hb dX1_swap_26 (by decide) ?_
    rw [show st_swK K M w = K from me_swt b12, show st_swM K M w x = st_wr M w (K 4 x) from me_swt b12]
    have hP9 := me_subP (ws' := [(a 0, .inr (1, [.ref (a 1), .ref (a 2), .ref (a 3), .ref (a 4), .ref (a 5), .ref (a 6), .int (K 5 0), .int (K 6 0)])), (a 1, .inl (cI, 4, .inl (K 4))), (a 2, .inl (cI, 24, .inl (K 0))), (a 3, .inl (cI, 24, .inl (K 1))), (a 4, .inl (cI, 24, .inl (K 2))), (a 5, .inl (cI, 24, .inl (K 3))), (b 0, .inr (2, [.ref (b 1), .ref (b 2), .ref (b 3)])), (b 1, .inl (cI, 32, .inl ((st_wr M w (K 4 x)) 0))), (b 2, .inl (cI, 32, .inl ((st_wr M w (K 4 x)) 1))), (b 3, .inl (cZ, 8, .inl ((st_wr M w (K 4 x)) 2)))]) hP [0, 1, 2, 3, 4, 5, 6, 7, 8, 9] rfl
    have hD9 := hD.sub (ws' := [(a 0, .inr (1, [.ref (a 1), .ref (a 2), .ref (a 3), .ref (a 4), .ref (a 5), .ref (a 6), .int (K 5 0), .int (K 6 0)])), (a 1, .inl (cI, 4, .inl (K 4))), (a 2, .inl (cI, 24, .inl (K 0))), (a 3, .inl (cI, 24, .inl (K 1))), (a 4, .inl (cI, 24, .inl (K 2))), (a 5, .inl (cI, 24, .inl (K 3))), (b 0, .inr (2, [.ref (b 1), .ref (b 2), .ref (b 3)])), (b 1, .inl (cI, 32, .inl ((st_wr M w (K 4 x)) 0))), (b 2, .inl (cI, 32, .inl ((st_wr M w (K 4 x)) 1))), (b 3, .inl (cZ, 8, .inl ((st_wr M w (K 4 x)) 2)))]) [0, 1, 2, 3, 4, 5, 6, 7, 8, 9] (by decide) rfl
    exact me_retV hx hb hr hlk hK hS dX1_swap_41 hP9 hD9
set_option maxHeartbeats 4000000 in
set_option maxRecDepth 100000 in
theorem c_co_begin (l : Launch) (D : va_G) (cI cZ cR : ClassId) (a : Nat → Nat) (ro : Nat) (K : st_T) : me_V l yX1_beginAgain wsX1_beginAgain ({ frames := 0, cells := 0, slots := 0, locals := 0 } : Room) D (me_TYS cI cZ cR) ([.ref (a 0)] : List Value) (w_co a cI K ++ w_bu a cI ro K) (w_co a cI (st_bg K) ++ w_bu a cI ro (st_bg K)) := by
  intro sz
  refine me_ent (cc := cX1_beginAgain) (maxL := 2) (ret := none) (Qf := me_QV D (me_TYS cI cZ cR) (w_co a cI (st_bg K) ++ w_bu a cI ro (st_bg K))) (by decide) rfl (Nat.le_of_ble_eq_true rfl) ?_
  intro p e s m below meth c A ls hx hb hr hml hts hown hlk hin hP hK hD hN hA hS hl
  have hown : s.vm.findClass RX1 = some m.cls := hown
  have hg : ∀ w9 ∈ bg, w9.before ([.ref (a 0)] : List Value).toArray s = true := fun w9 h9 => hts w9 (List.mem_cons_of_mem _ h9)
  have hl : lv_has ls 2 [(0, .ref (a 0))] := hl
  have hP : va_P D vwCl [(a 0, .inr (1, [.ref (a 1), .ref (a 2), .ref (a 3), .ref (a 4), .ref (a 5), .ref (a 6), .int (K 5 0), .int (K 6 0)])), (a 1, .inl (cI, 4, .inl (K 4))), (a 2, .inl (cI, 24, .inl (K 0))), (a 3, .inl (cI, 24, .inl (K 1))), (a 4, .inl (cI, 24, .inl (K 2))), (a 5, .inl (cI, 24, .inl (K 3))), (a 6, .inr (0, [.ref (a 7), .ref (a 8), .ref (a 9), .int (K 7 0)])), (a 7, .inl (cI, ro, .inl (K 8))), (a 8, .inl (cI, ro, .inl (K 9))), (a 9, .inl (cI, ro, .inl (K 10)))] s.heap := hP
  have hD : va_D A [(a 0, .inr (1, [.ref (a 1), .ref (a 2), .ref (a 3), .ref (a 4), .ref (a 5), .ref (a 6), .int (K 5 0), .int (K 6 0)])), (a 1, .inl (cI, 4, .inl (K 4))), (a 2, .inl (cI, 24, .inl (K 0))), (a 3, .inl (cI, 24, .inl (K 1))), (a 4, .inl (cI, 24, .inl (K 2))), (a 5, .inl (cI, 24, .inl (K 3))), (a 6, .inr (0, [.ref (a 7), .ref (a 8), .ref (a 9), .int (K 7 0)])), (a 7, .inl (cI, ro, .inl (K 8))), (a 8, .inl (cI, ro, .inl (K 9))), (a 9, .inl (cI, ro, .inl (K 10)))] := hD
  refine lv_aload_n hx hb dX1_beginAgain_0 rfl (lv_at hl 0 rfl) ?_
  refine va_get (D := D) (ci := 1) (v := .ref (a 6)) (C := RX1) (T := TX1) (N := 8) hx hb hg inX1 hown hK hP 0 rfl rfl 5 (by decide) (hg _ bw_1_73) (fun _ h9 => h9) rfl dX1_beginAgain_1 ?_
  refine lv_iconst (v := 0) hx hb dX1_beginAgain_4 (by decide) ?_
  refine va_putN (D := D) (ci := 0) (v := .int (0)) (ty := .int) (C := RX0) (T := TX0) (N := 4) hx hb hg inX0 tyX0 tyX0_ok nmX0 hown hK hP hD hS 6 rfl rfl 3 (by decide) (va_Nw.use rfl (hN.1 _ ne_3)) (fun _ h9 => h9) rfl (by decide +kernel) rfl rfl (Nat.le_of_ble_eq_true rfl) dX1_beginAgain_5 (fun H locs hP hD hS => ?_)
  have hP : va_P D vwCl [(a 0, .inr (1, [.ref (a 1), .ref (a 2), .ref (a 3), .ref (a 4), .ref (a 5), .ref (a 6), .int (K 5 0), .int (K 6 0)])), (a 1, .inl (cI, 4, .inl (K 4))), (a 2, .inl (cI, 24, .inl (K 0))), (a 3, .inl (cI, 24, .inl (K 1))), (a 4, .inl (cI, 24, .inl (K 2))), (a 5, .inl (cI, 24, .inl (K 3))), (a 6, .inr (0, [.ref (a 7), .ref (a 8), .ref (a 9), .int (0)])), (a 7, .inl (cI, ro, .inl (K 8))), (a 8, .inl (cI, ro, .inl (K 9))), (a 9, .inl (cI, ro, .inl (K 10)))] H := hP
  have hD : va_D A [(a 0, .inr (1, [.ref (a 1), .ref (a 2), .ref (a 3), .ref (a 4), .ref (a 5), .ref (a 6), .int (K 5 0), .int (K 6 0)])), (a 1, .inl (cI, 4, .inl (K 4))), (a 2, .inl (cI, 24, .inl (K 0))), (a 3, .inl (cI, 24, .inl (K 1))), (a 4, .inl (cI, 24, .inl (K 2))), (a 5, .inl (cI, 24, .inl (K 3))), (a 6, .inr (0, [.ref (a 7), .ref (a 8), .ref (a 9), .int (0)])), (a 7, .inl (cI, ro, .inl (K 8))), (a 8, .inl (cI, ro, .inl (K 9))), (a 9, .inl (cI, ro, .inl (K 10)))] := hD
  refine lv_iconst (v := 0) hx hb dX1_beginAgain_8 (by decide) ?_
  refine lv_istore_n hx hb dX1_beginAgain_9 rfl hl (by decide) rfl (fun ls hl => ?_)
  have hl : lv_has ls 2 [(1, .int (0)), (0, .ref (a 0))] := hl
  have loop10 : ∀ (d : Nat) (j : Nat) (H : Heap) (locs : List Loc) (ls : Array Slot), d = 4 - j → j ≤ 4 → va_P D vwCl [(a 0, .inr (1, [.ref (a 1), .ref (a 2), .ref (a 3), .ref (a 4), .ref (a 5), .ref (a 6), .int (K 5 0), .int (K 6 0)])), (a 1, .inl (cI, 4, .inl (st_ze (K 4) (j)))), (a 2, .inl (cI, 24, .inl (K 0))), (a 3, .inl (cI, 24, .inl (K 1))), (a 4, .inl (cI, 24, .inl (K 2))), (a 5, .inl (cI, 24, .inl (K 3))), (a 6, .inr (0, [.ref (a 7), .ref (a 8), .ref (a 9), .int (0)])), (a 7, .inl (cI, ro, .inl (K 8))), (a 8, .inl (cI, ro, .inl (K 9))), (a 9, .inl (cI, ro, .inl (K 10)))] H → va_D A [(a 0, .inr (1, [.ref (a 1), .ref (a 2), .ref (a 3), .ref (a 4), .ref (a 5), .ref (a 6), .int (K 5 0), .int (K 6 0)])), (a 1, .inl (cI, 4, .inl (st_ze (K 4) (j)))), (a 2, .inl (cI, 24, .inl (K 0))), (a 3, .inl (cI, 24, .inl (K 1))), (a 4, .inl (cI, 24, .inl (K 2))), (a 5, .inl (cI, 24, .inl (K 3))), (a 6, .inr (0, [.ref (a 7), .ref (a 8), .ref (a 9), .int (0)])), (a 7, .inl (cI, ro, .inl (K 8))), (a 8, .inl (cI, ro, .inl (K 9))), (a 9, .inl (cI, ro, .inl (K 10)))] → va_S A s.heap H locs → lv_has ls 2 [(0, .ref (a 0)), (1, .int (nI (j)))] → W p l e ({ frames := 0, cells := 0, slots := 0, locals := 0 } : Room) s m ([.ref (a 0)] : List Value).toArray below meth c H locs 0 0 (MQ below (me_QV D (me_TYS cI cZ cR) (w_co a cI (st_bg K) ++ w_bu a cI ro (st_bg K)) A) ([.ref (a 0)] : List Value).toArray s 0 0 A) (F0 m 10 ls []) := by
    intro d
    induction d with
    | zero =>
      intro j H locs ls hd h2 hP hD hS hl
      refine lv_iload_n hx hb dX1_beginAgain_10 rfl (lv_at hl 1 rfl) ?_
      refine lv_iconst (v := 4) hx hb dX1_beginAgain_11 (by decide) ?_
      refine lv_icmp_ge (tgt := 28) hx hb dX1_beginAgain_12 (by decide) (fun b12 => ?_) (fun b12 => ?_)
      · have b12 := me_le (a := 4) (b := j) (by omega) (by omega) b12
        have hj : j = 4 := by omega
        rw [hj] at hP hD
        have hP : va_P D vwCl [(a 0, .inr (1, [.ref (a 1), .ref (a 2), .ref (a 3), .ref (a 4), .ref (a 5), .ref (a 6), .int (K 5 0), .int (K 6 0)])), (a 1, .inl (cI, 4, .inl (st_ze (K 4) (4)))), (a 2, .inl (cI, 24, .inl (K 0))), (a 3, .inl (cI, 24, .inl (K 1))), (a 4, .inl (cI, 24, .inl (K 2))), (a 5, .inl (cI, 24, .inl (K 3))), (a 6, .inr (0, [.ref (a 7), .ref (a 8), .ref (a 9), .int (0)])), (a 7, .inl (cI, ro, .inl (K 8))), (a 8, .inl (cI, ro, .inl (K 9))), (a 9, .inl (cI, ro, .inl (K 10)))] H := hP
        have hD : va_D A [(a 0, .inr (1, [.ref (a 1), .ref (a 2), .ref (a 3), .ref (a 4), .ref (a 5), .ref (a 6), .int (K 5 0), .int (K 6 0)])), (a 1, .inl (cI, 4, .inl (st_ze (K 4) (4)))), (a 2, .inl (cI, 24, .inl (K 0))), (a 3, .inl (cI, 24, .inl (K 1))), (a 4, .inl (cI, 24, .inl (K 2))), (a 5, .inl (cI, 24, .inl (K 3))), (a 6, .inr (0, [.ref (a 7), .ref (a 8), .ref (a 9), .int (0)])), (a 7, .inl (cI, ro, .inl (K 8))), (a 8, .inl (cI, ro, .inl (K 9))), (a 9, .inl (cI, ro, .inl (K 10)))] := hD
        refine lv_aload_n hx hb dX1_beginAgain_28 rfl (lv_at hl 0 rfl) ?_
        refine lv_aload_n hx hb dX1_beginAgain_29 rfl (lv_at hl 0 rfl) ?_
        refine va_get (D := D) (ci := 1) (v := .int (K 6 0)) (C := RX1) (T := TX1) (N := 8) hx hb hg inX1 hown hK hP 0 rfl rfl 7 (by decide) (hg _ bw_1_78) (fun _ h9 => h9) rfl dX1_beginAgain_30 ?_
        refine va_put (D := D) (ci := 1) (v := .int (K 6 0)) (ty := .int) (C := RX1) (T := TX1) (N := 8) hx hb hg inX1 tyX1 tyX1_ok nmX1 hown hK hP hD hS 0 rfl rfl 6 (by decide) (hg _ bw_1_75) (fun _ h9 => h9) rfl (by decide +kernel) rfl rfl (Nat.le_of_ble_eq_true rfl) dX1_beginAgain_33 (fun H locs hP hD hS => ?_)
        have hP : va_P D vwCl [(a 0, .inr (1, [.ref (a 1), .ref (a 2), .ref (a 3), .ref (a 4), .ref (a 5), .ref (a 6), .int (K 6 0), .int (K 6 0)])), (a 1, .inl (cI, 4, .inl (st_ze (K 4) (4)))), (a 2, .inl (cI, 24, .inl (K 0))), (a 3, .inl (cI, 24, .inl (K 1))), (a 4, .inl (cI, 24, .inl (K 2))), (a 5, .inl (cI, 24, .inl (K 3))), (a 6, .inr (0, [.ref (a 7), .ref (a 8), .ref (a 9), .int (0)])), (a 7, .inl (cI, ro, .inl (K 8))), (a 8, .inl (cI, ro, .inl (K 9))), (a 9, .inl (cI, ro, .inl (K 10)))] H := hP
        have hD : va_D A [(a 0, .inr (1, [.ref (a 1), .ref (a 2), .ref (a 3), .ref (a 4), .ref (a 5), .ref (a 6), .int (K 6 0), .int (K 6 0)])), (a 1, .inl (cI, 4, .inl (st_ze (K 4) (4)))), (a 2, .inl (cI, 24, .inl (K 0))), (a 3, .inl (cI, 24, .inl (K 1))), (a 4, .inl (cI, 24, .inl (K 2))), (a 5, .inl (cI, 24, .inl (K 3))), (a 6, .inr (0, [.ref (a 7), .ref (a 8), .ref (a 9), .int (0)])), (a 7, .inl (cI, ro, .inl (K 8))), (a 8, .inl (cI, ro, .inl (K 9))), (a 9, .inl (cI, ro, .inl (K 10)))] := hD
        have hP9 := me_subP (ws' := [(a 0, .inr (1, [.ref (a 1), .ref (a 2), .ref (a 3), .ref (a 4), .ref (a 5), .ref (a 6), .int ((st_bg K) 5 0), .int ((st_bg K) 6 0)])), (a 1, .inl (cI, 4, .inl ((st_bg K) 4))), (a 2, .inl (cI, 24, .inl ((st_bg K) 0))), (a 3, .inl (cI, 24, .inl ((st_bg K) 1))), (a 4, .inl (cI, 24, .inl ((st_bg K) 2))), (a 5, .inl (cI, 24, .inl ((st_bg K) 3))), (a 6, .inr (0, [.ref (a 7), .ref (a 8), .ref (a 9), .int ((st_bg K) 7 0)])), (a 7, .inl (cI, ro, .inl ((st_bg K) 8))), (a 8, .inl (cI, ro, .inl ((st_bg K) 9))), (a 9, .inl (cI, ro, .inl ((st_bg K) 10)))]) hP [0, 1, 2, 3, 4, 5, 6, 7, 8, 9] rfl
        have hD9 := hD.sub (ws' := [(a 0, .inr (1, [.ref (a 1), .ref (a 2), .ref (a 3), .ref (a 4), .ref (a 5), .ref (a 6), .int ((st_bg K) 5 0), .int ((st_bg K) 6 0)])), (a 1, .inl (cI, 4, .inl ((st_bg K) 4))), (a 2, .inl (cI, 24, .inl ((st_bg K) 0))), (a 3, .inl (cI, 24, .inl ((st_bg K) 1))), (a 4, .inl (cI, 24, .inl ((st_bg K) 2))), (a 5, .inl (cI, 24, .inl ((st_bg K) 3))), (a 6, .inr (0, [.ref (a 7), .ref (a 8), .ref (a 9), .int ((st_bg K) 7 0)])), (a 7, .inl (cI, ro, .inl ((st_bg K) 8))), (a 8, .inl (cI, ro, .inl ((st_bg K) 9))), (a 9, .inl (cI, ro, .inl ((st_bg K) 10)))]) [0, 1, 2, 3, 4, 5, 6, 7, 8, 9] (by decide) rfl
        exact me_retV hx hb hr hlk hK hS dX1_beginAgain_36 hP9 hD9
      · have b12 := me_nle (a := 4) (b := j) (by omega) (by omega) b12
        exfalso
        omega
    | succ d ih =>
      intro j H locs ls hd h2 hP hD hS hl
      refine lv_iload_n hx hb dX1_beginAgain_10 rfl (lv_at hl 1 rfl) ?_
      refine lv_iconst (v := 4) hx hb dX1_beginAgain_11 (by decide) ?_
      refine lv_icmp_ge (tgt := 28) hx hb dX1_beginAgain_12 (by decide) (fun b12 => ?_) (fun b12 => ?_)
      · have b12 := me_le (a := 4) (b := j) (by omega) (by omega) b12
        exfalso
        omega
      · have b12 := me_nle (a := 4) (b := j) (by omega) (by omega) b12
        refine lv_aload_n hx hb dX1_beginAgain_15 rfl (lv_at hl 0 rfl) ?_
        refine va_get (D := D) (ci := 1) (v := .ref (a 1)) (C := RX1) (T := TX1) (N := 8) hx hb hg inX1 hown hK hP 0 rfl rfl 0 (by decide) (hg _ bw_1_67) (fun _ h9 => h9) rfl dX1_beginAgain_16 ?_
        refine lv_iload_n hx hb dX1_beginAgain_19 rfl (lv_at hl 1 rfl) ?_
        refine lv_iconst (v := 0) hx hb dX1_beginAgain_20 (by decide) ?_
        refine me_ist hx hb hK hP hD hS 1 0 rfl rfl (j) (rfl) (by omega) (by omega) dX1_beginAgain_21 (fun H locs hP hD hS => ?_)
        have hP : va_P D vwCl [(a 0, .inr (1, [.ref (a 1), .ref (a 2), .ref (a 3), .ref (a 4), .ref (a 5), .ref (a 6), .int (K 5 0), .int (K 6 0)])), (a 1, .inl (cI, 4, .inl (upd (st_ze (K 4) (j)) (j) (0)))), (a 2, .inl (cI, 24, .inl (K 0))), (a 3, .inl (cI, 24, .inl (K 1))), (a 4, .inl (cI, 24, .inl (K 2))), (a 5, .inl (cI, 24, .inl (K 3))), (a 6, .inr (0, [.ref (a 7), .ref (a 8), .ref (a 9), .int (0)])), (a 7, .inl (cI, ro, .inl (K 8))), (a 8, .inl (cI, ro, .inl (K 9))), (a 9, .inl (cI, ro, .inl (K 10)))] H := hP
        have hD : va_D A [(a 0, .inr (1, [.ref (a 1), .ref (a 2), .ref (a 3), .ref (a 4), .ref (a 5), .ref (a 6), .int (K 5 0), .int (K 6 0)])), (a 1, .inl (cI, 4, .inl (upd (st_ze (K 4) (j)) (j) (0)))), (a 2, .inl (cI, 24, .inl (K 0))), (a 3, .inl (cI, 24, .inl (K 1))), (a 4, .inl (cI, 24, .inl (K 2))), (a 5, .inl (cI, 24, .inl (K 3))), (a 6, .inr (0, [.ref (a 7), .ref (a 8), .ref (a 9), .int (0)])), (a 7, .inl (cI, ro, .inl (K 8))), (a 8, .inl (cI, ro, .inl (K 9))), (a 9, .inl (cI, ro, .inl (K 10)))] := hD
        refine lv_iinc (k := 1) (v := nI (j + 1)) hx hb dX1_beginAgain_22 hl rfl (me_inc (j)) (by decide) rfl (fun ls hl => ?_)
        have hl : lv_has ls 2 [(1, .int (nI (j + 1))), (0, .ref (a 0))] := hl
        refine lv_goto (tgt := 10) hx hb dX1_beginAgain_25 (by decide) ?_
        have hP := me_subP (ws' := [(a 0, .inr (1, [.ref (a 1), .ref (a 2), .ref (a 3), .ref (a 4), .ref (a 5), .ref (a 6), .int (K 5 0), .int (K 6 0)])), (a 1, .inl (cI, 4, .inl (upd (st_ze (K 4) (j)) (j) (0)))), (a 2, .inl (cI, 24, .inl (K 0))), (a 3, .inl (cI, 24, .inl (K 1))), (a 4, .inl (cI, 24, .inl (K 2))), (a 5, .inl (cI, 24, .inl (K 3))), (a 6, .inr (0, [.ref (a 7), .ref (a 8), .ref (a 9), .int (0)])), (a 7, .inl (cI, ro, .inl (K 8))), (a 8, .inl (cI, ro, .inl (K 9))), (a 9, .inl (cI, ro, .inl (K 10)))]) hP [0, 1, 2, 3, 4, 5, 6, 7, 8, 9] rfl
        have hD := hD.sub (ws' := [(a 0, .inr (1, [.ref (a 1), .ref (a 2), .ref (a 3), .ref (a 4), .ref (a 5), .ref (a 6), .int (K 5 0), .int (K 6 0)])), (a 1, .inl (cI, 4, .inl (upd (st_ze (K 4) (j)) (j) (0)))), (a 2, .inl (cI, 24, .inl (K 0))), (a 3, .inl (cI, 24, .inl (K 1))), (a 4, .inl (cI, 24, .inl (K 2))), (a 5, .inl (cI, 24, .inl (K 3))), (a 6, .inr (0, [.ref (a 7), .ref (a 8), .ref (a 9), .int (0)])), (a 7, .inl (cI, ro, .inl (K 8))), (a 8, .inl (cI, ro, .inl (K 9))), (a 9, .inl (cI, ro, .inl (K 10)))]) [0, 1, 2, 3, 4, 5, 6, 7, 8, 9] (by decide) rfl
        have hP : va_P D vwCl [(a 0, .inr (1, [.ref (a 1), .ref (a 2), .ref (a 3), .ref (a 4), .ref (a 5), .ref (a 6), .int (K 5 0), .int (K 6 0)])), (a 1, .inl (cI, 4, .inl (st_ze (K 4) (j + 1)))), (a 2, .inl (cI, 24, .inl (K 0))), (a 3, .inl (cI, 24, .inl (K 1))), (a 4, .inl (cI, 24, .inl (K 2))), (a 5, .inl (cI, 24, .inl (K 3))), (a 6, .inr (0, [.ref (a 7), .ref (a 8), .ref (a 9), .int (0)])), (a 7, .inl (cI, ro, .inl (K 8))), (a 8, .inl (cI, ro, .inl (K 9))), (a 9, .inl (cI, ro, .inl (K 10)))] H := by rw [← st_zeS]; exact hP
        have hD : va_D A [(a 0, .inr (1, [.ref (a 1), .ref (a 2), .ref (a 3), .ref (a 4), .ref (a 5), .ref (a 6), .int (K 5 0), .int (K 6 0)])), (a 1, .inl (cI, 4, .inl (st_ze (K 4) (j + 1)))), (a 2, .inl (cI, 24, .inl (K 0))), (a 3, .inl (cI, 24, .inl (K 1))), (a 4, .inl (cI, 24, .inl (K 2))), (a 5, .inl (cI, 24, .inl (K 3))), (a 6, .inr (0, [.ref (a 7), .ref (a 8), .ref (a 9), .int (0)])), (a 7, .inl (cI, ro, .inl (K 8))), (a 8, .inl (cI, ro, .inl (K 9))), (a 9, .inl (cI, ro, .inl (K 10)))] := by rw [← st_zeS]; exact hD
        have hl := lv_sub (l' := [(0, .ref (a 0)), (1, .int (nI (j + 1)))]) hl [1, 0] rfl
        exact ih (j + 1) _ _ _ (by omega) (by omega) hP hD hS hl
  have hP := me_subP (ws' := [(a 0, .inr (1, [.ref (a 1), .ref (a 2), .ref (a 3), .ref (a 4), .ref (a 5), .ref (a 6), .int (K 5 0), .int (K 6 0)])), (a 1, .inl (cI, 4, .inl (K 4))), (a 2, .inl (cI, 24, .inl (K 0))), (a 3, .inl (cI, 24, .inl (K 1))), (a 4, .inl (cI, 24, .inl (K 2))), (a 5, .inl (cI, 24, .inl (K 3))), (a 6, .inr (0, [.ref (a 7), .ref (a 8), .ref (a 9), .int (0)])), (a 7, .inl (cI, ro, .inl (K 8))), (a 8, .inl (cI, ro, .inl (K 9))), (a 9, .inl (cI, ro, .inl (K 10)))]) hP [0, 1, 2, 3, 4, 5, 6, 7, 8, 9] rfl
  have hD := hD.sub (ws' := [(a 0, .inr (1, [.ref (a 1), .ref (a 2), .ref (a 3), .ref (a 4), .ref (a 5), .ref (a 6), .int (K 5 0), .int (K 6 0)])), (a 1, .inl (cI, 4, .inl (K 4))), (a 2, .inl (cI, 24, .inl (K 0))), (a 3, .inl (cI, 24, .inl (K 1))), (a 4, .inl (cI, 24, .inl (K 2))), (a 5, .inl (cI, 24, .inl (K 3))), (a 6, .inr (0, [.ref (a 7), .ref (a 8), .ref (a 9), .int (0)])), (a 7, .inl (cI, ro, .inl (K 8))), (a 8, .inl (cI, ro, .inl (K 9))), (a 9, .inl (cI, ro, .inl (K 10)))]) [0, 1, 2, 3, 4, 5, 6, 7, 8, 9] (by decide) rfl
  have hP : va_P D vwCl [(a 0, .inr (1, [.ref (a 1), .ref (a 2), .ref (a 3), .ref (a 4), .ref (a 5), .ref (a 6), .int (K 5 0), .int (K 6 0)])), (a 1, .inl (cI, 4, .inl (st_ze (K 4) (0)))), (a 2, .inl (cI, 24, .inl (K 0))), (a 3, .inl (cI, 24, .inl (K 1))), (a 4, .inl (cI, 24, .inl (K 2))), (a 5, .inl (cI, 24, .inl (K 3))), (a 6, .inr (0, [.ref (a 7), .ref (a 8), .ref (a 9), .int (0)])), (a 7, .inl (cI, ro, .inl (K 8))), (a 8, .inl (cI, ro, .inl (K 9))), (a 9, .inl (cI, ro, .inl (K 10)))] H := by rw [st_ze0]; exact hP
  have hD : va_D A [(a 0, .inr (1, [.ref (a 1), .ref (a 2), .ref (a 3), .ref (a 4), .ref (a 5), .ref (a 6), .int (K 5 0), .int (K 6 0)])), (a 1, .inl (cI, 4, .inl (st_ze (K 4) (0)))), (a 2, .inl (cI, 24, .inl (K 0))), (a 3, .inl (cI, 24, .inl (K 1))), (a 4, .inl (cI, 24, .inl (K 2))), (a 5, .inl (cI, 24, .inl (K 3))), (a 6, .inr (0, [.ref (a 7), .ref (a 8), .ref (a 9), .int (0)])), (a 7, .inl (cI, ro, .inl (K 8))), (a 8, .inl (cI, ro, .inl (K 9))), (a 9, .inl (cI, ro, .inl (K 10)))] := by rw [st_ze0]; exact hD
  have hl := lv_sub (l' := [(0, .ref (a 0)), (1, .int (nI (0)))]) hl [1, 0] rfl
  exact loop10 _ 0 _ _ _ rfl (by omega) hP hD hS hl
set_option maxHeartbeats 4000000 in
set_option maxRecDepth 100000 in
theorem c_co_perform (l : Launch) (D : va_G) (cI cZ cR : ClassId) (a b : Nat → Nat) (ro : Nat) (K M : st_T) (z : Nat) (hh : K 7 0 = nI (st_h K)) (hb1 : st_h K ≤ ro) (hro : ro ≤ 8) (hp : K 5 0 = nI (st_p K)) (hp1 : st_p K < 24) (hX : K 1 (st_p K) = nI (st_x K)) (hX1 : st_x K < 4) (hY : K 2 (st_p K) = nI (st_y K)) (hY1 : st_y K < 4) (hz : K 0 (st_p K) = nI z) (hz1 : z ≤ 10) (hnw : ¬ st_wq ro K (nI z)) : me_V l yX1_perform wsX1_perform ({ frames := 2, cells := 0, slots := 0, locals := 45 } : Room) D (me_TYS cI cZ cR) ([.ref (a 0), .ref (b 0)] : List Value) (w_co a cI K ++ w_bu a cI ro K ++ w_sh b cI cZ M) (w_co a cI (st_peK K M) ++ w_bu a cI ro (st_peK K M) ++ w_sh b cI cZ (st_peM K M)) := by
  intro sz
  refine me_ent (cc := cX1_perform) (maxL := 6) (ret := none) (Qf := me_QV D (me_TYS cI cZ cR) (w_co a cI (st_peK K M) ++ w_bu a cI ro (st_peK K M) ++ w_sh b cI cZ (st_peM K M))) (by decide) rfl (Nat.le_of_ble_eq_true rfl) ?_
  intro p e s m below meth c A ls hx hb hr hml hts hown hlk hin hP hK hD hN hA hS hl
  have hown : s.vm.findClass RX1 = some m.cls := hown
  have hg : ∀ w9 ∈ bg, w9.before ([.ref (a 0), .ref (b 0)] : List Value).toArray s = true := fun w9 h9 => hts w9 (List.mem_cons_of_mem _ h9)
  have hl : lv_has ls 6 [(0, .ref (a 0)), (1, .ref (b 0))] := hl
  have hP : va_P D vwCl [(a 0, .inr (1, [.ref (a 1), .ref (a 2), .ref (a 3), .ref (a 4), .ref (a 5), .ref (a 6), .int (K 5 0), .int (K 6 0)])), (a 1, .inl (cI, 4, .inl (K 4))), (a 2, .inl (cI, 24, .inl (K 0))), (a 3, .inl (cI, 24, .inl (K 1))), (a 4, .inl (cI, 24, .inl (K 2))), (a 5, .inl (cI, 24, .inl (K 3))), (a 6, .inr (0, [.ref (a 7), .ref (a 8), .ref (a 9), .int (K 7 0)])), (a 7, .inl (cI, ro, .inl (K 8))), (a 8, .inl (cI, ro, .inl (K 9))), (a 9, .inl (cI, ro, .inl (K 10))), (b 0, .inr (2, [.ref (b 1), .ref (b 2), .ref (b 3)])), (b 1, .inl (cI, 32, .inl (M 0))), (b 2, .inl (cI, 32, .inl (M 1))), (b 3, .inl (cZ, 8, .inl (M 2)))] s.heap := hP
  have hD : va_D A [(a 0, .inr (1, [.ref (a 1), .ref (a 2), .ref (a 3), .ref (a 4), .ref (a 5), .ref (a 6), .int (K 5 0), .int (K 6 0)])), (a 1, .inl (cI, 4, .inl (K 4))), (a 2, .inl (cI, 24, .inl (K 0))), (a 3, .inl (cI, 24, .inl (K 1))), (a 4, .inl (cI, 24, .inl (K 2))), (a 5, .inl (cI, 24, .inl (K 3))), (a 6, .inr (0, [.ref (a 7), .ref (a 8), .ref (a 9), .int (K 7 0)])), (a 7, .inl (cI, ro, .inl (K 8))), (a 8, .inl (cI, ro, .inl (K 9))), (a 9, .inl (cI, ro, .inl (K 10))), (b 0, .inr (2, [.ref (b 1), .ref (b 2), .ref (b 3)])), (b 1, .inl (cI, 32, .inl (M 0))), (b 2, .inl (cI, 32, .inl (M 1))), (b 3, .inl (cZ, 8, .inl (M 2)))] := hD
  obtain ⟨ha, ha1⟩ := st_aI K
  rcases (show z = 0 ∨ z = 1 ∨ z = 2 ∨ z = 3 ∨ z = 4 ∨ z = 5 ∨ z = 6 ∨ z = 7 ∨ z = 8 ∨ z = 9 ∨ z = 10 by omega) with rfl | rfl | rfl | rfl | rfl | rfl | rfl | rfl | rfl | rfl | rfl
  · have hl : lv_has ls 6 [(0, .ref (a 0)), (1, .ref (b 0))] := hl
    refine lv_aload_n hx hb dX1_perform_0 rfl (lv_at hl 0 rfl) ?_
    refine va_get (D := D) (ci := 1) (v := .ref (a 3)) (C := RX1) (T := TX1) (N := 8) hx hb hg inX1 hown hK hP 0 rfl rfl 2 (by decide) (hg _ bw_1_70) (fun _ h9 => h9) rfl dX1_perform_1 ?_
    refine lv_aload_n hx hb dX1_perform_4 rfl (lv_at hl 0 rfl) ?_
    refine va_get (D := D) (ci := 1) (v := .int (K 5 0)) (C := RX1) (T := TX1) (N := 8) hx hb hg inX1 hown hK hP 0 rfl rfl 6 (by decide) (hg _ bw_1_75) (fun _ h9 => h9) rfl dX1_perform_5 ?_
    refine me_t (x := K 5 0) (y := nI (st_p K)) (hp) ?_
    refine me_ild hx hb hK hP 3 0 rfl rfl (st_p K) (rfl) (by omega) (by omega) dX1_perform_8 ?_
    refine me_t (x := K 1 (st_p K)) (y := nI (st_x K)) (hX) ?_
    refine lv_istore_n hx hb dX1_perform_9 rfl hl (by decide) rfl (fun ls hl => ?_)
    have hl : lv_has ls 6 [(2, .int (nI (st_x K))), (0, .ref (a 0)), (1, .ref (b 0))] := hl
    refine lv_aload_n hx hb dX1_perform_10 rfl (lv_at hl 1 rfl) ?_
    refine va_get (D := D) (ci := 1) (v := .ref (a 4)) (C := RX1) (T := TX1) (N := 8) hx hb hg inX1 hown hK hP 0 rfl rfl 3 (by decide) (hg _ bw_1_71) (fun _ h9 => h9) rfl dX1_perform_11 ?_
    refine lv_aload_n hx hb dX1_perform_14 rfl (lv_at hl 1 rfl) ?_
    refine va_get (D := D) (ci := 1) (v := .int (K 5 0)) (C := RX1) (T := TX1) (N := 8) hx hb hg inX1 hown hK hP 0 rfl rfl 6 (by decide) (hg _ bw_1_75) (fun _ h9 => h9) rfl dX1_perform_15 ?_
    refine me_t (x := K 5 0) (y := nI (st_p K)) (hp) ?_
    refine me_ild hx hb hK hP 4 0 rfl rfl (st_p K) (rfl) (by omega) (by omega) dX1_perform_18 ?_
    refine me_t (x := K 2 (st_p K)) (y := nI (st_y K)) (hY) ?_
    refine lv_istore_n hx hb dX1_perform_19 rfl hl (by decide) rfl (fun ls hl => ?_)
    have hl : lv_has ls 6 [(3, .int (nI (st_y K))), (2, .int (nI (st_x K))), (0, .ref (a 0)), (1, .ref (b 0))] := hl
    refine lv_aload_n hx hb dX1_perform_20 rfl (lv_at hl 2 rfl) ?_
    refine va_get (D := D) (ci := 1) (v := .ref (a 5)) (C := RX1) (T := TX1) (N := 8) hx hb hg inX1 hown hK hP 0 rfl rfl 4 (by decide) (hg _ bw_1_72) (fun _ h9 => h9) rfl dX1_perform_21 ?_
    refine lv_aload_n hx hb dX1_perform_24 rfl (lv_at hl 2 rfl) ?_
    refine va_get (D := D) (ci := 1) (v := .int (K 5 0)) (C := RX1) (T := TX1) (N := 8) hx hb hg inX1 hown hK hP 0 rfl rfl 6 (by decide) (hg _ bw_1_75) (fun _ h9 => h9) rfl dX1_perform_25 ?_
    refine me_t (x := K 5 0) (y := nI (st_p K)) (hp) ?_
    refine me_ild hx hb hK hP 5 0 rfl rfl (st_p K) (rfl) (by omega) (by omega) dX1_perform_28 ?_
    refine lv_istore hx hb dX1_perform_29 hl (by decide) rfl (fun ls hl => ?_)
    have hl : lv_has ls 6 [(4, .int (K 3 (st_p K))), (3, .int (nI (st_y K))), (2, .int (nI (st_x K))), (0, .ref (a 0)), (1, .ref (b 0))] := hl
    refine lv_aload_n hx hb dX1_perform_31 rfl (lv_at hl 3 rfl) ?_
    refine va_get (D := D) (ci := 1) (v := .ref (a 1)) (C := RX1) (T := TX1) (N := 8) hx hb hg inX1 hown hK hP 0 rfl rfl 0 (by decide) (hg _ bw_1_67) (fun _ h9 => h9) rfl dX1_perform_32 ?_
    refine lv_iload_n hx hb dX1_perform_35 rfl (lv_at hl 1 rfl) ?_
    refine me_ild hx hb hK hP 1 0 rfl rfl (st_y K) (rfl) (by omega) (by omega) dX1_perform_36 ?_
    refine lv_iload hx hb dX1_perform_37 (lv_at hl 0 rfl) ?_
    refine lv_iadd hx hb dX1_perform_39 ?_
    refine me_t (x := (K 4 (st_y K)) + (K 3 (st_p K))) (y := K 4 (st_y K) + K 3 (st_p K)) (rfl) ?_
    refine lv_bipush (v := 31) hx hb dX1_perform_40 (by decide) ?_
    refine lv_iand hx hb dX1_perform_42 ?_
    refine me_t (x := (K 4 (st_y K) + K 3 (st_p K)) &&& 31) (y := nI (st_a K)) (ha) ?_
    refine lv_istore hx hb dX1_perform_43 hl (by decide) rfl (fun ls hl => ?_)
    have hl : lv_has ls 6 [(5, .int (nI (st_a K))), (4, .int (K 3 (st_p K))), (3, .int (nI (st_y K))), (2, .int (nI (st_x K))), (0, .ref (a 0)), (1, .ref (b 0))] := hl
    refine lv_aload_n hx hb dX1_perform_45 rfl (lv_at hl 4 rfl) ?_
    refine va_get (D := D) (ci := 1) (v := .ref (a 2)) (C := RX1) (T := TX1) (N := 8) hx hb hg inX1 hown hK hP 0 rfl rfl 1 (by decide) (hg _ bw_1_69) (fun _ h9 => h9) rfl dX1_perform_46 ?_
    refine lv_aload_n hx hb dX1_perform_49 rfl (lv_at hl 4 rfl) ?_
    refine va_get (D := D) (ci := 1) (v := .int (K 5 0)) (C := RX1) (T := TX1) (N := 8) hx hb hg inX1 hown hK hP 0 rfl rfl 6 (by decide) (hg _ bw_1_75) (fun _ h9 => h9) rfl dX1_perform_50 ?_
    refine me_t (x := K 5 0) (y := nI (st_p K)) (hp) ?_
    refine me_ild hx hb hK hP 2 0 rfl rfl (st_p K) (rfl) (by omega) (by omega) dX1_perform_53 ?_
    refine me_t (x := K 0 (st_p K)) (y := nI (0)) (hz) ?_
    refine lv_tableOut (tgt := 237) hx hb dX1_perform_54 (by decide) (by decide) ?_
    rw [st_peK_0 hz, st_peM_0 hz]
    have hP9 := me_subP (ws' := [(a 0, .inr (1, [.ref (a 1), .ref (a 2), .ref (a 3), .ref (a 4), .ref (a 5), .ref (a 6), .int (K 5 0), .int (K 6 0)])), (a 1, .inl (cI, 4, .inl (K 4))), (a 2, .inl (cI, 24, .inl (K 0))), (a 3, .inl (cI, 24, .inl (K 1))), (a 4, .inl (cI, 24, .inl (K 2))), (a 5, .inl (cI, 24, .inl (K 3))), (a 6, .inr (0, [.ref (a 7), .ref (a 8), .ref (a 9), .int (K 7 0)])), (a 7, .inl (cI, ro, .inl (K 8))), (a 8, .inl (cI, ro, .inl (K 9))), (a 9, .inl (cI, ro, .inl (K 10))), (b 0, .inr (2, [.ref (b 1), .ref (b 2), .ref (b 3)])), (b 1, .inl (cI, 32, .inl (M 0))), (b 2, .inl (cI, 32, .inl (M 1))), (b 3, .inl (cZ, 8, .inl (M 2)))]) hP [0, 1, 2, 3, 4, 5, 6, 7, 8, 9, 10, 11, 12, 13] rfl
    have hD9 := hD.sub (ws' := [(a 0, .inr (1, [.ref (a 1), .ref (a 2), .ref (a 3), .ref (a 4), .ref (a 5), .ref (a 6), .int (K 5 0), .int (K 6 0)])), (a 1, .inl (cI, 4, .inl (K 4))), (a 2, .inl (cI, 24, .inl (K 0))), (a 3, .inl (cI, 24, .inl (K 1))), (a 4, .inl (cI, 24, .inl (K 2))), (a 5, .inl (cI, 24, .inl (K 3))), (a 6, .inr (0, [.ref (a 7), .ref (a 8), .ref (a 9), .int (K 7 0)])), (a 7, .inl (cI, ro, .inl (K 8))), (a 8, .inl (cI, ro, .inl (K 9))), (a 9, .inl (cI, ro, .inl (K 10))), (b 0, .inr (2, [.ref (b 1), .ref (b 2), .ref (b 3)])), (b 1, .inl (cI, 32, .inl (M 0))), (b 2, .inl (cI, 32, .inl (M 1))), (b 3, .inl (cZ, 8, .inl (M 2)))]) [0, 1, 2, 3, 4, 5, 6, 7, 8, 9, 10, 11, 12, 13] (by decide) rfl
    exact me_retV hx hb hr hlk hK hS dX1_perform_237 hP9 hD9
  · have hl : lv_has ls 6 [(0, .ref (a 0)), (1, .ref (b 0))] := hl
    refine lv_aload_n hx hb dX1_perform_0 rfl (lv_at hl 0 rfl) ?_
    refine va_get (D := D) (ci := 1) (v := .ref (a 3)) (C := RX1) (T := TX1) (N := 8) hx hb hg inX1 hown hK hP 0 rfl rfl 2 (by decide) (hg _ bw_1_70) (fun _ h9 => h9) rfl dX1_perform_1 ?_
    refine lv_aload_n hx hb dX1_perform_4 rfl (lv_at hl 0 rfl) ?_
    refine va_get (D := D) (ci := 1) (v := .int (K 5 0)) (C := RX1) (T := TX1) (N := 8) hx hb hg inX1 hown hK hP 0 rfl rfl 6 (by decide) (hg _ bw_1_75) (fun _ h9 => h9) rfl dX1_perform_5 ?_
    refine me_t (x := K 5 0) (y := nI (st_p K)) (hp) ?_
    refine me_ild hx hb hK hP 3 0 rfl rfl (st_p K) (rfl) (by omega) (by omega) dX1_perform_8 ?_
    refine me_t (x := K 1 (st_p K)) (y := nI (st_x K)) (hX) ?_
    refine lv_istore_n hx hb dX1_perform_9 rfl hl (by decide) rfl (fun ls hl => ?_)
    have hl : lv_has ls 6 [(2, .int (nI (st_x K))), (0, .ref (a 0)), (1, .ref (b 0))] := hl
    refine lv_aload_n hx hb dX1_perform_10 rfl (lv_at hl 1 rfl) ?_
    refine va_get (D := D) (ci := 1) (v := .ref (a 4)) (C := RX1) (T := TX1) (N := 8) hx hb hg inX1 hown hK hP 0 rfl rfl 3 (by decide) (hg _ bw_1_71) (fun _ h9 => h9) rfl dX1_perform_11 ?_
    refine lv_aload_n hx hb dX1_perform_14 rfl (lv_at hl 1 rfl) ?_
    refine va_get (D := D) (ci := 1) (v := .int (K 5 0)) (C := RX1) (T := TX1) (N := 8) hx hb hg inX1 hown hK hP 0 rfl rfl 6 (by decide) (hg _ bw_1_75) (fun _ h9 => h9) rfl dX1_perform_15 ?_
    refine me_t (x := K 5 0) (y := nI (st_p K)) (hp) ?_
    refine me_ild hx hb hK hP 4 0 rfl rfl (st_p K) (rfl) (by omega) (by omega) dX1_perform_18 ?_
    refine me_t (x := K 2 (st_p K)) (y := nI (st_y K)) (hY) ?_
    refine lv_istore_n hx hb dX1_perform_19 rfl hl (by decide) rfl (fun ls hl => ?_)
    have hl : lv_has ls 6 [(3, .int (nI (st_y K))), (2, .int (nI (st_x K))), (0, .ref (a 0)), (1, .ref (b 0))] := hl
    refine lv_aload_n hx hb dX1_perform_20 rfl (lv_at hl 2 rfl) ?_
    refine va_get (D := D) (ci := 1) (v := .ref (a 5)) (C := RX1) (T := TX1) (N := 8) hx hb hg inX1 hown hK hP 0 rfl rfl 4 (by decide) (hg _ bw_1_72) (fun _ h9 => h9) rfl dX1_perform_21 ?_
    refine lv_aload_n hx hb dX1_perform_24 rfl (lv_at hl 2 rfl) ?_
    refine va_get (D := D) (ci := 1) (v := .int (K 5 0)) (C := RX1) (T := TX1) (N := 8) hx hb hg inX1 hown hK hP 0 rfl rfl 6 (by decide) (hg _ bw_1_75) (fun _ h9 => h9) rfl dX1_perform_25 ?_
    refine me_t (x := K 5 0) (y := nI (st_p K)) (hp) ?_
    refine me_ild hx hb hK hP 5 0 rfl rfl (st_p K) (rfl) (by omega) (by omega) dX1_perform_28 ?_
    refine lv_istore hx hb dX1_perform_29 hl (by decide) rfl (fun ls hl => ?_)
    have hl : lv_has ls 6 [(4, .int (K 3 (st_p K))), (3, .int (nI (st_y K))), (2, .int (nI (st_x K))), (0, .ref (a 0)), (1, .ref (b 0))] := hl
    refine lv_aload_n hx hb dX1_perform_31 rfl (lv_at hl 3 rfl) ?_
    refine va_get (D := D) (ci := 1) (v := .ref (a 1)) (C := RX1) (T := TX1) (N := 8) hx hb hg inX1 hown hK hP 0 rfl rfl 0 (by decide) (hg _ bw_1_67) (fun _ h9 => h9) rfl dX1_perform_32 ?_
    refine lv_iload_n hx hb dX1_perform_35 rfl (lv_at hl 1 rfl) ?_
    refine me_ild hx hb hK hP 1 0 rfl rfl (st_y K) (rfl) (by omega) (by omega) dX1_perform_36 ?_
    refine lv_iload hx hb dX1_perform_37 (lv_at hl 0 rfl) ?_
    refine lv_iadd hx hb dX1_perform_39 ?_
    refine me_t (x := (K 4 (st_y K)) + (K 3 (st_p K))) (y := K 4 (st_y K) + K 3 (st_p K)) (rfl) ?_
    refine lv_bipush (v := 31) hx hb dX1_perform_40 (by decide) ?_
    refine lv_iand hx hb dX1_perform_42 ?_
    refine me_t (x := (K 4 (st_y K) + K 3 (st_p K)) &&& 31) (y := nI (st_a K)) (ha) ?_
    refine lv_istore hx hb dX1_perform_43 hl (by decide) rfl (fun ls hl => ?_)
    have hl : lv_has ls 6 [(5, .int (nI (st_a K))), (4, .int (K 3 (st_p K))), (3, .int (nI (st_y K))), (2, .int (nI (st_x K))), (0, .ref (a 0)), (1, .ref (b 0))] := hl
    refine lv_aload_n hx hb dX1_perform_45 rfl (lv_at hl 4 rfl) ?_
    refine va_get (D := D) (ci := 1) (v := .ref (a 2)) (C := RX1) (T := TX1) (N := 8) hx hb hg inX1 hown hK hP 0 rfl rfl 1 (by decide) (hg _ bw_1_69) (fun _ h9 => h9) rfl dX1_perform_46 ?_
    refine lv_aload_n hx hb dX1_perform_49 rfl (lv_at hl 4 rfl) ?_
    refine va_get (D := D) (ci := 1) (v := .int (K 5 0)) (C := RX1) (T := TX1) (N := 8) hx hb hg inX1 hown hK hP 0 rfl rfl 6 (by decide) (hg _ bw_1_75) (fun _ h9 => h9) rfl dX1_perform_50 ?_
    refine me_t (x := K 5 0) (y := nI (st_p K)) (hp) ?_
    refine me_ild hx hb hK hP 2 0 rfl rfl (st_p K) (rfl) (by omega) (by omega) dX1_perform_53 ?_
    refine me_t (x := K 0 (st_p K)) (y := nI (1)) (hz) ?_
    refine lv_tableIn (off := 50) (tgt := 104) hx hb dX1_perform_54 (by decide) (by decide) (by decide) (by decide) ?_
    refine lv_aload_n hx hb dX1_perform_104 rfl (lv_at hl 4 rfl) ?_
    refine va_get (D := D) (ci := 1) (v := .ref (a 1)) (C := RX1) (T := TX1) (N := 8) hx hb hg inX1 hown hK hP 0 rfl rfl 0 (by decide) (hg _ bw_1_67) (fun _ h9 => h9) rfl dX1_perform_105 ?_
    refine lv_iload_n hx hb dX1_perform_108 rfl (lv_at hl 3 rfl) ?_
    refine lv_iload hx hb dX1_perform_109 (lv_at hl 1 rfl) ?_
    refine me_ist hx hb hK hP hD hS 1 0 rfl rfl (st_x K) (rfl) (by omega) (by omega) dX1_perform_111 (fun H locs hP hD hS => ?_)
    have hP : va_P D vwCl [(a 0, .inr (1, [.ref (a 1), .ref (a 2), .ref (a 3), .ref (a 4), .ref (a 5), .ref (a 6), .int (K 5 0), .int (K 6 0)])), (a 1, .inl (cI, 4, .inl (upd (K 4) (st_x K) (K 3 (st_p K))))), (a 2, .inl (cI, 24, .inl (K 0))), (a 3, .inl (cI, 24, .inl (K 1))), (a 4, .inl (cI, 24, .inl (K 2))), (a 5, .inl (cI, 24, .inl (K 3))), (a 6, .inr (0, [.ref (a 7), .ref (a 8), .ref (a 9), .int (K 7 0)])), (a 7, .inl (cI, ro, .inl (K 8))), (a 8, .inl (cI, ro, .inl (K 9))), (a 9, .inl (cI, ro, .inl (K 10))), (b 0, .inr (2, [.ref (b 1), .ref (b 2), .ref (b 3)])), (b 1, .inl (cI, 32, .inl (M 0))), (b 2, .inl (cI, 32, .inl (M 1))), (b 3, .inl (cZ, 8, .inl (M 2)))] H := hP
    have hD : va_D A [(a 0, .inr (1, [.ref (a 1), .ref (a 2), .ref (a 3), .ref (a 4), .ref (a 5), .ref (a 6), .int (K 5 0), .int (K 6 0)])), (a 1, .inl (cI, 4, .inl (upd (K 4) (st_x K) (K 3 (st_p K))))), (a 2, .inl (cI, 24, .inl (K 0))), (a 3, .inl (cI, 24, .inl (K 1))), (a 4, .inl (cI, 24, .inl (K 2))), (a 5, .inl (cI, 24, .inl (K 3))), (a 6, .inr (0, [.ref (a 7), .ref (a 8), .ref (a 9), .int (K 7 0)])), (a 7, .inl (cI, ro, .inl (K 8))), (a 8, .inl (cI, ro, .inl (K 9))), (a 9, .inl (cI, ro, .inl (K 10))), (b 0, .inr (2, [.ref (b 1), .ref (b 2), .ref (b 3)])), (b 1, .inl (cI, 32, .inl (M 0))), (b 2, .inl (cI, 32, .inl (M 1))), (b 3, .inl (cZ, 8, .inl (M 2)))] := hD
    refine lv_goto (tgt := 237) hx hb dX1_perform_112 (by decide) ?_
    rw [st_peK_1 hz, st_peM_1 hz]
    have hP9 := me_subP (ws' := [(a 0, .inr (1, [.ref (a 1), .ref (a 2), .ref (a 3), .ref (a 4), .ref (a 5), .ref (a 6), .int ((st_ks K 4 (st_x K) (K 3 (st_p K))) 5 0), .int ((st_ks K 4 (st_x K) (K 3 (st_p K))) 6 0)])), (a 1, .inl (cI, 4, .inl ((st_ks K 4 (st_x K) (K 3 (st_p K))) 4))), (a 2, .inl (cI, 24, .inl ((st_ks K 4 (st_x K) (K 3 (st_p K))) 0))), (a 3, .inl (cI, 24, .inl ((st_ks K 4 (st_x K) (K 3 (st_p K))) 1))), (a 4, .inl (cI, 24, .inl ((st_ks K 4 (st_x K) (K 3 (st_p K))) 2))), (a 5, .inl (cI, 24, .inl ((st_ks K 4 (st_x K) (K 3 (st_p K))) 3))), (a 6, .inr (0, [.ref (a 7), .ref (a 8), .ref (a 9), .int ((st_ks K 4 (st_x K) (K 3 (st_p K))) 7 0)])), (a 7, .inl (cI, ro, .inl ((st_ks K 4 (st_x K) (K 3 (st_p K))) 8))), (a 8, .inl (cI, ro, .inl ((st_ks K 4 (st_x K) (K 3 (st_p K))) 9))), (a 9, .inl (cI, ro, .inl ((st_ks K 4 (st_x K) (K 3 (st_p K))) 10))), (b 0, .inr (2, [.ref (b 1), .ref (b 2), .ref (b 3)])), (b 1, .inl (cI, 32, .inl (M 0))), (b 2, .inl (cI, 32, .inl (M 1))), (b 3, .inl (cZ, 8, .inl (M 2)))]) hP [0, 1, 2, 3, 4, 5, 6, 7, 8, 9, 10, 11, 12, 13] rfl
    have hD9 := hD.sub (ws' := [(a 0, .inr (1, [.ref (a 1), .ref (a 2), .ref (a 3), .ref (a 4), .ref (a 5), .ref (a 6), .int ((st_ks K 4 (st_x K) (K 3 (st_p K))) 5 0), .int ((st_ks K 4 (st_x K) (K 3 (st_p K))) 6 0)])), (a 1, .inl (cI, 4, .inl ((st_ks K 4 (st_x K) (K 3 (st_p K))) 4))), (a 2, .inl (cI, 24, .inl ((st_ks K 4 (st_x K) (K 3 (st_p K))) 0))), (a 3, .inl (cI, 24, .inl ((st_ks K 4 (st_x K) (K 3 (st_p K))) 1))), (a 4, .inl (cI, 24, .inl ((st_ks K 4 (st_x K) (K 3 (st_p K))) 2))), (a 5, .inl (cI, 24, .inl ((st_ks K 4 (st_x K) (K 3 (st_p K))) 3))), (a 6, .inr (0, [.ref (a 7), .ref (a 8), .ref (a 9), .int ((st_ks K 4 (st_x K) (K 3 (st_p K))) 7 0)])), (a 7, .inl (cI, ro, .inl ((st_ks K 4 (st_x K) (K 3 (st_p K))) 8))), (a 8, .inl (cI, ro, .inl ((st_ks K 4 (st_x K) (K 3 (st_p K))) 9))), (a 9, .inl (cI, ro, .inl ((st_ks K 4 (st_x K) (K 3 (st_p K))) 10))), (b 0, .inr (2, [.ref (b 1), .ref (b 2), .ref (b 3)])), (b 1, .inl (cI, 32, .inl (M 0))), (b 2, .inl (cI, 32, .inl (M 1))), (b 3, .inl (cZ, 8, .inl (M 2)))]) [0, 1, 2, 3, 4, 5, 6, 7, 8, 9, 10, 11, 12, 13] (by decide) rfl
    exact me_retV hx hb hr hlk hK hS dX1_perform_237 hP9 hD9
  · have hl : lv_has ls 6 [(0, .ref (a 0)), (1, .ref (b 0))] := hl
    refine lv_aload_n hx hb dX1_perform_0 rfl (lv_at hl 0 rfl) ?_
    refine va_get (D := D) (ci := 1) (v := .ref (a 3)) (C := RX1) (T := TX1) (N := 8) hx hb hg inX1 hown hK hP 0 rfl rfl 2 (by decide) (hg _ bw_1_70) (fun _ h9 => h9) rfl dX1_perform_1 ?_
    refine lv_aload_n hx hb dX1_perform_4 rfl (lv_at hl 0 rfl) ?_
    refine va_get (D := D) (ci := 1) (v := .int (K 5 0)) (C := RX1) (T := TX1) (N := 8) hx hb hg inX1 hown hK hP 0 rfl rfl 6 (by decide) (hg _ bw_1_75) (fun _ h9 => h9) rfl dX1_perform_5 ?_
    refine me_t (x := K 5 0) (y := nI (st_p K)) (hp) ?_
    refine me_ild hx hb hK hP 3 0 rfl rfl (st_p K) (rfl) (by omega) (by omega) dX1_perform_8 ?_
    refine me_t (x := K 1 (st_p K)) (y := nI (st_x K)) (hX) ?_
    refine lv_istore_n hx hb dX1_perform_9 rfl hl (by decide) rfl (fun ls hl => ?_)
    have hl : lv_has ls 6 [(2, .int (nI (st_x K))), (0, .ref (a 0)), (1, .ref (b 0))] := hl
    refine lv_aload_n hx hb dX1_perform_10 rfl (lv_at hl 1 rfl) ?_
    refine va_get (D := D) (ci := 1) (v := .ref (a 4)) (C := RX1) (T := TX1) (N := 8) hx hb hg inX1 hown hK hP 0 rfl rfl 3 (by decide) (hg _ bw_1_71) (fun _ h9 => h9) rfl dX1_perform_11 ?_
    refine lv_aload_n hx hb dX1_perform_14 rfl (lv_at hl 1 rfl) ?_
    refine va_get (D := D) (ci := 1) (v := .int (K 5 0)) (C := RX1) (T := TX1) (N := 8) hx hb hg inX1 hown hK hP 0 rfl rfl 6 (by decide) (hg _ bw_1_75) (fun _ h9 => h9) rfl dX1_perform_15 ?_
    refine me_t (x := K 5 0) (y := nI (st_p K)) (hp) ?_
    refine me_ild hx hb hK hP 4 0 rfl rfl (st_p K) (rfl) (by omega) (by omega) dX1_perform_18 ?_
    refine me_t (x := K 2 (st_p K)) (y := nI (st_y K)) (hY) ?_
    refine lv_istore_n hx hb dX1_perform_19 rfl hl (by decide) rfl (fun ls hl => ?_)
    have hl : lv_has ls 6 [(3, .int (nI (st_y K))), (2, .int (nI (st_x K))), (0, .ref (a 0)), (1, .ref (b 0))] := hl
    refine lv_aload_n hx hb dX1_perform_20 rfl (lv_at hl 2 rfl) ?_
    refine va_get (D := D) (ci := 1) (v := .ref (a 5)) (C := RX1) (T := TX1) (N := 8) hx hb hg inX1 hown hK hP 0 rfl rfl 4 (by decide) (hg _ bw_1_72) (fun _ h9 => h9) rfl dX1_perform_21 ?_
    refine lv_aload_n hx hb dX1_perform_24 rfl (lv_at hl 2 rfl) ?_
    refine va_get (D := D) (ci := 1) (v := .int (K 5 0)) (C := RX1) (T := TX1) (N := 8) hx hb hg inX1 hown hK hP 0 rfl rfl 6 (by decide) (hg _ bw_1_75) (fun _ h9 => h9) rfl dX1_perform_25 ?_
    refine me_t (x := K 5 0) (y := nI (st_p K)) (hp) ?_
    refine me_ild hx hb hK hP 5 0 rfl rfl (st_p K) (rfl) (by omega) (by omega) dX1_perform_28 ?_
    refine lv_istore hx hb dX1_perform_29 hl (by decide) rfl (fun ls hl => ?_)
    have hl : lv_has ls 6 [(4, .int (K 3 (st_p K))), (3, .int (nI (st_y K))), (2, .int (nI (st_x K))), (0, .ref (a 0)), (1, .ref (b 0))] := hl
    refine lv_aload_n hx hb dX1_perform_31 rfl (lv_at hl 3 rfl) ?_
    refine va_get (D := D) (ci := 1) (v := .ref (a 1)) (C := RX1) (T := TX1) (N := 8) hx hb hg inX1 hown hK hP 0 rfl rfl 0 (by decide) (hg _ bw_1_67) (fun _ h9 => h9) rfl dX1_perform_32 ?_
    refine lv_iload_n hx hb dX1_perform_35 rfl (lv_at hl 1 rfl) ?_
    refine me_ild hx hb hK hP 1 0 rfl rfl (st_y K) (rfl) (by omega) (by omega) dX1_perform_36 ?_
    refine lv_iload hx hb dX1_perform_37 (lv_at hl 0 rfl) ?_
    refine lv_iadd hx hb dX1_perform_39 ?_
    refine me_t (x := (K 4 (st_y K)) + (K 3 (st_p K))) (y := K 4 (st_y K) + K 3 (st_p K)) (rfl) ?_
    refine lv_bipush (v := 31) hx hb dX1_perform_40 (by decide) ?_
    refine lv_iand hx hb dX1_perform_42 ?_
    refine me_t (x := (K 4 (st_y K) + K 3 (st_p K)) &&& 31) (y := nI (st_a K)) (ha) ?_
    refine lv_istore hx hb dX1_perform_43 hl (by decide) rfl (fun ls hl => ?_)
    have hl : lv_has ls 6 [(5, .int (nI (st_a K))), (4, .int (K 3 (st_p K))), (3, .int (nI (st_y K))), (2, .int (nI (st_x K))), (0, .ref (a 0)), (1, .ref (b 0))] := hl
    refine lv_aload_n hx hb dX1_perform_45 rfl (lv_at hl 4 rfl) ?_
    refine va_get (D := D) (ci := 1) (v := .ref (a 2)) (C := RX1) (T := TX1) (N := 8) hx hb hg inX1 hown hK hP 0 rfl rfl 1 (by decide) (hg _ bw_1_69) (fun _ h9 => h9) rfl dX1_perform_46 ?_
    refine lv_aload_n hx hb dX1_perform_49 rfl (lv_at hl 4 rfl) ?_
    refine va_get (D := D) (ci := 1) (v := .int (K 5 0)) (C := RX1) (T := TX1) (N := 8) hx hb hg inX1 hown hK hP 0 rfl rfl 6 (by decide) (hg _ bw_1_75) (fun _ h9 => h9) rfl dX1_perform_50 ?_
    refine me_t (x := K 5 0) (y := nI (st_p K)) (hp) ?_
    refine me_ild hx hb hK hP 2 0 rfl rfl (st_p K) (rfl) (by omega) (by omega) dX1_perform_53 ?_
    refine me_t (x := K 0 (st_p K)) (y := nI (2)) (hz) ?_
    refine lv_tableIn (off := 61) (tgt := 115) hx hb dX1_perform_54 (by decide) (by decide) (by decide) (by decide) ?_
    refine lv_aload_n hx hb dX1_perform_115 rfl (lv_at hl 4 rfl) ?_
    refine va_get (D := D) (ci := 1) (v := .ref (a 1)) (C := RX1) (T := TX1) (N := 8) hx hb hg inX1 hown hK hP 0 rfl rfl 0 (by decide) (hg _ bw_1_67) (fun _ h9 => h9) rfl dX1_perform_116 ?_
    refine lv_iload_n hx hb dX1_perform_119 rfl (lv_at hl 3 rfl) ?_
    refine lv_aload_n hx hb dX1_perform_120 rfl (lv_at hl 4 rfl) ?_
    refine va_get (D := D) (ci := 1) (v := .ref (a 6)) (C := RX1) (T := TX1) (N := 8) hx hb hg inX1 hown hK hP 0 rfl rfl 5 (by decide) (hg _ bw_1_73) (fun _ h9 => h9) rfl dX1_perform_121 ?_
    refine lv_iload hx hb dX1_perform_124 (lv_at hl 0 rfl) ?_
    refine lv_aload_n hx hb dX1_perform_126 rfl (lv_at hl 5 rfl) ?_
    refine va_getN (D := D) (ci := 2) (v := .ref (b 1)) (C := RX2) (T := TX2) (N := 3) hx hb hg inX2 hown hK hP 10 rfl rfl 0 (by decide) (va_Nw.use rfl (hN.1 _ ne_4)) (fun _ h9 => h9) rfl dX1_perform_127 ?_
    refine lv_iload hx hb dX1_perform_130 (lv_at hl 0 rfl) ?_
    refine me_ild hx hb hK hP 11 0 rfl rfl (st_a K) (rfl) (by omega) (by omega) dX1_perform_132 ?_
    refine me_goI (wr := [(a 0, .inr (1, [.ref (a 1), .ref (a 2), .ref (a 3), .ref (a 4), .ref (a 5), .ref (a 6), .int (K 5 0), .int (K 6 0)])), (a 1, .inl (cI, 4, .inl (K 4))), (a 2, .inl (cI, 24, .inl (K 0))), (a 3, .inl (cI, 24, .inl (K 1))), (a 4, .inl (cI, 24, .inl (K 2))), (a 5, .inl (cI, 24, .inl (K 3))), (b 0, .inr (2, [.ref (b 1), .ref (b 2), .ref (b 3)])), (b 1, .inl (cI, 32, .inl (M 0))), (b 2, .inl (cI, 32, .inl (M 1))), (b 3, .inl (cZ, 8, .inl (M 2)))]) (wc := [(a 6, .inr (0, [.ref (a 7), .ref (a 8), .ref (a 9), .int (K 7 0)])), (a 7, .inl (cI, ro, .inl (K 8))), (a 8, .inl (cI, ro, .inl (K 9))), (a 9, .inl (cI, ro, .inl (K 10)))]) (w1 := [(a 6, .inr (0, [.ref (a 7), .ref (a 8), .ref (a 9), .int (K 7 0)])), (a 7, .inl (cI, ro, .inl (K 8))), (a 8, .inl (cI, ro, .inl (K 9))), (a 9, .inl (cI, ro, .inl (K 10)))]) (va_runVN (C := RX0) (b := a 6) (As := [.int (nI (st_a K)), .int (M 0 (st_a K))]) (rest := [.int (nI (st_x K)), .ref (a 1)]) ⟨hx, hb, hml, hown, hg⟩ (c_bu_newest l D cI cZ cR a ro K (nI (st_a K)) (M 0 (st_a K)) hh hb1 hro s.heap.size) ⟨va_cnB 2 hg (bg_gi (fun _ h => h) bw_1_152) rfl rfl rfl (hN.1 _ ne_6) (hg _ bw_1_4) (by decide +kernel) ⟨Nat.le_of_ble_eq_true rfl, Nat.le_of_ble_eq_true rfl⟩, (hg _ bw_1_151), (hg _ bw_s_7)⟩ (me_preV (wc := [(a 6, .inr (0, [.ref (a 7), .ref (a 8), .ref (a 9), .int (K 7 0)])), (a 7, .inl (cI, ro, .inl (K 8))), (a 8, .inl (cI, ro, .inl (K 9))), (a 9, .inl (cI, ro, .inl (K 10)))]) hP hD hK hN [6, 7, 8, 9] rfl (by decide) (va_recv (q0 := 6) (ci := 0) hK hP rfl rfl)) rfl rfl hl.1 rfl (lv_room (Nat.le_of_ble_eq_true rfl)) dX1_perform_133 ⟨Nat.zero_le _, Nat.zero_le _⟩) hP hD hS hA [6, 7, 8, 9] [0, 1, 2, 3, 4, 5, 10, 11, 12, 13] rfl rfl (by decide) (by decide) (fun H locs hP hD hS => ?_)
    have hP : va_P D vwCl [(a 0, .inr (1, [.ref (a 1), .ref (a 2), .ref (a 3), .ref (a 4), .ref (a 5), .ref (a 6), .int (K 5 0), .int (K 6 0)])), (a 1, .inl (cI, 4, .inl (K 4))), (a 2, .inl (cI, 24, .inl (K 0))), (a 3, .inl (cI, 24, .inl (K 1))), (a 4, .inl (cI, 24, .inl (K 2))), (a 5, .inl (cI, 24, .inl (K 3))), (b 0, .inr (2, [.ref (b 1), .ref (b 2), .ref (b 3)])), (b 1, .inl (cI, 32, .inl (M 0))), (b 2, .inl (cI, 32, .inl (M 1))), (b 3, .inl (cZ, 8, .inl (M 2))), (a 6, .inr (0, [.ref (a 7), .ref (a 8), .ref (a 9), .int (K 7 0)])), (a 7, .inl (cI, ro, .inl (K 8))), (a 8, .inl (cI, ro, .inl (K 9))), (a 9, .inl (cI, ro, .inl (K 10)))] H := hP
    have hD : va_D A [(a 0, .inr (1, [.ref (a 1), .ref (a 2), .ref (a 3), .ref (a 4), .ref (a 5), .ref (a 6), .int (K 5 0), .int (K 6 0)])), (a 1, .inl (cI, 4, .inl (K 4))), (a 2, .inl (cI, 24, .inl (K 0))), (a 3, .inl (cI, 24, .inl (K 1))), (a 4, .inl (cI, 24, .inl (K 2))), (a 5, .inl (cI, 24, .inl (K 3))), (b 0, .inr (2, [.ref (b 1), .ref (b 2), .ref (b 3)])), (b 1, .inl (cI, 32, .inl (M 0))), (b 2, .inl (cI, 32, .inl (M 1))), (b 3, .inl (cZ, 8, .inl (M 2))), (a 6, .inr (0, [.ref (a 7), .ref (a 8), .ref (a 9), .int (K 7 0)])), (a 7, .inl (cI, ro, .inl (K 8))), (a 8, .inl (cI, ro, .inl (K 9))), (a 9, .inl (cI, ro, .inl (K 10)))] := hD
    refine me_ist hx hb hK hP hD hS 1 0 rfl rfl (st_x K) (rfl) (by omega) (by omega) dX1_perform_136 (fun H locs hP hD hS => ?_)
    have hP : va_P D vwCl [(a 0, .inr (1, [.ref (a 1), .ref (a 2), .ref (a 3), .ref (a 4), .ref (a 5), .ref (a 6), .int (K 5 0), .int (K 6 0)])), (a 1, .inl (cI, 4, .inl (upd (K 4) (st_x K) (st_nv K (nI (st_a K)) (M 0 (st_a K)) (st_h K))))), (a 2, .inl (cI, 24, .inl (K 0))), (a 3, .inl (cI, 24, .inl (K 1))), (a 4, .inl (cI, 24, .inl (K 2))), (a 5, .inl (cI, 24, .inl (K 3))), (b 0, .inr (2, [.ref (b 1), .ref (b 2), .ref (b 3)])), (b 1, .inl (cI, 32, .inl (M 0))), (b 2, .inl (cI, 32, .inl (M 1))), (b 3, .inl (cZ, 8, .inl (M 2))), (a 6, .inr (0, [.ref (a 7), .ref (a 8), .ref (a 9), .int (K 7 0)])), (a 7, .inl (cI, ro, .inl (K 8))), (a 8, .inl (cI, ro, .inl (K 9))), (a 9, .inl (cI, ro, .inl (K 10)))] H := hP
    have hD : va_D A [(a 0, .inr (1, [.ref (a 1), .ref (a 2), .ref (a 3), .ref (a 4), .ref (a 5), .ref (a 6), .int (K 5 0), .int (K 6 0)])), (a 1, .inl (cI, 4, .inl (upd (K 4) (st_x K) (st_nv K (nI (st_a K)) (M 0 (st_a K)) (st_h K))))), (a 2, .inl (cI, 24, .inl (K 0))), (a 3, .inl (cI, 24, .inl (K 1))), (a 4, .inl (cI, 24, .inl (K 2))), (a 5, .inl (cI, 24, .inl (K 3))), (b 0, .inr (2, [.ref (b 1), .ref (b 2), .ref (b 3)])), (b 1, .inl (cI, 32, .inl (M 0))), (b 2, .inl (cI, 32, .inl (M 1))), (b 3, .inl (cZ, 8, .inl (M 2))), (a 6, .inr (0, [.ref (a 7), .ref (a 8), .ref (a 9), .int (K 7 0)])), (a 7, .inl (cI, ro, .inl (K 8))), (a 8, .inl (cI, ro, .inl (K 9))), (a 9, .inl (cI, ro, .inl (K 10)))] := hD
    refine lv_goto (tgt := 237) hx hb dX1_perform_137 (by decide) ?_
    rw [st_peK_2 hz, st_peM_2 hz]
    have hP9 := me_subP (ws' := [(a 0, .inr (1, [.ref (a 1), .ref (a 2), .ref (a 3), .ref (a 4), .ref (a 5), .ref (a 6), .int ((st_ks K 4 (st_x K) (st_nv K (nI (st_a K)) (M 0 (st_a K)) (st_h K))) 5 0), .int ((st_ks K 4 (st_x K) (st_nv K (nI (st_a K)) (M 0 (st_a K)) (st_h K))) 6 0)])), (a 1, .inl (cI, 4, .inl ((st_ks K 4 (st_x K) (st_nv K (nI (st_a K)) (M 0 (st_a K)) (st_h K))) 4))), (a 2, .inl (cI, 24, .inl ((st_ks K 4 (st_x K) (st_nv K (nI (st_a K)) (M 0 (st_a K)) (st_h K))) 0))), (a 3, .inl (cI, 24, .inl ((st_ks K 4 (st_x K) (st_nv K (nI (st_a K)) (M 0 (st_a K)) (st_h K))) 1))), (a 4, .inl (cI, 24, .inl ((st_ks K 4 (st_x K) (st_nv K (nI (st_a K)) (M 0 (st_a K)) (st_h K))) 2))), (a 5, .inl (cI, 24, .inl ((st_ks K 4 (st_x K) (st_nv K (nI (st_a K)) (M 0 (st_a K)) (st_h K))) 3))), (a 6, .inr (0, [.ref (a 7), .ref (a 8), .ref (a 9), .int ((st_ks K 4 (st_x K) (st_nv K (nI (st_a K)) (M 0 (st_a K)) (st_h K))) 7 0)])), (a 7, .inl (cI, ro, .inl ((st_ks K 4 (st_x K) (st_nv K (nI (st_a K)) (M 0 (st_a K)) (st_h K))) 8))), (a 8, .inl (cI, ro, .inl ((st_ks K 4 (st_x K) (st_nv K (nI (st_a K)) (M 0 (st_a K)) (st_h K))) 9))), (a 9, .inl (cI, ro, .inl ((st_ks K 4 (st_x K) (st_nv K (nI (st_a K)) (M 0 (st_a K)) (st_h K))) 10))), (b 0, .inr (2, [.ref (b 1), .ref (b 2), .ref (b 3)])), (b 1, .inl (cI, 32, .inl (M 0))), (b 2, .inl (cI, 32, .inl (M 1))), (b 3, .inl (cZ, 8, .inl (M 2)))]) hP [0, 1, 2, 3, 4, 5, 10, 11, 12, 13, 6, 7, 8, 9] rfl
    have hD9 := hD.sub (ws' := [(a 0, .inr (1, [.ref (a 1), .ref (a 2), .ref (a 3), .ref (a 4), .ref (a 5), .ref (a 6), .int ((st_ks K 4 (st_x K) (st_nv K (nI (st_a K)) (M 0 (st_a K)) (st_h K))) 5 0), .int ((st_ks K 4 (st_x K) (st_nv K (nI (st_a K)) (M 0 (st_a K)) (st_h K))) 6 0)])), (a 1, .inl (cI, 4, .inl ((st_ks K 4 (st_x K) (st_nv K (nI (st_a K)) (M 0 (st_a K)) (st_h K))) 4))), (a 2, .inl (cI, 24, .inl ((st_ks K 4 (st_x K) (st_nv K (nI (st_a K)) (M 0 (st_a K)) (st_h K))) 0))), (a 3, .inl (cI, 24, .inl ((st_ks K 4 (st_x K) (st_nv K (nI (st_a K)) (M 0 (st_a K)) (st_h K))) 1))), (a 4, .inl (cI, 24, .inl ((st_ks K 4 (st_x K) (st_nv K (nI (st_a K)) (M 0 (st_a K)) (st_h K))) 2))), (a 5, .inl (cI, 24, .inl ((st_ks K 4 (st_x K) (st_nv K (nI (st_a K)) (M 0 (st_a K)) (st_h K))) 3))), (a 6, .inr (0, [.ref (a 7), .ref (a 8), .ref (a 9), .int ((st_ks K 4 (st_x K) (st_nv K (nI (st_a K)) (M 0 (st_a K)) (st_h K))) 7 0)])), (a 7, .inl (cI, ro, .inl ((st_ks K 4 (st_x K) (st_nv K (nI (st_a K)) (M 0 (st_a K)) (st_h K))) 8))), (a 8, .inl (cI, ro, .inl ((st_ks K 4 (st_x K) (st_nv K (nI (st_a K)) (M 0 (st_a K)) (st_h K))) 9))), (a 9, .inl (cI, ro, .inl ((st_ks K 4 (st_x K) (st_nv K (nI (st_a K)) (M 0 (st_a K)) (st_h K))) 10))), (b 0, .inr (2, [.ref (b 1), .ref (b 2), .ref (b 3)])), (b 1, .inl (cI, 32, .inl (M 0))), (b 2, .inl (cI, 32, .inl (M 1))), (b 3, .inl (cZ, 8, .inl (M 2)))]) [0, 1, 2, 3, 4, 5, 10, 11, 12, 13, 6, 7, 8, 9] (by decide) rfl
    exact me_retV hx hb hr hlk hK hS dX1_perform_237 hP9 hD9
  · have hl : lv_has ls 6 [(0, .ref (a 0)), (1, .ref (b 0))] := hl
    refine lv_aload_n hx hb dX1_perform_0 rfl (lv_at hl 0 rfl) ?_
    refine va_get (D := D) (ci := 1) (v := .ref (a 3)) (C := RX1) (T := TX1) (N := 8) hx hb hg inX1 hown hK hP 0 rfl rfl 2 (by decide) (hg _ bw_1_70) (fun _ h9 => h9) rfl dX1_perform_1 ?_
    refine lv_aload_n hx hb dX1_perform_4 rfl (lv_at hl 0 rfl) ?_
    refine va_get (D := D) (ci := 1) (v := .int (K 5 0)) (C := RX1) (T := TX1) (N := 8) hx hb hg inX1 hown hK hP 0 rfl rfl 6 (by decide) (hg _ bw_1_75) (fun _ h9 => h9) rfl dX1_perform_5 ?_
    refine me_t (x := K 5 0) (y := nI (st_p K)) (hp) ?_
    refine me_ild hx hb hK hP 3 0 rfl rfl (st_p K) (rfl) (by omega) (by omega) dX1_perform_8 ?_
    refine me_t (x := K 1 (st_p K)) (y := nI (st_x K)) (hX) ?_
    refine lv_istore_n hx hb dX1_perform_9 rfl hl (by decide) rfl (fun ls hl => ?_)
    have hl : lv_has ls 6 [(2, .int (nI (st_x K))), (0, .ref (a 0)), (1, .ref (b 0))] := hl
    refine lv_aload_n hx hb dX1_perform_10 rfl (lv_at hl 1 rfl) ?_
    refine va_get (D := D) (ci := 1) (v := .ref (a 4)) (C := RX1) (T := TX1) (N := 8) hx hb hg inX1 hown hK hP 0 rfl rfl 3 (by decide) (hg _ bw_1_71) (fun _ h9 => h9) rfl dX1_perform_11 ?_
    refine lv_aload_n hx hb dX1_perform_14 rfl (lv_at hl 1 rfl) ?_
    refine va_get (D := D) (ci := 1) (v := .int (K 5 0)) (C := RX1) (T := TX1) (N := 8) hx hb hg inX1 hown hK hP 0 rfl rfl 6 (by decide) (hg _ bw_1_75) (fun _ h9 => h9) rfl dX1_perform_15 ?_
    refine me_t (x := K 5 0) (y := nI (st_p K)) (hp) ?_
    refine me_ild hx hb hK hP 4 0 rfl rfl (st_p K) (rfl) (by omega) (by omega) dX1_perform_18 ?_
    refine me_t (x := K 2 (st_p K)) (y := nI (st_y K)) (hY) ?_
    refine lv_istore_n hx hb dX1_perform_19 rfl hl (by decide) rfl (fun ls hl => ?_)
    have hl : lv_has ls 6 [(3, .int (nI (st_y K))), (2, .int (nI (st_x K))), (0, .ref (a 0)), (1, .ref (b 0))] := hl
    refine lv_aload_n hx hb dX1_perform_20 rfl (lv_at hl 2 rfl) ?_
    refine va_get (D := D) (ci := 1) (v := .ref (a 5)) (C := RX1) (T := TX1) (N := 8) hx hb hg inX1 hown hK hP 0 rfl rfl 4 (by decide) (hg _ bw_1_72) (fun _ h9 => h9) rfl dX1_perform_21 ?_
    refine lv_aload_n hx hb dX1_perform_24 rfl (lv_at hl 2 rfl) ?_
    refine va_get (D := D) (ci := 1) (v := .int (K 5 0)) (C := RX1) (T := TX1) (N := 8) hx hb hg inX1 hown hK hP 0 rfl rfl 6 (by decide) (hg _ bw_1_75) (fun _ h9 => h9) rfl dX1_perform_25 ?_
    refine me_t (x := K 5 0) (y := nI (st_p K)) (hp) ?_
    refine me_ild hx hb hK hP 5 0 rfl rfl (st_p K) (rfl) (by omega) (by omega) dX1_perform_28 ?_
    refine lv_istore hx hb dX1_perform_29 hl (by decide) rfl (fun ls hl => ?_)
    have hl : lv_has ls 6 [(4, .int (K 3 (st_p K))), (3, .int (nI (st_y K))), (2, .int (nI (st_x K))), (0, .ref (a 0)), (1, .ref (b 0))] := hl
    refine lv_aload_n hx hb dX1_perform_31 rfl (lv_at hl 3 rfl) ?_
    refine va_get (D := D) (ci := 1) (v := .ref (a 1)) (C := RX1) (T := TX1) (N := 8) hx hb hg inX1 hown hK hP 0 rfl rfl 0 (by decide) (hg _ bw_1_67) (fun _ h9 => h9) rfl dX1_perform_32 ?_
    refine lv_iload_n hx hb dX1_perform_35 rfl (lv_at hl 1 rfl) ?_
    refine me_ild hx hb hK hP 1 0 rfl rfl (st_y K) (rfl) (by omega) (by omega) dX1_perform_36 ?_
    refine lv_iload hx hb dX1_perform_37 (lv_at hl 0 rfl) ?_
    refine lv_iadd hx hb dX1_perform_39 ?_
    refine me_t (x := (K 4 (st_y K)) + (K 3 (st_p K))) (y := K 4 (st_y K) + K 3 (st_p K)) (rfl) ?_
    refine lv_bipush (v := 31) hx hb dX1_perform_40 (by decide) ?_
    refine lv_iand hx hb dX1_perform_42 ?_
    refine me_t (x := (K 4 (st_y K) + K 3 (st_p K)) &&& 31) (y := nI (st_a K)) (ha) ?_
    refine lv_istore hx hb dX1_perform_43 hl (by decide) rfl (fun ls hl => ?_)
    have hl : lv_has ls 6 [(5, .int (nI (st_a K))), (4, .int (K 3 (st_p K))), (3, .int (nI (st_y K))), (2, .int (nI (st_x K))), (0, .ref (a 0)), (1, .ref (b 0))] := hl
    refine lv_aload_n hx hb dX1_perform_45 rfl (lv_at hl 4 rfl) ?_
    refine va_get (D := D) (ci := 1) (v := .ref (a 2)) (C := RX1) (T := TX1) (N := 8) hx hb hg inX1 hown hK hP 0 rfl rfl 1 (by decide) (hg _ bw_1_69) (fun _ h9 => h9) rfl dX1_perform_46 ?_
    refine lv_aload_n hx hb dX1_perform_49 rfl (lv_at hl 4 rfl) ?_
    refine va_get (D := D) (ci := 1) (v := .int (K 5 0)) (C := RX1) (T := TX1) (N := 8) hx hb hg inX1 hown hK hP 0 rfl rfl 6 (by decide) (hg _ bw_1_75) (fun _ h9 => h9) rfl dX1_perform_50 ?_
    refine me_t (x := K 5 0) (y := nI (st_p K)) (hp) ?_
    refine me_ild hx hb hK hP 2 0 rfl rfl (st_p K) (rfl) (by omega) (by omega) dX1_perform_53 ?_
    refine me_t (x := K 0 (st_p K)) (y := nI (3)) (hz) ?_
    refine lv_tableIn (off := 86) (tgt := 140) hx hb dX1_perform_54 (by decide) (by decide) (by decide) (by decide) ?_
    refine lv_aload_n hx hb dX1_perform_140 rfl (lv_at hl 4 rfl) ?_
    refine va_get (D := D) (ci := 1) (v := .ref (a 6)) (C := RX1) (T := TX1) (N := 8) hx hb hg inX1 hown hK hP 0 rfl rfl 5 (by decide) (hg _ bw_1_73) (fun _ h9 => h9) rfl dX1_perform_141 ?_
    refine lv_iconst (v := 0) hx hb dX1_perform_144 (by decide) ?_
    refine lv_iload hx hb dX1_perform_145 (lv_at hl 0 rfl) ?_
    refine lv_aload_n hx hb dX1_perform_147 rfl (lv_at hl 4 rfl) ?_
    refine va_get (D := D) (ci := 1) (v := .ref (a 1)) (C := RX1) (T := TX1) (N := 8) hx hb hg inX1 hown hK hP 0 rfl rfl 0 (by decide) (hg _ bw_1_67) (fun _ h9 => h9) rfl dX1_perform_148 ?_
    refine lv_iload_n hx hb dX1_perform_151 rfl (lv_at hl 3 rfl) ?_
    refine me_ild hx hb hK hP 1 0 rfl rfl (st_x K) (rfl) (by omega) (by omega) dX1_perform_152 ?_
    refine me_goV (wr := [(a 0, .inr (1, [.ref (a 1), .ref (a 2), .ref (a 3), .ref (a 4), .ref (a 5), .ref (a 6), .int (K 5 0), .int (K 6 0)])), (a 1, .inl (cI, 4, .inl (K 4))), (a 2, .inl (cI, 24, .inl (K 0))), (a 3, .inl (cI, 24, .inl (K 1))), (a 4, .inl (cI, 24, .inl (K 2))), (a 5, .inl (cI, 24, .inl (K 3))), (b 0, .inr (2, [.ref (b 1), .ref (b 2), .ref (b 3)])), (b 1, .inl (cI, 32, .inl (M 0))), (b 2, .inl (cI, 32, .inl (M 1))), (b 3, .inl (cZ, 8, .inl (M 2)))]) (wc := [(a 6, .inr (0, [.ref (a 7), .ref (a 8), .ref (a 9), .int (K 7 0)])), (a 7, .inl (cI, ro, .inl (K 8))), (a 8, .inl (cI, ro, .inl (K 9))), (a 9, .inl (cI, ro, .inl (K 10)))]) (w1 := [(a 6, .inr (0, [.ref (a 7), .ref (a 8), .ref (a 9), .int ((st_ap K 0 (nI (st_a K)) (K 4 (st_x K))) 7 0)])), (a 7, .inl (cI, ro, .inl ((st_ap K 0 (nI (st_a K)) (K 4 (st_x K))) 8))), (a 8, .inl (cI, ro, .inl ((st_ap K 0 (nI (st_a K)) (K 4 (st_x K))) 9))), (a 9, .inl (cI, ro, .inl ((st_ap K 0 (nI (st_a K)) (K 4 (st_x K))) 10)))]) (va_runVN (C := RX0) (b := a 6) (As := [.int (0), .int (nI (st_a K)), .int (K 4 (st_x K))]) (rest := []) ⟨hx, hb, hml, hown, hg⟩ (c_bu_append l D cI cZ cR a ro K 0 (nI (st_a K)) (K 4 (st_x K)) hh (Nat.lt_of_not_le (fun q => hnw ((st_wq3 (by decide)).mpr q))) hro s.heap.size) ⟨va_cnB 3 hg (bg_gi (fun _ h => h) bw_1_156) rfl rfl rfl (hN.1 _ ne_7) (hg _ bw_1_4) (by decide +kernel) ⟨Nat.le_of_ble_eq_true rfl, Nat.le_of_ble_eq_true rfl⟩, (hg _ bw_1_155), (hg _ bw_s_8)⟩ (me_preV (wc := [(a 6, .inr (0, [.ref (a 7), .ref (a 8), .ref (a 9), .int (K 7 0)])), (a 7, .inl (cI, ro, .inl (K 8))), (a 8, .inl (cI, ro, .inl (K 9))), (a 9, .inl (cI, ro, .inl (K 10)))]) hP hD hK hN [6, 7, 8, 9] rfl (by decide) (va_recv (q0 := 6) (ci := 0) hK hP rfl rfl)) rfl rfl hl.1 rfl (lv_room (Nat.le_of_ble_eq_true rfl)) dX1_perform_153 ⟨Nat.zero_le _, Nat.zero_le _⟩) hP hD hS hA [6, 7, 8, 9] [0, 1, 2, 3, 4, 5, 10, 11, 12, 13] rfl rfl (by decide) (by decide) (fun H locs hP hD hS => ?_)
    have hP : va_P D vwCl [(a 0, .inr (1, [.ref (a 1), .ref (a 2), .ref (a 3), .ref (a 4), .ref (a 5), .ref (a 6), .int (K 5 0), .int (K 6 0)])), (a 1, .inl (cI, 4, .inl (K 4))), (a 2, .inl (cI, 24, .inl (K 0))), (a 3, .inl (cI, 24, .inl (K 1))), (a 4, .inl (cI, 24, .inl (K 2))), (a 5, .inl (cI, 24, .inl (K 3))), (b 0, .inr (2, [.ref (b 1), .ref (b 2), .ref (b 3)])), (b 1, .inl (cI, 32, .inl (M 0))), (b 2, .inl (cI, 32, .inl (M 1))), (b 3, .inl (cZ, 8, .inl (M 2))), (a 6, .inr (0, [.ref (a 7), .ref (a 8), .ref (a 9), .int ((st_ap K 0 (nI (st_a K)) (K 4 (st_x K))) 7 0)])), (a 7, .inl (cI, ro, .inl ((st_ap K 0 (nI (st_a K)) (K 4 (st_x K))) 8))), (a 8, .inl (cI, ro, .inl ((st_ap K 0 (nI (st_a K)) (K 4 (st_x K))) 9))), (a 9, .inl (cI, ro, .inl ((st_ap K 0 (nI (st_a K)) (K 4 (st_x K))) 10)))] H := hP
    have hD : va_D A [(a 0, .inr (1, [.ref (a 1), .ref (a 2), .ref (a 3), .ref (a 4), .ref (a 5), .ref (a 6), .int (K 5 0), .int (K 6 0)])), (a 1, .inl (cI, 4, .inl (K 4))), (a 2, .inl (cI, 24, .inl (K 0))), (a 3, .inl (cI, 24, .inl (K 1))), (a 4, .inl (cI, 24, .inl (K 2))), (a 5, .inl (cI, 24, .inl (K 3))), (b 0, .inr (2, [.ref (b 1), .ref (b 2), .ref (b 3)])), (b 1, .inl (cI, 32, .inl (M 0))), (b 2, .inl (cI, 32, .inl (M 1))), (b 3, .inl (cZ, 8, .inl (M 2))), (a 6, .inr (0, [.ref (a 7), .ref (a 8), .ref (a 9), .int ((st_ap K 0 (nI (st_a K)) (K 4 (st_x K))) 7 0)])), (a 7, .inl (cI, ro, .inl ((st_ap K 0 (nI (st_a K)) (K 4 (st_x K))) 8))), (a 8, .inl (cI, ro, .inl ((st_ap K 0 (nI (st_a K)) (K 4 (st_x K))) 9))), (a 9, .inl (cI, ro, .inl ((st_ap K 0 (nI (st_a K)) (K 4 (st_x K))) 10)))] := hD
    refine lv_goto (tgt := 237) hx hb dX1_perform_156 (by decide) ?_
    rw [st_peK_3 hz, st_peM_3 hz]
    have hP9 := me_subP (ws' := [(a 0, .inr (1, [.ref (a 1), .ref (a 2), .ref (a 3), .ref (a 4), .ref (a 5), .ref (a 6), .int ((st_ap K 0 (nI (st_a K)) (K 4 (st_x K))) 5 0), .int ((st_ap K 0 (nI (st_a K)) (K 4 (st_x K))) 6 0)])), (a 1, .inl (cI, 4, .inl ((st_ap K 0 (nI (st_a K)) (K 4 (st_x K))) 4))), (a 2, .inl (cI, 24, .inl ((st_ap K 0 (nI (st_a K)) (K 4 (st_x K))) 0))), (a 3, .inl (cI, 24, .inl ((st_ap K 0 (nI (st_a K)) (K 4 (st_x K))) 1))), (a 4, .inl (cI, 24, .inl ((st_ap K 0 (nI (st_a K)) (K 4 (st_x K))) 2))), (a 5, .inl (cI, 24, .inl ((st_ap K 0 (nI (st_a K)) (K 4 (st_x K))) 3))), (a 6, .inr (0, [.ref (a 7), .ref (a 8), .ref (a 9), .int ((st_ap K 0 (nI (st_a K)) (K 4 (st_x K))) 7 0)])), (a 7, .inl (cI, ro, .inl ((st_ap K 0 (nI (st_a K)) (K 4 (st_x K))) 8))), (a 8, .inl (cI, ro, .inl ((st_ap K 0 (nI (st_a K)) (K 4 (st_x K))) 9))), (a 9, .inl (cI, ro, .inl ((st_ap K 0 (nI (st_a K)) (K 4 (st_x K))) 10))), (b 0, .inr (2, [.ref (b 1), .ref (b 2), .ref (b 3)])), (b 1, .inl (cI, 32, .inl (M 0))), (b 2, .inl (cI, 32, .inl (M 1))), (b 3, .inl (cZ, 8, .inl (M 2)))]) hP [0, 1, 2, 3, 4, 5, 10, 11, 12, 13, 6, 7, 8, 9] rfl
    have hD9 := hD.sub (ws' := [(a 0, .inr (1, [.ref (a 1), .ref (a 2), .ref (a 3), .ref (a 4), .ref (a 5), .ref (a 6), .int ((st_ap K 0 (nI (st_a K)) (K 4 (st_x K))) 5 0), .int ((st_ap K 0 (nI (st_a K)) (K 4 (st_x K))) 6 0)])), (a 1, .inl (cI, 4, .inl ((st_ap K 0 (nI (st_a K)) (K 4 (st_x K))) 4))), (a 2, .inl (cI, 24, .inl ((st_ap K 0 (nI (st_a K)) (K 4 (st_x K))) 0))), (a 3, .inl (cI, 24, .inl ((st_ap K 0 (nI (st_a K)) (K 4 (st_x K))) 1))), (a 4, .inl (cI, 24, .inl ((st_ap K 0 (nI (st_a K)) (K 4 (st_x K))) 2))), (a 5, .inl (cI, 24, .inl ((st_ap K 0 (nI (st_a K)) (K 4 (st_x K))) 3))), (a 6, .inr (0, [.ref (a 7), .ref (a 8), .ref (a 9), .int ((st_ap K 0 (nI (st_a K)) (K 4 (st_x K))) 7 0)])), (a 7, .inl (cI, ro, .inl ((st_ap K 0 (nI (st_a K)) (K 4 (st_x K))) 8))), (a 8, .inl (cI, ro, .inl ((st_ap K 0 (nI (st_a K)) (K 4 (st_x K))) 9))), (a 9, .inl (cI, ro, .inl ((st_ap K 0 (nI (st_a K)) (K 4 (st_x K))) 10))), (b 0, .inr (2, [.ref (b 1), .ref (b 2), .ref (b 3)])), (b 1, .inl (cI, 32, .inl (M 0))), (b 2, .inl (cI, 32, .inl (M 1))), (b 3, .inl (cZ, 8, .inl (M 2)))]) [0, 1, 2, 3, 4, 5, 10, 11, 12, 13, 6, 7, 8, 9] (by decide) rfl
    exact me_retV hx hb hr hlk hK hS dX1_perform_237 hP9 hD9
  · have hl : lv_has ls 6 [(0, .ref (a 0)), (1, .ref (b 0))] := hl
    refine lv_aload_n hx hb dX1_perform_0 rfl (lv_at hl 0 rfl) ?_
    refine va_get (D := D) (ci := 1) (v := .ref (a 3)) (C := RX1) (T := TX1) (N := 8) hx hb hg inX1 hown hK hP 0 rfl rfl 2 (by decide) (hg _ bw_1_70) (fun _ h9 => h9) rfl dX1_perform_1 ?_
    refine lv_aload_n hx hb dX1_perform_4 rfl (lv_at hl 0 rfl) ?_
    refine va_get (D := D) (ci := 1) (v := .int (K 5 0)) (C := RX1) (T := TX1) (N := 8) hx hb hg inX1 hown hK hP 0 rfl rfl 6 (by decide) (hg _ bw_1_75) (fun _ h9 => h9) rfl dX1_perform_5 ?_
    refine me_t (x := K 5 0) (y := nI (st_p K)) (hp) ?_
    refine me_ild hx hb hK hP 3 0 rfl rfl (st_p K) (rfl) (by omega) (by omega) dX1_perform_8 ?_
    refine me_t (x := K 1 (st_p K)) (y := nI (st_x K)) (hX) ?_
    refine lv_istore_n hx hb dX1_perform_9 rfl hl (by decide) rfl (fun ls hl => ?_)
    have hl : lv_has ls 6 [(2, .int (nI (st_x K))), (0, .ref (a 0)), (1, .ref (b 0))] := hl
    refine lv_aload_n hx hb dX1_perform_10 rfl (lv_at hl 1 rfl) ?_
    refine va_get (D := D) (ci := 1) (v := .ref (a 4)) (C := RX1) (T := TX1) (N := 8) hx hb hg inX1 hown hK hP 0 rfl rfl 3 (by decide) (hg _ bw_1_71) (fun _ h9 => h9) rfl dX1_perform_11 ?_
    refine lv_aload_n hx hb dX1_perform_14 rfl (lv_at hl 1 rfl) ?_
    refine va_get (D := D) (ci := 1) (v := .int (K 5 0)) (C := RX1) (T := TX1) (N := 8) hx hb hg inX1 hown hK hP 0 rfl rfl 6 (by decide) (hg _ bw_1_75) (fun _ h9 => h9) rfl dX1_perform_15 ?_
    refine me_t (x := K 5 0) (y := nI (st_p K)) (hp) ?_
    refine me_ild hx hb hK hP 4 0 rfl rfl (st_p K) (rfl) (by omega) (by omega) dX1_perform_18 ?_
    refine me_t (x := K 2 (st_p K)) (y := nI (st_y K)) (hY) ?_
    refine lv_istore_n hx hb dX1_perform_19 rfl hl (by decide) rfl (fun ls hl => ?_)
    have hl : lv_has ls 6 [(3, .int (nI (st_y K))), (2, .int (nI (st_x K))), (0, .ref (a 0)), (1, .ref (b 0))] := hl
    refine lv_aload_n hx hb dX1_perform_20 rfl (lv_at hl 2 rfl) ?_
    refine va_get (D := D) (ci := 1) (v := .ref (a 5)) (C := RX1) (T := TX1) (N := 8) hx hb hg inX1 hown hK hP 0 rfl rfl 4 (by decide) (hg _ bw_1_72) (fun _ h9 => h9) rfl dX1_perform_21 ?_
    refine lv_aload_n hx hb dX1_perform_24 rfl (lv_at hl 2 rfl) ?_
    refine va_get (D := D) (ci := 1) (v := .int (K 5 0)) (C := RX1) (T := TX1) (N := 8) hx hb hg inX1 hown hK hP 0 rfl rfl 6 (by decide) (hg _ bw_1_75) (fun _ h9 => h9) rfl dX1_perform_25 ?_
    refine me_t (x := K 5 0) (y := nI (st_p K)) (hp) ?_
    refine me_ild hx hb hK hP 5 0 rfl rfl (st_p K) (rfl) (by omega) (by omega) dX1_perform_28 ?_
    refine lv_istore hx hb dX1_perform_29 hl (by decide) rfl (fun ls hl => ?_)
    have hl : lv_has ls 6 [(4, .int (K 3 (st_p K))), (3, .int (nI (st_y K))), (2, .int (nI (st_x K))), (0, .ref (a 0)), (1, .ref (b 0))] := hl
    refine lv_aload_n hx hb dX1_perform_31 rfl (lv_at hl 3 rfl) ?_
    refine va_get (D := D) (ci := 1) (v := .ref (a 1)) (C := RX1) (T := TX1) (N := 8) hx hb hg inX1 hown hK hP 0 rfl rfl 0 (by decide) (hg _ bw_1_67) (fun _ h9 => h9) rfl dX1_perform_32 ?_
    refine lv_iload_n hx hb dX1_perform_35 rfl (lv_at hl 1 rfl) ?_
    refine me_ild hx hb hK hP 1 0 rfl rfl (st_y K) (rfl) (by omega) (by omega) dX1_perform_36 ?_
    refine lv_iload hx hb dX1_perform_37 (lv_at hl 0 rfl) ?_
    refine lv_iadd hx hb dX1_perform_39 ?_
    refine me_t (x := (K 4 (st_y K)) + (K 3 (st_p K))) (y := K 4 (st_y K) + K 3 (st_p K)) (rfl) ?_
    refine lv_bipush (v := 31) hx hb dX1_perform_40 (by decide) ?_
    refine lv_iand hx hb dX1_perform_42 ?_
    refine me_t (x := (K 4 (st_y K) + K 3 (st_p K)) &&& 31) (y := nI (st_a K)) (ha) ?_
    refine lv_istore hx hb dX1_perform_43 hl (by decide) rfl (fun ls hl => ?_)
    have hl : lv_has ls 6 [(5, .int (nI (st_a K))), (4, .int (K 3 (st_p K))), (3, .int (nI (st_y K))), (2, .int (nI (st_x K))), (0, .ref (a 0)), (1, .ref (b 0))] := hl
    refine lv_aload_n hx hb dX1_perform_45 rfl (lv_at hl 4 rfl) ?_
    refine va_get (D := D) (ci := 1) (v := .ref (a 2)) (C := RX1) (T := TX1) (N := 8) hx hb hg inX1 hown hK hP 0 rfl rfl 1 (by decide) (hg _ bw_1_69) (fun _ h9 => h9) rfl dX1_perform_46 ?_
    refine lv_aload_n hx hb dX1_perform_49 rfl (lv_at hl 4 rfl) ?_
    refine va_get (D := D) (ci := 1) (v := .int (K 5 0)) (C := RX1) (T := TX1) (N := 8) hx hb hg inX1 hown hK hP 0 rfl rfl 6 (by decide) (hg _ bw_1_75) (fun _ h9 => h9) rfl dX1_perform_50 ?_
    refine me_t (x := K 5 0) (y := nI (st_p K)) (hp) ?_
    refine me_ild hx hb hK hP 2 0 rfl rfl (st_p K) (rfl) (by omega) (by omega) dX1_perform_53 ?_
    refine me_t (x := K 0 (st_p K)) (y := nI (4)) (hz) ?_
    refine lv_tableIn (off := 105) (tgt := 159) hx hb dX1_perform_54 (by decide) (by decide) (by decide) (by decide) ?_
    refine lv_aload_n hx hb dX1_perform_159 rfl (lv_at hl 4 rfl) ?_
    refine va_get (D := D) (ci := 1) (v := .ref (a 1)) (C := RX1) (T := TX1) (N := 8) hx hb hg inX1 hown hK hP 0 rfl rfl 0 (by decide) (hg _ bw_1_67) (fun _ h9 => h9) rfl dX1_perform_160 ?_
    refine lv_iload_n hx hb dX1_perform_163 rfl (lv_at hl 3 rfl) ?_
    refine lv_aload_n hx hb dX1_perform_164 rfl (lv_at hl 4 rfl) ?_
    refine va_get (D := D) (ci := 1) (v := .ref (a 1)) (C := RX1) (T := TX1) (N := 8) hx hb hg inX1 hown hK hP 0 rfl rfl 0 (by decide) (hg _ bw_1_67) (fun _ h9 => h9) rfl dX1_perform_165 ?_
    refine lv_iload_n hx hb dX1_perform_168 rfl (lv_at hl 3 rfl) ?_
    refine me_ild hx hb hK hP 1 0 rfl rfl (st_x K) (rfl) (by omega) (by omega) dX1_perform_169 ?_
    refine lv_aload_n hx hb dX1_perform_170 rfl (lv_at hl 4 rfl) ?_
    refine va_get (D := D) (ci := 1) (v := .ref (a 1)) (C := RX1) (T := TX1) (N := 8) hx hb hg inX1 hown hK hP 0 rfl rfl 0 (by decide) (hg _ bw_1_67) (fun _ h9 => h9) rfl dX1_perform_171 ?_
    refine lv_iload_n hx hb dX1_perform_174 rfl (lv_at hl 2 rfl) ?_
    refine me_ild hx hb hK hP 1 0 rfl rfl (st_y K) (rfl) (by omega) (by omega) dX1_perform_175 ?_
    refine lv_iadd hx hb dX1_perform_176 ?_
    refine me_ist hx hb hK hP hD hS 1 0 rfl rfl (st_x K) (rfl) (by omega) (by omega) dX1_perform_177 (fun H locs hP hD hS => ?_)
    have hP : va_P D vwCl [(a 0, .inr (1, [.ref (a 1), .ref (a 2), .ref (a 3), .ref (a 4), .ref (a 5), .ref (a 6), .int (K 5 0), .int (K 6 0)])), (a 1, .inl (cI, 4, .inl (upd (K 4) (st_x K) ((K 4 (st_x K)) + (K 4 (st_y K)))))), (a 2, .inl (cI, 24, .inl (K 0))), (a 3, .inl (cI, 24, .inl (K 1))), (a 4, .inl (cI, 24, .inl (K 2))), (a 5, .inl (cI, 24, .inl (K 3))), (a 6, .inr (0, [.ref (a 7), .ref (a 8), .ref (a 9), .int (K 7 0)])), (a 7, .inl (cI, ro, .inl (K 8))), (a 8, .inl (cI, ro, .inl (K 9))), (a 9, .inl (cI, ro, .inl (K 10))), (b 0, .inr (2, [.ref (b 1), .ref (b 2), .ref (b 3)])), (b 1, .inl (cI, 32, .inl (M 0))), (b 2, .inl (cI, 32, .inl (M 1))), (b 3, .inl (cZ, 8, .inl (M 2)))] H := hP
    have hD : va_D A [(a 0, .inr (1, [.ref (a 1), .ref (a 2), .ref (a 3), .ref (a 4), .ref (a 5), .ref (a 6), .int (K 5 0), .int (K 6 0)])), (a 1, .inl (cI, 4, .inl (upd (K 4) (st_x K) ((K 4 (st_x K)) + (K 4 (st_y K)))))), (a 2, .inl (cI, 24, .inl (K 0))), (a 3, .inl (cI, 24, .inl (K 1))), (a 4, .inl (cI, 24, .inl (K 2))), (a 5, .inl (cI, 24, .inl (K 3))), (a 6, .inr (0, [.ref (a 7), .ref (a 8), .ref (a 9), .int (K 7 0)])), (a 7, .inl (cI, ro, .inl (K 8))), (a 8, .inl (cI, ro, .inl (K 9))), (a 9, .inl (cI, ro, .inl (K 10))), (b 0, .inr (2, [.ref (b 1), .ref (b 2), .ref (b 3)])), (b 1, .inl (cI, 32, .inl (M 0))), (b 2, .inl (cI, 32, .inl (M 1))), (b 3, .inl (cZ, 8, .inl (M 2)))] := hD
    refine lv_goto (tgt := 237) hx hb dX1_perform_178 (by decide) ?_
    rw [st_peK_4 hz, st_peM_4 hz]
    have hP9 := me_subP (ws' := [(a 0, .inr (1, [.ref (a 1), .ref (a 2), .ref (a 3), .ref (a 4), .ref (a 5), .ref (a 6), .int ((st_ks K 4 (st_x K) (K 4 (st_x K) + K 4 (st_y K))) 5 0), .int ((st_ks K 4 (st_x K) (K 4 (st_x K) + K 4 (st_y K))) 6 0)])), (a 1, .inl (cI, 4, .inl ((st_ks K 4 (st_x K) (K 4 (st_x K) + K 4 (st_y K))) 4))), (a 2, .inl (cI, 24, .inl ((st_ks K 4 (st_x K) (K 4 (st_x K) + K 4 (st_y K))) 0))), (a 3, .inl (cI, 24, .inl ((st_ks K 4 (st_x K) (K 4 (st_x K) + K 4 (st_y K))) 1))), (a 4, .inl (cI, 24, .inl ((st_ks K 4 (st_x K) (K 4 (st_x K) + K 4 (st_y K))) 2))), (a 5, .inl (cI, 24, .inl ((st_ks K 4 (st_x K) (K 4 (st_x K) + K 4 (st_y K))) 3))), (a 6, .inr (0, [.ref (a 7), .ref (a 8), .ref (a 9), .int ((st_ks K 4 (st_x K) (K 4 (st_x K) + K 4 (st_y K))) 7 0)])), (a 7, .inl (cI, ro, .inl ((st_ks K 4 (st_x K) (K 4 (st_x K) + K 4 (st_y K))) 8))), (a 8, .inl (cI, ro, .inl ((st_ks K 4 (st_x K) (K 4 (st_x K) + K 4 (st_y K))) 9))), (a 9, .inl (cI, ro, .inl ((st_ks K 4 (st_x K) (K 4 (st_x K) + K 4 (st_y K))) 10))), (b 0, .inr (2, [.ref (b 1), .ref (b 2), .ref (b 3)])), (b 1, .inl (cI, 32, .inl (M 0))), (b 2, .inl (cI, 32, .inl (M 1))), (b 3, .inl (cZ, 8, .inl (M 2)))]) hP [0, 1, 2, 3, 4, 5, 6, 7, 8, 9, 10, 11, 12, 13] rfl
    have hD9 := hD.sub (ws' := [(a 0, .inr (1, [.ref (a 1), .ref (a 2), .ref (a 3), .ref (a 4), .ref (a 5), .ref (a 6), .int ((st_ks K 4 (st_x K) (K 4 (st_x K) + K 4 (st_y K))) 5 0), .int ((st_ks K 4 (st_x K) (K 4 (st_x K) + K 4 (st_y K))) 6 0)])), (a 1, .inl (cI, 4, .inl ((st_ks K 4 (st_x K) (K 4 (st_x K) + K 4 (st_y K))) 4))), (a 2, .inl (cI, 24, .inl ((st_ks K 4 (st_x K) (K 4 (st_x K) + K 4 (st_y K))) 0))), (a 3, .inl (cI, 24, .inl ((st_ks K 4 (st_x K) (K 4 (st_x K) + K 4 (st_y K))) 1))), (a 4, .inl (cI, 24, .inl ((st_ks K 4 (st_x K) (K 4 (st_x K) + K 4 (st_y K))) 2))), (a 5, .inl (cI, 24, .inl ((st_ks K 4 (st_x K) (K 4 (st_x K) + K 4 (st_y K))) 3))), (a 6, .inr (0, [.ref (a 7), .ref (a 8), .ref (a 9), .int ((st_ks K 4 (st_x K) (K 4 (st_x K) + K 4 (st_y K))) 7 0)])), (a 7, .inl (cI, ro, .inl ((st_ks K 4 (st_x K) (K 4 (st_x K) + K 4 (st_y K))) 8))), (a 8, .inl (cI, ro, .inl ((st_ks K 4 (st_x K) (K 4 (st_x K) + K 4 (st_y K))) 9))), (a 9, .inl (cI, ro, .inl ((st_ks K 4 (st_x K) (K 4 (st_x K) + K 4 (st_y K))) 10))), (b 0, .inr (2, [.ref (b 1), .ref (b 2), .ref (b 3)])), (b 1, .inl (cI, 32, .inl (M 0))), (b 2, .inl (cI, 32, .inl (M 1))), (b 3, .inl (cZ, 8, .inl (M 2)))]) [0, 1, 2, 3, 4, 5, 6, 7, 8, 9, 10, 11, 12, 13] (by decide) rfl
    exact me_retV hx hb hr hlk hK hS dX1_perform_237 hP9 hD9
  · have hl : lv_has ls 6 [(0, .ref (a 0)), (1, .ref (b 0))] := hl
    refine lv_aload_n hx hb dX1_perform_0 rfl (lv_at hl 0 rfl) ?_
    refine va_get (D := D) (ci := 1) (v := .ref (a 3)) (C := RX1) (T := TX1) (N := 8) hx hb hg inX1 hown hK hP 0 rfl rfl 2 (by decide) (hg _ bw_1_70) (fun _ h9 => h9) rfl dX1_perform_1 ?_
    refine lv_aload_n hx hb dX1_perform_4 rfl (lv_at hl 0 rfl) ?_
    refine va_get (D := D) (ci := 1) (v := .int (K 5 0)) (C := RX1) (T := TX1) (N := 8) hx hb hg inX1 hown hK hP 0 rfl rfl 6 (by decide) (hg _ bw_1_75) (fun _ h9 => h9) rfl dX1_perform_5 ?_
    refine me_t (x := K 5 0) (y := nI (st_p K)) (hp) ?_
    refine me_ild hx hb hK hP 3 0 rfl rfl (st_p K) (rfl) (by omega) (by omega) dX1_perform_8 ?_
    refine me_t (x := K 1 (st_p K)) (y := nI (st_x K)) (hX) ?_
    refine lv_istore_n hx hb dX1_perform_9 rfl hl (by decide) rfl (fun ls hl => ?_)
    have hl : lv_has ls 6 [(2, .int (nI (st_x K))), (0, .ref (a 0)), (1, .ref (b 0))] := hl
    refine lv_aload_n hx hb dX1_perform_10 rfl (lv_at hl 1 rfl) ?_
    refine va_get (D := D) (ci := 1) (v := .ref (a 4)) (C := RX1) (T := TX1) (N := 8) hx hb hg inX1 hown hK hP 0 rfl rfl 3 (by decide) (hg _ bw_1_71) (fun _ h9 => h9) rfl dX1_perform_11 ?_
    refine lv_aload_n hx hb dX1_perform_14 rfl (lv_at hl 1 rfl) ?_
    refine va_get (D := D) (ci := 1) (v := .int (K 5 0)) (C := RX1) (T := TX1) (N := 8) hx hb hg inX1 hown hK hP 0 rfl rfl 6 (by decide) (hg _ bw_1_75) (fun _ h9 => h9) rfl dX1_perform_15 ?_
    refine me_t (x := K 5 0) (y := nI (st_p K)) (hp) ?_
    refine me_ild hx hb hK hP 4 0 rfl rfl (st_p K) (rfl) (by omega) (by omega) dX1_perform_18 ?_
    refine me_t (x := K 2 (st_p K)) (y := nI (st_y K)) (hY) ?_
    refine lv_istore_n hx hb dX1_perform_19 rfl hl (by decide) rfl (fun ls hl => ?_)
    have hl : lv_has ls 6 [(3, .int (nI (st_y K))), (2, .int (nI (st_x K))), (0, .ref (a 0)), (1, .ref (b 0))] := hl
    refine lv_aload_n hx hb dX1_perform_20 rfl (lv_at hl 2 rfl) ?_
    refine va_get (D := D) (ci := 1) (v := .ref (a 5)) (C := RX1) (T := TX1) (N := 8) hx hb hg inX1 hown hK hP 0 rfl rfl 4 (by decide) (hg _ bw_1_72) (fun _ h9 => h9) rfl dX1_perform_21 ?_
    refine lv_aload_n hx hb dX1_perform_24 rfl (lv_at hl 2 rfl) ?_
    refine va_get (D := D) (ci := 1) (v := .int (K 5 0)) (C := RX1) (T := TX1) (N := 8) hx hb hg inX1 hown hK hP 0 rfl rfl 6 (by decide) (hg _ bw_1_75) (fun _ h9 => h9) rfl dX1_perform_25 ?_
    refine me_t (x := K 5 0) (y := nI (st_p K)) (hp) ?_
    refine me_ild hx hb hK hP 5 0 rfl rfl (st_p K) (rfl) (by omega) (by omega) dX1_perform_28 ?_
    refine lv_istore hx hb dX1_perform_29 hl (by decide) rfl (fun ls hl => ?_)
    have hl : lv_has ls 6 [(4, .int (K 3 (st_p K))), (3, .int (nI (st_y K))), (2, .int (nI (st_x K))), (0, .ref (a 0)), (1, .ref (b 0))] := hl
    refine lv_aload_n hx hb dX1_perform_31 rfl (lv_at hl 3 rfl) ?_
    refine va_get (D := D) (ci := 1) (v := .ref (a 1)) (C := RX1) (T := TX1) (N := 8) hx hb hg inX1 hown hK hP 0 rfl rfl 0 (by decide) (hg _ bw_1_67) (fun _ h9 => h9) rfl dX1_perform_32 ?_
    refine lv_iload_n hx hb dX1_perform_35 rfl (lv_at hl 1 rfl) ?_
    refine me_ild hx hb hK hP 1 0 rfl rfl (st_y K) (rfl) (by omega) (by omega) dX1_perform_36 ?_
    refine lv_iload hx hb dX1_perform_37 (lv_at hl 0 rfl) ?_
    refine lv_iadd hx hb dX1_perform_39 ?_
    refine me_t (x := (K 4 (st_y K)) + (K 3 (st_p K))) (y := K 4 (st_y K) + K 3 (st_p K)) (rfl) ?_
    refine lv_bipush (v := 31) hx hb dX1_perform_40 (by decide) ?_
    refine lv_iand hx hb dX1_perform_42 ?_
    refine me_t (x := (K 4 (st_y K) + K 3 (st_p K)) &&& 31) (y := nI (st_a K)) (ha) ?_
    refine lv_istore hx hb dX1_perform_43 hl (by decide) rfl (fun ls hl => ?_)
    have hl : lv_has ls 6 [(5, .int (nI (st_a K))), (4, .int (K 3 (st_p K))), (3, .int (nI (st_y K))), (2, .int (nI (st_x K))), (0, .ref (a 0)), (1, .ref (b 0))] := hl
    refine lv_aload_n hx hb dX1_perform_45 rfl (lv_at hl 4 rfl) ?_
    refine va_get (D := D) (ci := 1) (v := .ref (a 2)) (C := RX1) (T := TX1) (N := 8) hx hb hg inX1 hown hK hP 0 rfl rfl 1 (by decide) (hg _ bw_1_69) (fun _ h9 => h9) rfl dX1_perform_46 ?_
    refine lv_aload_n hx hb dX1_perform_49 rfl (lv_at hl 4 rfl) ?_
    refine va_get (D := D) (ci := 1) (v := .int (K 5 0)) (C := RX1) (T := TX1) (N := 8) hx hb hg inX1 hown hK hP 0 rfl rfl 6 (by decide) (hg _ bw_1_75) (fun _ h9 => h9) rfl dX1_perform_50 ?_
    refine me_t (x := K 5 0) (y := nI (st_p K)) (hp) ?_
    refine me_ild hx hb hK hP 2 0 rfl rfl (st_p K) (rfl) (by omega) (by omega) dX1_perform_53 ?_
    refine me_t (x := K 0 (st_p K)) (y := nI (5)) (hz) ?_
    refine lv_tableIn (off := 127) (tgt := 181) hx hb dX1_perform_54 (by decide) (by decide) (by decide) (by decide) ?_
    refine lv_aload_n hx hb dX1_perform_181 rfl (lv_at hl 4 rfl) ?_
    refine lv_iload hx hb dX1_perform_182 (lv_at hl 0 rfl) ?_
    refine lv_iload_n hx hb dX1_perform_184 rfl (lv_at hl 3 rfl) ?_
    refine lv_aload_n hx hb dX1_perform_185 rfl (lv_at hl 5 rfl) ?_
    refine me_goV (wr := [(a 6, .inr (0, [.ref (a 7), .ref (a 8), .ref (a 9), .int (K 7 0)])), (a 7, .inl (cI, ro, .inl (K 8))), (a 8, .inl (cI, ro, .inl (K 9))), (a 9, .inl (cI, ro, .inl (K 10)))]) (wc := [(a 0, .inr (1, [.ref (a 1), .ref (a 2), .ref (a 3), .ref (a 4), .ref (a 5), .ref (a 6), .int (K 5 0), .int (K 6 0)])), (a 1, .inl (cI, 4, .inl (K 4))), (a 2, .inl (cI, 24, .inl (K 0))), (a 3, .inl (cI, 24, .inl (K 1))), (a 4, .inl (cI, 24, .inl (K 2))), (a 5, .inl (cI, 24, .inl (K 3))), (b 0, .inr (2, [.ref (b 1), .ref (b 2), .ref (b 3)])), (b 1, .inl (cI, 32, .inl (M 0))), (b 2, .inl (cI, 32, .inl (M 1))), (b 3, .inl (cZ, 8, .inl (M 2)))]) (w1 := [(a 0, .inr (1, [.ref (a 1), .ref (a 2), .ref (a 3), .ref (a 4), .ref (a 5), .ref (a 6), .int ((st_swK K M (st_a K)) 5 0), .int ((st_swK K M (st_a K)) 6 0)])), (a 1, .inl (cI, 4, .inl ((st_swK K M (st_a K)) 4))), (a 2, .inl (cI, 24, .inl ((st_swK K M (st_a K)) 0))), (a 3, .inl (cI, 24, .inl ((st_swK K M (st_a K)) 1))), (a 4, .inl (cI, 24, .inl ((st_swK K M (st_a K)) 2))), (a 5, .inl (cI, 24, .inl ((st_swK K M (st_a K)) 3))), (b 0, .inr (2, [.ref (b 1), .ref (b 2), .ref (b 3)])), (b 1, .inl (cI, 32, .inl ((st_swM K M (st_a K) (st_x K)) 0))), (b 2, .inl (cI, 32, .inl ((st_swM K M (st_a K) (st_x K)) 1))), (b 3, .inl (cZ, 8, .inl ((st_swM K M (st_a K) (st_x K)) 2)))]) (va_runV (C := RX1) (b := a 0) (As := [.int (nI (st_a K)), .int (nI (st_x K)), .ref (b 0)]) (rest := []) ⟨hx, hb, hml, hown, hg⟩ (c_co_swap l D cI cZ cR a b K M (st_a K) (st_x K) ha1 hX1 s.heap.size) (cwV 3 hg (bg_gV (fun _ h => h) bw_1_158 bw_1_160 bw_s_9 bw_1_3 bw_1_161) rfl rfl rfl (by decide +kernel) ⟨Nat.le_of_ble_eq_true rfl, Nat.le_of_ble_eq_true rfl⟩) (me_preV (wc := [(a 0, .inr (1, [.ref (a 1), .ref (a 2), .ref (a 3), .ref (a 4), .ref (a 5), .ref (a 6), .int (K 5 0), .int (K 6 0)])), (a 1, .inl (cI, 4, .inl (K 4))), (a 2, .inl (cI, 24, .inl (K 0))), (a 3, .inl (cI, 24, .inl (K 1))), (a 4, .inl (cI, 24, .inl (K 2))), (a 5, .inl (cI, 24, .inl (K 3))), (b 0, .inr (2, [.ref (b 1), .ref (b 2), .ref (b 3)])), (b 1, .inl (cI, 32, .inl (M 0))), (b 2, .inl (cI, 32, .inl (M 1))), (b 3, .inl (cZ, 8, .inl (M 2)))]) hP hD hK hN [0, 1, 2, 3, 4, 5, 10, 11, 12, 13] rfl (by decide) (va_recv (q0 := 0) (ci := 1) hK hP rfl rfl)) rfl rfl hl.1 rfl (lv_room (Nat.le_of_ble_eq_true rfl)) dX1_perform_186 ⟨Nat.zero_le _, Nat.zero_le _⟩) hP hD hS hA [0, 1, 2, 3, 4, 5, 10, 11, 12, 13] [6, 7, 8, 9] rfl rfl (by decide) (by decide) (fun H locs hP hD hS => ?_)
    have hP : va_P D vwCl [(a 6, .inr (0, [.ref (a 7), .ref (a 8), .ref (a 9), .int (K 7 0)])), (a 7, .inl (cI, ro, .inl (K 8))), (a 8, .inl (cI, ro, .inl (K 9))), (a 9, .inl (cI, ro, .inl (K 10))), (a 0, .inr (1, [.ref (a 1), .ref (a 2), .ref (a 3), .ref (a 4), .ref (a 5), .ref (a 6), .int ((st_swK K M (st_a K)) 5 0), .int ((st_swK K M (st_a K)) 6 0)])), (a 1, .inl (cI, 4, .inl ((st_swK K M (st_a K)) 4))), (a 2, .inl (cI, 24, .inl ((st_swK K M (st_a K)) 0))), (a 3, .inl (cI, 24, .inl ((st_swK K M (st_a K)) 1))), (a 4, .inl (cI, 24, .inl ((st_swK K M (st_a K)) 2))), (a 5, .inl (cI, 24, .inl ((st_swK K M (st_a K)) 3))), (b 0, .inr (2, [.ref (b 1), .ref (b 2), .ref (b 3)])), (b 1, .inl (cI, 32, .inl ((st_swM K M (st_a K) (st_x K)) 0))), (b 2, .inl (cI, 32, .inl ((st_swM K M (st_a K) (st_x K)) 1))), (b 3, .inl (cZ, 8, .inl ((st_swM K M (st_a K) (st_x K)) 2)))] H := hP
    have hD : va_D A [(a 6, .inr (0, [.ref (a 7), .ref (a 8), .ref (a 9), .int (K 7 0)])), (a 7, .inl (cI, ro, .inl (K 8))), (a 8, .inl (cI, ro, .inl (K 9))), (a 9, .inl (cI, ro, .inl (K 10))), (a 0, .inr (1, [.ref (a 1), .ref (a 2), .ref (a 3), .ref (a 4), .ref (a 5), .ref (a 6), .int ((st_swK K M (st_a K)) 5 0), .int ((st_swK K M (st_a K)) 6 0)])), (a 1, .inl (cI, 4, .inl ((st_swK K M (st_a K)) 4))), (a 2, .inl (cI, 24, .inl ((st_swK K M (st_a K)) 0))), (a 3, .inl (cI, 24, .inl ((st_swK K M (st_a K)) 1))), (a 4, .inl (cI, 24, .inl ((st_swK K M (st_a K)) 2))), (a 5, .inl (cI, 24, .inl ((st_swK K M (st_a K)) 3))), (b 0, .inr (2, [.ref (b 1), .ref (b 2), .ref (b 3)])), (b 1, .inl (cI, 32, .inl ((st_swM K M (st_a K) (st_x K)) 0))), (b 2, .inl (cI, 32, .inl ((st_swM K M (st_a K) (st_x K)) 1))), (b 3, .inl (cZ, 8, .inl ((st_swM K M (st_a K) (st_x K)) 2)))] := hD
    refine lv_goto (tgt := 237) hx hb dX1_perform_189 (by decide) ?_
    have hP : va_P D vwCl [(a 6, .inr (0, [.ref (a 7), .ref (a 8), .ref (a 9), .int ((st_swK K M (st_a K)) 7 0)])), (a 7, .inl (cI, ro, .inl ((st_swK K M (st_a K)) 8))), (a 8, .inl (cI, ro, .inl ((st_swK K M (st_a K)) 9))), (a 9, .inl (cI, ro, .inl ((st_swK K M (st_a K)) 10))), (a 0, .inr (1, [.ref (a 1), .ref (a 2), .ref (a 3), .ref (a 4), .ref (a 5), .ref (a 6), .int ((st_swK K M (st_a K)) 5 0), .int ((st_swK K M (st_a K)) 6 0)])), (a 1, .inl (cI, 4, .inl ((st_swK K M (st_a K)) 4))), (a 2, .inl (cI, 24, .inl ((st_swK K M (st_a K)) 0))), (a 3, .inl (cI, 24, .inl ((st_swK K M (st_a K)) 1))), (a 4, .inl (cI, 24, .inl ((st_swK K M (st_a K)) 2))), (a 5, .inl (cI, 24, .inl ((st_swK K M (st_a K)) 3))), (b 0, .inr (2, [.ref (b 1), .ref (b 2), .ref (b 3)])), (b 1, .inl (cI, 32, .inl ((st_swM K M (st_a K) (st_x K)) 0))), (b 2, .inl (cI, 32, .inl ((st_swM K M (st_a K) (st_x K)) 1))), (b 3, .inl (cZ, 8, .inl ((st_swM K M (st_a K) (st_x K)) 2)))] H := by rw [st_swKn 7 (by decide), st_swKn 8 (by decide), st_swKn 9 (by decide), st_swKn 10 (by decide)]; exact hP
    have hD : va_D A [(a 6, .inr (0, [.ref (a 7), .ref (a 8), .ref (a 9), .int ((st_swK K M (st_a K)) 7 0)])), (a 7, .inl (cI, ro, .inl ((st_swK K M (st_a K)) 8))), (a 8, .inl (cI, ro, .inl ((st_swK K M (st_a K)) 9))), (a 9, .inl (cI, ro, .inl ((st_swK K M (st_a K)) 10))), (a 0, .inr (1, [.ref (a 1), .ref (a 2), .ref (a 3), .ref (a 4), .ref (a 5), .ref (a 6), .int ((st_swK K M (st_a K)) 5 0), .int ((st_swK K M (st_a K)) 6 0)])), (a 1, .inl (cI, 4, .inl ((st_swK K M (st_a K)) 4))), (a 2, .inl (cI, 24, .inl ((st_swK K M (st_a K)) 0))), (a 3, .inl (cI, 24, .inl ((st_swK K M (st_a K)) 1))), (a 4, .inl (cI, 24, .inl ((st_swK K M (st_a K)) 2))), (a 5, .inl (cI, 24, .inl ((st_swK K M (st_a K)) 3))), (b 0, .inr (2, [.ref (b 1), .ref (b 2), .ref (b 3)])), (b 1, .inl (cI, 32, .inl ((st_swM K M (st_a K) (st_x K)) 0))), (b 2, .inl (cI, 32, .inl ((st_swM K M (st_a K) (st_x K)) 1))), (b 3, .inl (cZ, 8, .inl ((st_swM K M (st_a K) (st_x K)) 2)))] := by rw [st_swKn 7 (by decide), st_swKn 8 (by decide), st_swKn 9 (by decide), st_swKn 10 (by decide)]; exact hD
    rw [st_peK_5 hz, st_peM_5 hz]
    have hP9 := me_subP (ws' := [(a 0, .inr (1, [.ref (a 1), .ref (a 2), .ref (a 3), .ref (a 4), .ref (a 5), .ref (a 6), .int ((st_swK K M (st_a K)) 5 0), .int ((st_swK K M (st_a K)) 6 0)])), (a 1, .inl (cI, 4, .inl ((st_swK K M (st_a K)) 4))), (a 2, .inl (cI, 24, .inl ((st_swK K M (st_a K)) 0))), (a 3, .inl (cI, 24, .inl ((st_swK K M (st_a K)) 1))), (a 4, .inl (cI, 24, .inl ((st_swK K M (st_a K)) 2))), (a 5, .inl (cI, 24, .inl ((st_swK K M (st_a K)) 3))), (a 6, .inr (0, [.ref (a 7), .ref (a 8), .ref (a 9), .int ((st_swK K M (st_a K)) 7 0)])), (a 7, .inl (cI, ro, .inl ((st_swK K M (st_a K)) 8))), (a 8, .inl (cI, ro, .inl ((st_swK K M (st_a K)) 9))), (a 9, .inl (cI, ro, .inl ((st_swK K M (st_a K)) 10))), (b 0, .inr (2, [.ref (b 1), .ref (b 2), .ref (b 3)])), (b 1, .inl (cI, 32, .inl ((st_swM K M (st_a K) (st_x K)) 0))), (b 2, .inl (cI, 32, .inl ((st_swM K M (st_a K) (st_x K)) 1))), (b 3, .inl (cZ, 8, .inl ((st_swM K M (st_a K) (st_x K)) 2)))]) hP [4, 5, 6, 7, 8, 9, 0, 1, 2, 3, 10, 11, 12, 13] rfl
    have hD9 := hD.sub (ws' := [(a 0, .inr (1, [.ref (a 1), .ref (a 2), .ref (a 3), .ref (a 4), .ref (a 5), .ref (a 6), .int ((st_swK K M (st_a K)) 5 0), .int ((st_swK K M (st_a K)) 6 0)])), (a 1, .inl (cI, 4, .inl ((st_swK K M (st_a K)) 4))), (a 2, .inl (cI, 24, .inl ((st_swK K M (st_a K)) 0))), (a 3, .inl (cI, 24, .inl ((st_swK K M (st_a K)) 1))), (a 4, .inl (cI, 24, .inl ((st_swK K M (st_a K)) 2))), (a 5, .inl (cI, 24, .inl ((st_swK K M (st_a K)) 3))), (a 6, .inr (0, [.ref (a 7), .ref (a 8), .ref (a 9), .int ((st_swK K M (st_a K)) 7 0)])), (a 7, .inl (cI, ro, .inl ((st_swK K M (st_a K)) 8))), (a 8, .inl (cI, ro, .inl ((st_swK K M (st_a K)) 9))), (a 9, .inl (cI, ro, .inl ((st_swK K M (st_a K)) 10))), (b 0, .inr (2, [.ref (b 1), .ref (b 2), .ref (b 3)])), (b 1, .inl (cI, 32, .inl ((st_swM K M (st_a K) (st_x K)) 0))), (b 2, .inl (cI, 32, .inl ((st_swM K M (st_a K) (st_x K)) 1))), (b 3, .inl (cZ, 8, .inl ((st_swM K M (st_a K) (st_x K)) 2)))]) [4, 5, 6, 7, 8, 9, 0, 1, 2, 3, 10, 11, 12, 13] (by decide) rfl
    exact me_retV hx hb hr hlk hK hS dX1_perform_237 hP9 hD9
  · have hl : lv_has ls 6 [(0, .ref (a 0)), (1, .ref (b 0))] := hl
    refine lv_aload_n hx hb dX1_perform_0 rfl (lv_at hl 0 rfl) ?_
    refine va_get (D := D) (ci := 1) (v := .ref (a 3)) (C := RX1) (T := TX1) (N := 8) hx hb hg inX1 hown hK hP 0 rfl rfl 2 (by decide) (hg _ bw_1_70) (fun _ h9 => h9) rfl dX1_perform_1 ?_
    refine lv_aload_n hx hb dX1_perform_4 rfl (lv_at hl 0 rfl) ?_
    refine va_get (D := D) (ci := 1) (v := .int (K 5 0)) (C := RX1) (T := TX1) (N := 8) hx hb hg inX1 hown hK hP 0 rfl rfl 6 (by decide) (hg _ bw_1_75) (fun _ h9 => h9) rfl dX1_perform_5 ?_
    refine me_t (x := K 5 0) (y := nI (st_p K)) (hp) ?_
    refine me_ild hx hb hK hP 3 0 rfl rfl (st_p K) (rfl) (by omega) (by omega) dX1_perform_8 ?_
    refine me_t (x := K 1 (st_p K)) (y := nI (st_x K)) (hX) ?_
    refine lv_istore_n hx hb dX1_perform_9 rfl hl (by decide) rfl (fun ls hl => ?_)
    have hl : lv_has ls 6 [(2, .int (nI (st_x K))), (0, .ref (a 0)), (1, .ref (b 0))] := hl
    refine lv_aload_n hx hb dX1_perform_10 rfl (lv_at hl 1 rfl) ?_
    refine va_get (D := D) (ci := 1) (v := .ref (a 4)) (C := RX1) (T := TX1) (N := 8) hx hb hg inX1 hown hK hP 0 rfl rfl 3 (by decide) (hg _ bw_1_71) (fun _ h9 => h9) rfl dX1_perform_11 ?_
    refine lv_aload_n hx hb dX1_perform_14 rfl (lv_at hl 1 rfl) ?_
    refine va_get (D := D) (ci := 1) (v := .int (K 5 0)) (C := RX1) (T := TX1) (N := 8) hx hb hg inX1 hown hK hP 0 rfl rfl 6 (by decide) (hg _ bw_1_75) (fun _ h9 => h9) rfl dX1_perform_15 ?_
    refine me_t (x := K 5 0) (y := nI (st_p K)) (hp) ?_
    refine me_ild hx hb hK hP 4 0 rfl rfl (st_p K) (rfl) (by omega) (by omega) dX1_perform_18 ?_
    refine me_t (x := K 2 (st_p K)) (y := nI (st_y K)) (hY) ?_
    refine lv_istore_n hx hb dX1_perform_19 rfl hl (by decide) rfl (fun ls hl => ?_)
    have hl : lv_has ls 6 [(3, .int (nI (st_y K))), (2, .int (nI (st_x K))), (0, .ref (a 0)), (1, .ref (b 0))] := hl
    refine lv_aload_n hx hb dX1_perform_20 rfl (lv_at hl 2 rfl) ?_
    refine va_get (D := D) (ci := 1) (v := .ref (a 5)) (C := RX1) (T := TX1) (N := 8) hx hb hg inX1 hown hK hP 0 rfl rfl 4 (by decide) (hg _ bw_1_72) (fun _ h9 => h9) rfl dX1_perform_21 ?_
    refine lv_aload_n hx hb dX1_perform_24 rfl (lv_at hl 2 rfl) ?_
    refine va_get (D := D) (ci := 1) (v := .int (K 5 0)) (C := RX1) (T := TX1) (N := 8) hx hb hg inX1 hown hK hP 0 rfl rfl 6 (by decide) (hg _ bw_1_75) (fun _ h9 => h9) rfl dX1_perform_25 ?_
    refine me_t (x := K 5 0) (y := nI (st_p K)) (hp) ?_
    refine me_ild hx hb hK hP 5 0 rfl rfl (st_p K) (rfl) (by omega) (by omega) dX1_perform_28 ?_
    refine lv_istore hx hb dX1_perform_29 hl (by decide) rfl (fun ls hl => ?_)
    have hl : lv_has ls 6 [(4, .int (K 3 (st_p K))), (3, .int (nI (st_y K))), (2, .int (nI (st_x K))), (0, .ref (a 0)), (1, .ref (b 0))] := hl
    refine lv_aload_n hx hb dX1_perform_31 rfl (lv_at hl 3 rfl) ?_
    refine va_get (D := D) (ci := 1) (v := .ref (a 1)) (C := RX1) (T := TX1) (N := 8) hx hb hg inX1 hown hK hP 0 rfl rfl 0 (by decide) (hg _ bw_1_67) (fun _ h9 => h9) rfl dX1_perform_32 ?_
    refine lv_iload_n hx hb dX1_perform_35 rfl (lv_at hl 1 rfl) ?_
    refine me_ild hx hb hK hP 1 0 rfl rfl (st_y K) (rfl) (by omega) (by omega) dX1_perform_36 ?_
    refine lv_iload hx hb dX1_perform_37 (lv_at hl 0 rfl) ?_
    refine lv_iadd hx hb dX1_perform_39 ?_
    refine me_t (x := (K 4 (st_y K)) + (K 3 (st_p K))) (y := K 4 (st_y K) + K 3 (st_p K)) (rfl) ?_
    refine lv_bipush (v := 31) hx hb dX1_perform_40 (by decide) ?_
    refine lv_iand hx hb dX1_perform_42 ?_
    refine me_t (x := (K 4 (st_y K) + K 3 (st_p K)) &&& 31) (y := nI (st_a K)) (ha) ?_
    refine lv_istore hx hb dX1_perform_43 hl (by decide) rfl (fun ls hl => ?_)
    have hl : lv_has ls 6 [(5, .int (nI (st_a K))), (4, .int (K 3 (st_p K))), (3, .int (nI (st_y K))), (2, .int (nI (st_x K))), (0, .ref (a 0)), (1, .ref (b 0))] := hl
    refine lv_aload_n hx hb dX1_perform_45 rfl (lv_at hl 4 rfl) ?_
    refine va_get (D := D) (ci := 1) (v := .ref (a 2)) (C := RX1) (T := TX1) (N := 8) hx hb hg inX1 hown hK hP 0 rfl rfl 1 (by decide) (hg _ bw_1_69) (fun _ h9 => h9) rfl dX1_perform_46 ?_
    refine lv_aload_n hx hb dX1_perform_49 rfl (lv_at hl 4 rfl) ?_
    refine va_get (D := D) (ci := 1) (v := .int (K 5 0)) (C := RX1) (T := TX1) (N := 8) hx hb hg inX1 hown hK hP 0 rfl rfl 6 (by decide) (hg _ bw_1_75) (fun _ h9 => h9) rfl dX1_perform_50 ?_
    refine me_t (x := K 5 0) (y := nI (st_p K)) (hp) ?_
    refine me_ild hx hb hK hP 2 0 rfl rfl (st_p K) (rfl) (by omega) (by omega) dX1_perform_53 ?_
    refine me_t (x := K 0 (st_p K)) (y := nI (6)) (hz) ?_
    refine lv_tableIn (off := 183) (tgt := 237) hx hb dX1_perform_54 (by decide) (by decide) (by decide) (by decide) ?_
    rw [st_peK_6 hz, st_peM_6 hz]
    have hP9 := me_subP (ws' := [(a 0, .inr (1, [.ref (a 1), .ref (a 2), .ref (a 3), .ref (a 4), .ref (a 5), .ref (a 6), .int (K 5 0), .int (K 6 0)])), (a 1, .inl (cI, 4, .inl (K 4))), (a 2, .inl (cI, 24, .inl (K 0))), (a 3, .inl (cI, 24, .inl (K 1))), (a 4, .inl (cI, 24, .inl (K 2))), (a 5, .inl (cI, 24, .inl (K 3))), (a 6, .inr (0, [.ref (a 7), .ref (a 8), .ref (a 9), .int (K 7 0)])), (a 7, .inl (cI, ro, .inl (K 8))), (a 8, .inl (cI, ro, .inl (K 9))), (a 9, .inl (cI, ro, .inl (K 10))), (b 0, .inr (2, [.ref (b 1), .ref (b 2), .ref (b 3)])), (b 1, .inl (cI, 32, .inl (M 0))), (b 2, .inl (cI, 32, .inl (M 1))), (b 3, .inl (cZ, 8, .inl (M 2)))]) hP [0, 1, 2, 3, 4, 5, 6, 7, 8, 9, 10, 11, 12, 13] rfl
    have hD9 := hD.sub (ws' := [(a 0, .inr (1, [.ref (a 1), .ref (a 2), .ref (a 3), .ref (a 4), .ref (a 5), .ref (a 6), .int (K 5 0), .int (K 6 0)])), (a 1, .inl (cI, 4, .inl (K 4))), (a 2, .inl (cI, 24, .inl (K 0))), (a 3, .inl (cI, 24, .inl (K 1))), (a 4, .inl (cI, 24, .inl (K 2))), (a 5, .inl (cI, 24, .inl (K 3))), (a 6, .inr (0, [.ref (a 7), .ref (a 8), .ref (a 9), .int (K 7 0)])), (a 7, .inl (cI, ro, .inl (K 8))), (a 8, .inl (cI, ro, .inl (K 9))), (a 9, .inl (cI, ro, .inl (K 10))), (b 0, .inr (2, [.ref (b 1), .ref (b 2), .ref (b 3)])), (b 1, .inl (cI, 32, .inl (M 0))), (b 2, .inl (cI, 32, .inl (M 1))), (b 3, .inl (cZ, 8, .inl (M 2)))]) [0, 1, 2, 3, 4, 5, 6, 7, 8, 9, 10, 11, 12, 13] (by decide) rfl
    exact me_retV hx hb hr hlk hK hS dX1_perform_237 hP9 hD9
  · have hl : lv_has ls 6 [(0, .ref (a 0)), (1, .ref (b 0))] := hl
    refine lv_aload_n hx hb dX1_perform_0 rfl (lv_at hl 0 rfl) ?_
    refine va_get (D := D) (ci := 1) (v := .ref (a 3)) (C := RX1) (T := TX1) (N := 8) hx hb hg inX1 hown hK hP 0 rfl rfl 2 (by decide) (hg _ bw_1_70) (fun _ h9 => h9) rfl dX1_perform_1 ?_
    refine lv_aload_n hx hb dX1_perform_4 rfl (lv_at hl 0 rfl) ?_
    refine va_get (D := D) (ci := 1) (v := .int (K 5 0)) (C := RX1) (T := TX1) (N := 8) hx hb hg inX1 hown hK hP 0 rfl rfl 6 (by decide) (hg _ bw_1_75) (fun _ h9 => h9) rfl dX1_perform_5 ?_
    refine me_t (x := K 5 0) (y := nI (st_p K)) (hp) ?_
    refine me_ild hx hb hK hP 3 0 rfl rfl (st_p K) (rfl) (by omega) (by omega) dX1_perform_8 ?_
    refine me_t (x := K 1 (st_p K)) (y := nI (st_x K)) (hX) ?_
    refine lv_istore_n hx hb dX1_perform_9 rfl hl (by decide) rfl (fun ls hl => ?_)
    have hl : lv_has ls 6 [(2, .int (nI (st_x K))), (0, .ref (a 0)), (1, .ref (b 0))] := hl
    refine lv_aload_n hx hb dX1_perform_10 rfl (lv_at hl 1 rfl) ?_
    refine va_get (D := D) (ci := 1) (v := .ref (a 4)) (C := RX1) (T := TX1) (N := 8) hx hb hg inX1 hown hK hP 0 rfl rfl 3 (by decide) (hg _ bw_1_71) (fun _ h9 => h9) rfl dX1_perform_11 ?_
    refine lv_aload_n hx hb dX1_perform_14 rfl (lv_at hl 1 rfl) ?_
    refine va_get (D := D) (ci := 1) (v := .int (K 5 0)) (C := RX1) (T := TX1) (N := 8) hx hb hg inX1 hown hK hP 0 rfl rfl 6 (by decide) (hg _ bw_1_75) (fun _ h9 => h9) rfl dX1_perform_15 ?_
    refine me_t (x := K 5 0) (y := nI (st_p K)) (hp) ?_
    refine me_ild hx hb hK hP 4 0 rfl rfl (st_p K) (rfl) (by omega) (by omega) dX1_perform_18 ?_
    refine me_t (x := K 2 (st_p K)) (y := nI (st_y K)) (hY) ?_
    refine lv_istore_n hx hb dX1_perform_19 rfl hl (by decide) rfl (fun ls hl => ?_)
    have hl : lv_has ls 6 [(3, .int (nI (st_y K))), (2, .int (nI (st_x K))), (0, .ref (a 0)), (1, .ref (b 0))] := hl
    refine lv_aload_n hx hb dX1_perform_20 rfl (lv_at hl 2 rfl) ?_
    refine va_get (D := D) (ci := 1) (v := .ref (a 5)) (C := RX1) (T := TX1) (N := 8) hx hb hg inX1 hown hK hP 0 rfl rfl 4 (by decide) (hg _ bw_1_72) (fun _ h9 => h9) rfl dX1_perform_21 ?_
    refine lv_aload_n hx hb dX1_perform_24 rfl (lv_at hl 2 rfl) ?_
    refine va_get (D := D) (ci := 1) (v := .int (K 5 0)) (C := RX1) (T := TX1) (N := 8) hx hb hg inX1 hown hK hP 0 rfl rfl 6 (by decide) (hg _ bw_1_75) (fun _ h9 => h9) rfl dX1_perform_25 ?_
    refine me_t (x := K 5 0) (y := nI (st_p K)) (hp) ?_
    refine me_ild hx hb hK hP 5 0 rfl rfl (st_p K) (rfl) (by omega) (by omega) dX1_perform_28 ?_
    refine lv_istore hx hb dX1_perform_29 hl (by decide) rfl (fun ls hl => ?_)
    have hl : lv_has ls 6 [(4, .int (K 3 (st_p K))), (3, .int (nI (st_y K))), (2, .int (nI (st_x K))), (0, .ref (a 0)), (1, .ref (b 0))] := hl
    refine lv_aload_n hx hb dX1_perform_31 rfl (lv_at hl 3 rfl) ?_
    refine va_get (D := D) (ci := 1) (v := .ref (a 1)) (C := RX1) (T := TX1) (N := 8) hx hb hg inX1 hown hK hP 0 rfl rfl 0 (by decide) (hg _ bw_1_67) (fun _ h9 => h9) rfl dX1_perform_32 ?_
    refine lv_iload_n hx hb dX1_perform_35 rfl (lv_at hl 1 rfl) ?_
    refine me_ild hx hb hK hP 1 0 rfl rfl (st_y K) (rfl) (by omega) (by omega) dX1_perform_36 ?_
    refine lv_iload hx hb dX1_perform_37 (lv_at hl 0 rfl) ?_
    refine lv_iadd hx hb dX1_perform_39 ?_
    refine me_t (x := (K 4 (st_y K)) + (K 3 (st_p K))) (y := K 4 (st_y K) + K 3 (st_p K)) (rfl) ?_
    refine lv_bipush (v := 31) hx hb dX1_perform_40 (by decide) ?_
    refine lv_iand hx hb dX1_perform_42 ?_
    refine me_t (x := (K 4 (st_y K) + K 3 (st_p K)) &&& 31) (y := nI (st_a K)) (ha) ?_
    refine lv_istore hx hb dX1_perform_43 hl (by decide) rfl (fun ls hl => ?_)
    have hl : lv_has ls 6 [(5, .int (nI (st_a K))), (4, .int (K 3 (st_p K))), (3, .int (nI (st_y K))), (2, .int (nI (st_x K))), (0, .ref (a 0)), (1, .ref (b 0))] := hl
    refine lv_aload_n hx hb dX1_perform_45 rfl (lv_at hl 4 rfl) ?_
    refine va_get (D := D) (ci := 1) (v := .ref (a 2)) (C := RX1) (T := TX1) (N := 8) hx hb hg inX1 hown hK hP 0 rfl rfl 1 (by decide) (hg _ bw_1_69) (fun _ h9 => h9) rfl dX1_perform_46 ?_
    refine lv_aload_n hx hb dX1_perform_49 rfl (lv_at hl 4 rfl) ?_
    refine va_get (D := D) (ci := 1) (v := .int (K 5 0)) (C := RX1) (T := TX1) (N := 8) hx hb hg inX1 hown hK hP 0 rfl rfl 6 (by decide) (hg _ bw_1_75) (fun _ h9 => h9) rfl dX1_perform_50 ?_
    refine me_t (x := K 5 0) (y := nI (st_p K)) (hp) ?_
    refine me_ild hx hb hK hP 2 0 rfl rfl (st_p K) (rfl) (by omega) (by omega) dX1_perform_53 ?_
    refine me_t (x := K 0 (st_p K)) (y := nI (7)) (hz) ?_
    refine lv_tableIn (off := 138) (tgt := 192) hx hb dX1_perform_54 (by decide) (by decide) (by decide) (by decide) ?_
    refine lv_aload_n hx hb dX1_perform_192 rfl (lv_at hl 4 rfl) ?_
    refine va_get (D := D) (ci := 1) (v := .ref (a 6)) (C := RX1) (T := TX1) (N := 8) hx hb hg inX1 hown hK hP 0 rfl rfl 5 (by decide) (hg _ bw_1_73) (fun _ h9 => h9) rfl dX1_perform_193 ?_
    refine lv_iconst (v := 3) hx hb dX1_perform_196 (by decide) ?_
    refine lv_iconst (v := 0) hx hb dX1_perform_197 (by decide) ?_
    refine lv_iconst (v := 0) hx hb dX1_perform_198 (by decide) ?_
    refine me_goV (wr := [(a 0, .inr (1, [.ref (a 1), .ref (a 2), .ref (a 3), .ref (a 4), .ref (a 5), .ref (a 6), .int (K 5 0), .int (K 6 0)])), (a 1, .inl (cI, 4, .inl (K 4))), (a 2, .inl (cI, 24, .inl (K 0))), (a 3, .inl (cI, 24, .inl (K 1))), (a 4, .inl (cI, 24, .inl (K 2))), (a 5, .inl (cI, 24, .inl (K 3))), (b 0, .inr (2, [.ref (b 1), .ref (b 2), .ref (b 3)])), (b 1, .inl (cI, 32, .inl (M 0))), (b 2, .inl (cI, 32, .inl (M 1))), (b 3, .inl (cZ, 8, .inl (M 2)))]) (wc := [(a 6, .inr (0, [.ref (a 7), .ref (a 8), .ref (a 9), .int (K 7 0)])), (a 7, .inl (cI, ro, .inl (K 8))), (a 8, .inl (cI, ro, .inl (K 9))), (a 9, .inl (cI, ro, .inl (K 10)))]) (w1 := [(a 6, .inr (0, [.ref (a 7), .ref (a 8), .ref (a 9), .int ((st_ap K 3 0 0) 7 0)])), (a 7, .inl (cI, ro, .inl ((st_ap K 3 0 0) 8))), (a 8, .inl (cI, ro, .inl ((st_ap K 3 0 0) 9))), (a 9, .inl (cI, ro, .inl ((st_ap K 3 0 0) 10)))]) (va_runVN (C := RX0) (b := a 6) (As := [.int (3), .int (0), .int (0)]) (rest := []) ⟨hx, hb, hml, hown, hg⟩ (c_bu_append l D cI cZ cR a ro K 3 0 0 hh (Nat.lt_of_not_le (fun q => hnw ((st_wq3 (by decide)).mpr q))) hro s.heap.size) ⟨va_cnB 3 hg (bg_gi (fun _ h => h) bw_1_156) rfl rfl rfl (hN.1 _ ne_7) (hg _ bw_1_4) (by decide +kernel) ⟨Nat.le_of_ble_eq_true rfl, Nat.le_of_ble_eq_true rfl⟩, (hg _ bw_1_155), (hg _ bw_s_8)⟩ (me_preV (wc := [(a 6, .inr (0, [.ref (a 7), .ref (a 8), .ref (a 9), .int (K 7 0)])), (a 7, .inl (cI, ro, .inl (K 8))), (a 8, .inl (cI, ro, .inl (K 9))), (a 9, .inl (cI, ro, .inl (K 10)))]) hP hD hK hN [6, 7, 8, 9] rfl (by decide) (va_recv (q0 := 6) (ci := 0) hK hP rfl rfl)) rfl rfl hl.1 rfl (lv_room (Nat.le_of_ble_eq_true rfl)) dX1_perform_199 ⟨Nat.zero_le _, Nat.zero_le _⟩) hP hD hS hA [6, 7, 8, 9] [0, 1, 2, 3, 4, 5, 10, 11, 12, 13] rfl rfl (by decide) (by decide) (fun H locs hP hD hS => ?_)
    have hP : va_P D vwCl [(a 0, .inr (1, [.ref (a 1), .ref (a 2), .ref (a 3), .ref (a 4), .ref (a 5), .ref (a 6), .int (K 5 0), .int (K 6 0)])), (a 1, .inl (cI, 4, .inl (K 4))), (a 2, .inl (cI, 24, .inl (K 0))), (a 3, .inl (cI, 24, .inl (K 1))), (a 4, .inl (cI, 24, .inl (K 2))), (a 5, .inl (cI, 24, .inl (K 3))), (b 0, .inr (2, [.ref (b 1), .ref (b 2), .ref (b 3)])), (b 1, .inl (cI, 32, .inl (M 0))), (b 2, .inl (cI, 32, .inl (M 1))), (b 3, .inl (cZ, 8, .inl (M 2))), (a 6, .inr (0, [.ref (a 7), .ref (a 8), .ref (a 9), .int ((st_ap K 3 0 0) 7 0)])), (a 7, .inl (cI, ro, .inl ((st_ap K 3 0 0) 8))), (a 8, .inl (cI, ro, .inl ((st_ap K 3 0 0) 9))), (a 9, .inl (cI, ro, .inl ((st_ap K 3 0 0) 10)))] H := hP
    have hD : va_D A [(a 0, .inr (1, [.ref (a 1), .ref (a 2), .ref (a 3), .ref (a 4), .ref (a 5), .ref (a 6), .int (K 5 0), .int (K 6 0)])), (a 1, .inl (cI, 4, .inl (K 4))), (a 2, .inl (cI, 24, .inl (K 0))), (a 3, .inl (cI, 24, .inl (K 1))), (a 4, .inl (cI, 24, .inl (K 2))), (a 5, .inl (cI, 24, .inl (K 3))), (b 0, .inr (2, [.ref (b 1), .ref (b 2), .ref (b 3)])), (b 1, .inl (cI, 32, .inl (M 0))), (b 2, .inl (cI, 32, .inl (M 1))), (b 3, .inl (cZ, 8, .inl (M 2))), (a 6, .inr (0, [.ref (a 7), .ref (a 8), .ref (a 9), .int ((st_ap K 3 0 0) 7 0)])), (a 7, .inl (cI, ro, .inl ((st_ap K 3 0 0) 8))), (a 8, .inl (cI, ro, .inl ((st_ap K 3 0 0) 9))), (a 9, .inl (cI, ro, .inl ((st_ap K 3 0 0) 10)))] := hD
    refine lv_goto (tgt := 237) hx hb dX1_perform_202 (by decide) ?_
    rw [st_peK_7 hz, st_peM_7 hz]
    have hP9 := me_subP (ws' := [(a 0, .inr (1, [.ref (a 1), .ref (a 2), .ref (a 3), .ref (a 4), .ref (a 5), .ref (a 6), .int ((st_ap K 3 0 0) 5 0), .int ((st_ap K 3 0 0) 6 0)])), (a 1, .inl (cI, 4, .inl ((st_ap K 3 0 0) 4))), (a 2, .inl (cI, 24, .inl ((st_ap K 3 0 0) 0))), (a 3, .inl (cI, 24, .inl ((st_ap K 3 0 0) 1))), (a 4, .inl (cI, 24, .inl ((st_ap K 3 0 0) 2))), (a 5, .inl (cI, 24, .inl ((st_ap K 3 0 0) 3))), (a 6, .inr (0, [.ref (a 7), .ref (a 8), .ref (a 9), .int ((st_ap K 3 0 0) 7 0)])), (a 7, .inl (cI, ro, .inl ((st_ap K 3 0 0) 8))), (a 8, .inl (cI, ro, .inl ((st_ap K 3 0 0) 9))), (a 9, .inl (cI, ro, .inl ((st_ap K 3 0 0) 10))), (b 0, .inr (2, [.ref (b 1), .ref (b 2), .ref (b 3)])), (b 1, .inl (cI, 32, .inl (M 0))), (b 2, .inl (cI, 32, .inl (M 1))), (b 3, .inl (cZ, 8, .inl (M 2)))]) hP [0, 1, 2, 3, 4, 5, 10, 11, 12, 13, 6, 7, 8, 9] rfl
    have hD9 := hD.sub (ws' := [(a 0, .inr (1, [.ref (a 1), .ref (a 2), .ref (a 3), .ref (a 4), .ref (a 5), .ref (a 6), .int ((st_ap K 3 0 0) 5 0), .int ((st_ap K 3 0 0) 6 0)])), (a 1, .inl (cI, 4, .inl ((st_ap K 3 0 0) 4))), (a 2, .inl (cI, 24, .inl ((st_ap K 3 0 0) 0))), (a 3, .inl (cI, 24, .inl ((st_ap K 3 0 0) 1))), (a 4, .inl (cI, 24, .inl ((st_ap K 3 0 0) 2))), (a 5, .inl (cI, 24, .inl ((st_ap K 3 0 0) 3))), (a 6, .inr (0, [.ref (a 7), .ref (a 8), .ref (a 9), .int ((st_ap K 3 0 0) 7 0)])), (a 7, .inl (cI, ro, .inl ((st_ap K 3 0 0) 8))), (a 8, .inl (cI, ro, .inl ((st_ap K 3 0 0) 9))), (a 9, .inl (cI, ro, .inl ((st_ap K 3 0 0) 10))), (b 0, .inr (2, [.ref (b 1), .ref (b 2), .ref (b 3)])), (b 1, .inl (cI, 32, .inl (M 0))), (b 2, .inl (cI, 32, .inl (M 1))), (b 3, .inl (cZ, 8, .inl (M 2)))]) [0, 1, 2, 3, 4, 5, 10, 11, 12, 13, 6, 7, 8, 9] (by decide) rfl
    exact me_retV hx hb hr hlk hK hS dX1_perform_237 hP9 hD9
  · have hl : lv_has ls 6 [(0, .ref (a 0)), (1, .ref (b 0))] := hl
    refine lv_aload_n hx hb dX1_perform_0 rfl (lv_at hl 0 rfl) ?_
    refine va_get (D := D) (ci := 1) (v := .ref (a 3)) (C := RX1) (T := TX1) (N := 8) hx hb hg inX1 hown hK hP 0 rfl rfl 2 (by decide) (hg _ bw_1_70) (fun _ h9 => h9) rfl dX1_perform_1 ?_
    refine lv_aload_n hx hb dX1_perform_4 rfl (lv_at hl 0 rfl) ?_
    refine va_get (D := D) (ci := 1) (v := .int (K 5 0)) (C := RX1) (T := TX1) (N := 8) hx hb hg inX1 hown hK hP 0 rfl rfl 6 (by decide) (hg _ bw_1_75) (fun _ h9 => h9) rfl dX1_perform_5 ?_
    refine me_t (x := K 5 0) (y := nI (st_p K)) (hp) ?_
    refine me_ild hx hb hK hP 3 0 rfl rfl (st_p K) (rfl) (by omega) (by omega) dX1_perform_8 ?_
    refine me_t (x := K 1 (st_p K)) (y := nI (st_x K)) (hX) ?_
    refine lv_istore_n hx hb dX1_perform_9 rfl hl (by decide) rfl (fun ls hl => ?_)
    have hl : lv_has ls 6 [(2, .int (nI (st_x K))), (0, .ref (a 0)), (1, .ref (b 0))] := hl
    refine lv_aload_n hx hb dX1_perform_10 rfl (lv_at hl 1 rfl) ?_
    refine va_get (D := D) (ci := 1) (v := .ref (a 4)) (C := RX1) (T := TX1) (N := 8) hx hb hg inX1 hown hK hP 0 rfl rfl 3 (by decide) (hg _ bw_1_71) (fun _ h9 => h9) rfl dX1_perform_11 ?_
    refine lv_aload_n hx hb dX1_perform_14 rfl (lv_at hl 1 rfl) ?_
    refine va_get (D := D) (ci := 1) (v := .int (K 5 0)) (C := RX1) (T := TX1) (N := 8) hx hb hg inX1 hown hK hP 0 rfl rfl 6 (by decide) (hg _ bw_1_75) (fun _ h9 => h9) rfl dX1_perform_15 ?_
    refine me_t (x := K 5 0) (y := nI (st_p K)) (hp) ?_
    refine me_ild hx hb hK hP 4 0 rfl rfl (st_p K) (rfl) (by omega) (by omega) dX1_perform_18 ?_
    refine me_t (x := K 2 (st_p K)) (y := nI (st_y K)) (hY) ?_
    refine lv_istore_n hx hb dX1_perform_19 rfl hl (by decide) rfl (fun ls hl => ?_)
    have hl : lv_has ls 6 [(3, .int (nI (st_y K))), (2, .int (nI (st_x K))), (0, .ref (a 0)), (1, .ref (b 0))] := hl
    refine lv_aload_n hx hb dX1_perform_20 rfl (lv_at hl 2 rfl) ?_
    refine va_get (D := D) (ci := 1) (v := .ref (a 5)) (C := RX1) (T := TX1) (N := 8) hx hb hg inX1 hown hK hP 0 rfl rfl 4 (by decide) (hg _ bw_1_72) (fun _ h9 => h9) rfl dX1_perform_21 ?_
    refine lv_aload_n hx hb dX1_perform_24 rfl (lv_at hl 2 rfl) ?_
    refine va_get (D := D) (ci := 1) (v := .int (K 5 0)) (C := RX1) (T := TX1) (N := 8) hx hb hg inX1 hown hK hP 0 rfl rfl 6 (by decide) (hg _ bw_1_75) (fun _ h9 => h9) rfl dX1_perform_25 ?_
    refine me_t (x := K 5 0) (y := nI (st_p K)) (hp) ?_
    refine me_ild hx hb hK hP 5 0 rfl rfl (st_p K) (rfl) (by omega) (by omega) dX1_perform_28 ?_
    refine lv_istore hx hb dX1_perform_29 hl (by decide) rfl (fun ls hl => ?_)
    have hl : lv_has ls 6 [(4, .int (K 3 (st_p K))), (3, .int (nI (st_y K))), (2, .int (nI (st_x K))), (0, .ref (a 0)), (1, .ref (b 0))] := hl
    refine lv_aload_n hx hb dX1_perform_31 rfl (lv_at hl 3 rfl) ?_
    refine va_get (D := D) (ci := 1) (v := .ref (a 1)) (C := RX1) (T := TX1) (N := 8) hx hb hg inX1 hown hK hP 0 rfl rfl 0 (by decide) (hg _ bw_1_67) (fun _ h9 => h9) rfl dX1_perform_32 ?_
    refine lv_iload_n hx hb dX1_perform_35 rfl (lv_at hl 1 rfl) ?_
    refine me_ild hx hb hK hP 1 0 rfl rfl (st_y K) (rfl) (by omega) (by omega) dX1_perform_36 ?_
    refine lv_iload hx hb dX1_perform_37 (lv_at hl 0 rfl) ?_
    refine lv_iadd hx hb dX1_perform_39 ?_
    refine me_t (x := (K 4 (st_y K)) + (K 3 (st_p K))) (y := K 4 (st_y K) + K 3 (st_p K)) (rfl) ?_
    refine lv_bipush (v := 31) hx hb dX1_perform_40 (by decide) ?_
    refine lv_iand hx hb dX1_perform_42 ?_
    refine me_t (x := (K 4 (st_y K) + K 3 (st_p K)) &&& 31) (y := nI (st_a K)) (ha) ?_
    refine lv_istore hx hb dX1_perform_43 hl (by decide) rfl (fun ls hl => ?_)
    have hl : lv_has ls 6 [(5, .int (nI (st_a K))), (4, .int (K 3 (st_p K))), (3, .int (nI (st_y K))), (2, .int (nI (st_x K))), (0, .ref (a 0)), (1, .ref (b 0))] := hl
    refine lv_aload_n hx hb dX1_perform_45 rfl (lv_at hl 4 rfl) ?_
    refine va_get (D := D) (ci := 1) (v := .ref (a 2)) (C := RX1) (T := TX1) (N := 8) hx hb hg inX1 hown hK hP 0 rfl rfl 1 (by decide) (hg _ bw_1_69) (fun _ h9 => h9) rfl dX1_perform_46 ?_
    refine lv_aload_n hx hb dX1_perform_49 rfl (lv_at hl 4 rfl) ?_
    refine va_get (D := D) (ci := 1) (v := .int (K 5 0)) (C := RX1) (T := TX1) (N := 8) hx hb hg inX1 hown hK hP 0 rfl rfl 6 (by decide) (hg _ bw_1_75) (fun _ h9 => h9) rfl dX1_perform_50 ?_
    refine me_t (x := K 5 0) (y := nI (st_p K)) (hp) ?_
    refine me_ild hx hb hK hP 2 0 rfl rfl (st_p K) (rfl) (by omega) (by omega) dX1_perform_53 ?_
    refine me_t (x := K 0 (st_p K)) (y := nI (8)) (hz) ?_
    refine lv_tableIn (off := 151) (tgt := 205) hx hb dX1_perform_54 (by decide) (by decide) (by decide) (by decide) ?_
    refine lv_aload_n hx hb dX1_perform_205 rfl (lv_at hl 4 rfl) ?_
    refine va_get (D := D) (ci := 1) (v := .ref (a 6)) (C := RX1) (T := TX1) (N := 8) hx hb hg inX1 hown hK hP 0 rfl rfl 5 (by decide) (hg _ bw_1_73) (fun _ h9 => h9) rfl dX1_perform_206 ?_
    refine lv_iconst (v := 1) hx hb dX1_perform_209 (by decide) ?_
    refine lv_iload hx hb dX1_perform_210 (lv_at hl 0 rfl) ?_
    refine lv_iconst (v := 4) hx hb dX1_perform_212 (by decide) ?_
    refine lv_idiv hx hb dX1_perform_213 (by decide) ?_
    refine me_t (x := (nI (st_a K)) / 4) (y := nI (st_a K / 4)) (pk_div (a := st_a K) (d := 4) (by omega) (by omega) (by omega)) ?_
    refine lv_iconst (v := 0) hx hb dX1_perform_214 (by decide) ?_
    refine me_goV (wr := [(a 0, .inr (1, [.ref (a 1), .ref (a 2), .ref (a 3), .ref (a 4), .ref (a 5), .ref (a 6), .int (K 5 0), .int (K 6 0)])), (a 1, .inl (cI, 4, .inl (K 4))), (a 2, .inl (cI, 24, .inl (K 0))), (a 3, .inl (cI, 24, .inl (K 1))), (a 4, .inl (cI, 24, .inl (K 2))), (a 5, .inl (cI, 24, .inl (K 3))), (b 0, .inr (2, [.ref (b 1), .ref (b 2), .ref (b 3)])), (b 1, .inl (cI, 32, .inl (M 0))), (b 2, .inl (cI, 32, .inl (M 1))), (b 3, .inl (cZ, 8, .inl (M 2)))]) (wc := [(a 6, .inr (0, [.ref (a 7), .ref (a 8), .ref (a 9), .int (K 7 0)])), (a 7, .inl (cI, ro, .inl (K 8))), (a 8, .inl (cI, ro, .inl (K 9))), (a 9, .inl (cI, ro, .inl (K 10)))]) (w1 := [(a 6, .inr (0, [.ref (a 7), .ref (a 8), .ref (a 9), .int ((st_ap K 1 (nI (st_a K / 4)) 0) 7 0)])), (a 7, .inl (cI, ro, .inl ((st_ap K 1 (nI (st_a K / 4)) 0) 8))), (a 8, .inl (cI, ro, .inl ((st_ap K 1 (nI (st_a K / 4)) 0) 9))), (a 9, .inl (cI, ro, .inl ((st_ap K 1 (nI (st_a K / 4)) 0) 10)))]) (va_runVN (C := RX0) (b := a 6) (As := [.int (1), .int (nI (st_a K / 4)), .int (0)]) (rest := []) ⟨hx, hb, hml, hown, hg⟩ (c_bu_append l D cI cZ cR a ro K 1 (nI (st_a K / 4)) 0 hh (Nat.lt_of_not_le (fun q => hnw ((st_wq3 (by decide)).mpr q))) hro s.heap.size) ⟨va_cnB 3 hg (bg_gi (fun _ h => h) bw_1_156) rfl rfl rfl (hN.1 _ ne_7) (hg _ bw_1_4) (by decide +kernel) ⟨Nat.le_of_ble_eq_true rfl, Nat.le_of_ble_eq_true rfl⟩, (hg _ bw_1_155), (hg _ bw_s_8)⟩ (me_preV (wc := [(a 6, .inr (0, [.ref (a 7), .ref (a 8), .ref (a 9), .int (K 7 0)])), (a 7, .inl (cI, ro, .inl (K 8))), (a 8, .inl (cI, ro, .inl (K 9))), (a 9, .inl (cI, ro, .inl (K 10)))]) hP hD hK hN [6, 7, 8, 9] rfl (by decide) (va_recv (q0 := 6) (ci := 0) hK hP rfl rfl)) rfl rfl hl.1 rfl (lv_room (Nat.le_of_ble_eq_true rfl)) dX1_perform_215 ⟨Nat.zero_le _, Nat.zero_le _⟩) hP hD hS hA [6, 7, 8, 9] [0, 1, 2, 3, 4, 5, 10, 11, 12, 13] rfl rfl (by decide) (by decide) (fun H locs hP hD hS => ?_)
    have hP : va_P D vwCl [(a 0, .inr (1, [.ref (a 1), .ref (a 2), .ref (a 3), .ref (a 4), .ref (a 5), .ref (a 6), .int (K 5 0), .int (K 6 0)])), (a 1, .inl (cI, 4, .inl (K 4))), (a 2, .inl (cI, 24, .inl (K 0))), (a 3, .inl (cI, 24, .inl (K 1))), (a 4, .inl (cI, 24, .inl (K 2))), (a 5, .inl (cI, 24, .inl (K 3))), (b 0, .inr (2, [.ref (b 1), .ref (b 2), .ref (b 3)])), (b 1, .inl (cI, 32, .inl (M 0))), (b 2, .inl (cI, 32, .inl (M 1))), (b 3, .inl (cZ, 8, .inl (M 2))), (a 6, .inr (0, [.ref (a 7), .ref (a 8), .ref (a 9), .int ((st_ap K 1 (nI (st_a K / 4)) 0) 7 0)])), (a 7, .inl (cI, ro, .inl ((st_ap K 1 (nI (st_a K / 4)) 0) 8))), (a 8, .inl (cI, ro, .inl ((st_ap K 1 (nI (st_a K / 4)) 0) 9))), (a 9, .inl (cI, ro, .inl ((st_ap K 1 (nI (st_a K / 4)) 0) 10)))] H := hP
    have hD : va_D A [(a 0, .inr (1, [.ref (a 1), .ref (a 2), .ref (a 3), .ref (a 4), .ref (a 5), .ref (a 6), .int (K 5 0), .int (K 6 0)])), (a 1, .inl (cI, 4, .inl (K 4))), (a 2, .inl (cI, 24, .inl (K 0))), (a 3, .inl (cI, 24, .inl (K 1))), (a 4, .inl (cI, 24, .inl (K 2))), (a 5, .inl (cI, 24, .inl (K 3))), (b 0, .inr (2, [.ref (b 1), .ref (b 2), .ref (b 3)])), (b 1, .inl (cI, 32, .inl (M 0))), (b 2, .inl (cI, 32, .inl (M 1))), (b 3, .inl (cZ, 8, .inl (M 2))), (a 6, .inr (0, [.ref (a 7), .ref (a 8), .ref (a 9), .int ((st_ap K 1 (nI (st_a K / 4)) 0) 7 0)])), (a 7, .inl (cI, ro, .inl ((st_ap K 1 (nI (st_a K / 4)) 0) 8))), (a 8, .inl (cI, ro, .inl ((st_ap K 1 (nI (st_a K / 4)) 0) 9))), (a 9, .inl (cI, ro, .inl ((st_ap K 1 (nI (st_a K / 4)) 0) 10)))] := hD
    refine lv_goto (tgt := 237) hx hb dX1_perform_218 (by decide) ?_
    rw [st_peK_8 hz, st_peM_8 hz]
    have hP9 := me_subP (ws' := [(a 0, .inr (1, [.ref (a 1), .ref (a 2), .ref (a 3), .ref (a 4), .ref (a 5), .ref (a 6), .int ((st_ap K 1 (nI (st_a K / 4)) 0) 5 0), .int ((st_ap K 1 (nI (st_a K / 4)) 0) 6 0)])), (a 1, .inl (cI, 4, .inl ((st_ap K 1 (nI (st_a K / 4)) 0) 4))), (a 2, .inl (cI, 24, .inl ((st_ap K 1 (nI (st_a K / 4)) 0) 0))), (a 3, .inl (cI, 24, .inl ((st_ap K 1 (nI (st_a K / 4)) 0) 1))), (a 4, .inl (cI, 24, .inl ((st_ap K 1 (nI (st_a K / 4)) 0) 2))), (a 5, .inl (cI, 24, .inl ((st_ap K 1 (nI (st_a K / 4)) 0) 3))), (a 6, .inr (0, [.ref (a 7), .ref (a 8), .ref (a 9), .int ((st_ap K 1 (nI (st_a K / 4)) 0) 7 0)])), (a 7, .inl (cI, ro, .inl ((st_ap K 1 (nI (st_a K / 4)) 0) 8))), (a 8, .inl (cI, ro, .inl ((st_ap K 1 (nI (st_a K / 4)) 0) 9))), (a 9, .inl (cI, ro, .inl ((st_ap K 1 (nI (st_a K / 4)) 0) 10))), (b 0, .inr (2, [.ref (b 1), .ref (b 2), .ref (b 3)])), (b 1, .inl (cI, 32, .inl (M 0))), (b 2, .inl (cI, 32, .inl (M 1))), (b 3, .inl (cZ, 8, .inl (M 2)))]) hP [0, 1, 2, 3, 4, 5, 10, 11, 12, 13, 6, 7, 8, 9] rfl
    have hD9 := hD.sub (ws' := [(a 0, .inr (1, [.ref (a 1), .ref (a 2), .ref (a 3), .ref (a 4), .ref (a 5), .ref (a 6), .int ((st_ap K 1 (nI (st_a K / 4)) 0) 5 0), .int ((st_ap K 1 (nI (st_a K / 4)) 0) 6 0)])), (a 1, .inl (cI, 4, .inl ((st_ap K 1 (nI (st_a K / 4)) 0) 4))), (a 2, .inl (cI, 24, .inl ((st_ap K 1 (nI (st_a K / 4)) 0) 0))), (a 3, .inl (cI, 24, .inl ((st_ap K 1 (nI (st_a K / 4)) 0) 1))), (a 4, .inl (cI, 24, .inl ((st_ap K 1 (nI (st_a K / 4)) 0) 2))), (a 5, .inl (cI, 24, .inl ((st_ap K 1 (nI (st_a K / 4)) 0) 3))), (a 6, .inr (0, [.ref (a 7), .ref (a 8), .ref (a 9), .int ((st_ap K 1 (nI (st_a K / 4)) 0) 7 0)])), (a 7, .inl (cI, ro, .inl ((st_ap K 1 (nI (st_a K / 4)) 0) 8))), (a 8, .inl (cI, ro, .inl ((st_ap K 1 (nI (st_a K / 4)) 0) 9))), (a 9, .inl (cI, ro, .inl ((st_ap K 1 (nI (st_a K / 4)) 0) 10))), (b 0, .inr (2, [.ref (b 1), .ref (b 2), .ref (b 3)])), (b 1, .inl (cI, 32, .inl (M 0))), (b 2, .inl (cI, 32, .inl (M 1))), (b 3, .inl (cZ, 8, .inl (M 2)))]) [0, 1, 2, 3, 4, 5, 10, 11, 12, 13, 6, 7, 8, 9] (by decide) rfl
    exact me_retV hx hb hr hlk hK hS dX1_perform_237 hP9 hD9
  · have hl : lv_has ls 6 [(0, .ref (a 0)), (1, .ref (b 0))] := hl
    refine lv_aload_n hx hb dX1_perform_0 rfl (lv_at hl 0 rfl) ?_
    refine va_get (D := D) (ci := 1) (v := .ref (a 3)) (C := RX1) (T := TX1) (N := 8) hx hb hg inX1 hown hK hP 0 rfl rfl 2 (by decide) (hg _ bw_1_70) (fun _ h9 => h9) rfl dX1_perform_1 ?_
    refine lv_aload_n hx hb dX1_perform_4 rfl (lv_at hl 0 rfl) ?_
    refine va_get (D := D) (ci := 1) (v := .int (K 5 0)) (C := RX1) (T := TX1) (N := 8) hx hb hg inX1 hown hK hP 0 rfl rfl 6 (by decide) (hg _ bw_1_75) (fun _ h9 => h9) rfl dX1_perform_5 ?_
    refine me_t (x := K 5 0) (y := nI (st_p K)) (hp) ?_
    refine me_ild hx hb hK hP 3 0 rfl rfl (st_p K) (rfl) (by omega) (by omega) dX1_perform_8 ?_
    refine me_t (x := K 1 (st_p K)) (y := nI (st_x K)) (hX) ?_
    refine lv_istore_n hx hb dX1_perform_9 rfl hl (by decide) rfl (fun ls hl => ?_)
    have hl : lv_has ls 6 [(2, .int (nI (st_x K))), (0, .ref (a 0)), (1, .ref (b 0))] := hl
    refine lv_aload_n hx hb dX1_perform_10 rfl (lv_at hl 1 rfl) ?_
    refine va_get (D := D) (ci := 1) (v := .ref (a 4)) (C := RX1) (T := TX1) (N := 8) hx hb hg inX1 hown hK hP 0 rfl rfl 3 (by decide) (hg _ bw_1_71) (fun _ h9 => h9) rfl dX1_perform_11 ?_
    refine lv_aload_n hx hb dX1_perform_14 rfl (lv_at hl 1 rfl) ?_
    refine va_get (D := D) (ci := 1) (v := .int (K 5 0)) (C := RX1) (T := TX1) (N := 8) hx hb hg inX1 hown hK hP 0 rfl rfl 6 (by decide) (hg _ bw_1_75) (fun _ h9 => h9) rfl dX1_perform_15 ?_
    refine me_t (x := K 5 0) (y := nI (st_p K)) (hp) ?_
    refine me_ild hx hb hK hP 4 0 rfl rfl (st_p K) (rfl) (by omega) (by omega) dX1_perform_18 ?_
    refine me_t (x := K 2 (st_p K)) (y := nI (st_y K)) (hY) ?_
    refine lv_istore_n hx hb dX1_perform_19 rfl hl (by decide) rfl (fun ls hl => ?_)
    have hl : lv_has ls 6 [(3, .int (nI (st_y K))), (2, .int (nI (st_x K))), (0, .ref (a 0)), (1, .ref (b 0))] := hl
    refine lv_aload_n hx hb dX1_perform_20 rfl (lv_at hl 2 rfl) ?_
    refine va_get (D := D) (ci := 1) (v := .ref (a 5)) (C := RX1) (T := TX1) (N := 8) hx hb hg inX1 hown hK hP 0 rfl rfl 4 (by decide) (hg _ bw_1_72) (fun _ h9 => h9) rfl dX1_perform_21 ?_
    refine lv_aload_n hx hb dX1_perform_24 rfl (lv_at hl 2 rfl) ?_
    refine va_get (D := D) (ci := 1) (v := .int (K 5 0)) (C := RX1) (T := TX1) (N := 8) hx hb hg inX1 hown hK hP 0 rfl rfl 6 (by decide) (hg _ bw_1_75) (fun _ h9 => h9) rfl dX1_perform_25 ?_
    refine me_t (x := K 5 0) (y := nI (st_p K)) (hp) ?_
    refine me_ild hx hb hK hP 5 0 rfl rfl (st_p K) (rfl) (by omega) (by omega) dX1_perform_28 ?_
    refine lv_istore hx hb dX1_perform_29 hl (by decide) rfl (fun ls hl => ?_)
    have hl : lv_has ls 6 [(4, .int (K 3 (st_p K))), (3, .int (nI (st_y K))), (2, .int (nI (st_x K))), (0, .ref (a 0)), (1, .ref (b 0))] := hl
    refine lv_aload_n hx hb dX1_perform_31 rfl (lv_at hl 3 rfl) ?_
    refine va_get (D := D) (ci := 1) (v := .ref (a 1)) (C := RX1) (T := TX1) (N := 8) hx hb hg inX1 hown hK hP 0 rfl rfl 0 (by decide) (hg _ bw_1_67) (fun _ h9 => h9) rfl dX1_perform_32 ?_
    refine lv_iload_n hx hb dX1_perform_35 rfl (lv_at hl 1 rfl) ?_
    refine me_ild hx hb hK hP 1 0 rfl rfl (st_y K) (rfl) (by omega) (by omega) dX1_perform_36 ?_
    refine lv_iload hx hb dX1_perform_37 (lv_at hl 0 rfl) ?_
    refine lv_iadd hx hb dX1_perform_39 ?_
    refine me_t (x := (K 4 (st_y K)) + (K 3 (st_p K))) (y := K 4 (st_y K) + K 3 (st_p K)) (rfl) ?_
    refine lv_bipush (v := 31) hx hb dX1_perform_40 (by decide) ?_
    refine lv_iand hx hb dX1_perform_42 ?_
    refine me_t (x := (K 4 (st_y K) + K 3 (st_p K)) &&& 31) (y := nI (st_a K)) (ha) ?_
    refine lv_istore hx hb dX1_perform_43 hl (by decide) rfl (fun ls hl => ?_)
    have hl : lv_has ls 6 [(5, .int (nI (st_a K))), (4, .int (K 3 (st_p K))), (3, .int (nI (st_y K))), (2, .int (nI (st_x K))), (0, .ref (a 0)), (1, .ref (b 0))] := hl
    refine lv_aload_n hx hb dX1_perform_45 rfl (lv_at hl 4 rfl) ?_
    refine va_get (D := D) (ci := 1) (v := .ref (a 2)) (C := RX1) (T := TX1) (N := 8) hx hb hg inX1 hown hK hP 0 rfl rfl 1 (by decide) (hg _ bw_1_69) (fun _ h9 => h9) rfl dX1_perform_46 ?_
    refine lv_aload_n hx hb dX1_perform_49 rfl (lv_at hl 4 rfl) ?_
    refine va_get (D := D) (ci := 1) (v := .int (K 5 0)) (C := RX1) (T := TX1) (N := 8) hx hb hg inX1 hown hK hP 0 rfl rfl 6 (by decide) (hg _ bw_1_75) (fun _ h9 => h9) rfl dX1_perform_50 ?_
    refine me_t (x := K 5 0) (y := nI (st_p K)) (hp) ?_
    refine me_ild hx hb hK hP 2 0 rfl rfl (st_p K) (rfl) (by omega) (by omega) dX1_perform_53 ?_
    refine me_t (x := K 0 (st_p K)) (y := nI (9)) (hz) ?_
    refine lv_tableIn (off := 167) (tgt := 221) hx hb dX1_perform_54 (by decide) (by decide) (by decide) (by decide) ?_
    refine lv_aload_n hx hb dX1_perform_221 rfl (lv_at hl 4 rfl) ?_
    refine va_get (D := D) (ci := 1) (v := .ref (a 6)) (C := RX1) (T := TX1) (N := 8) hx hb hg inX1 hown hK hP 0 rfl rfl 5 (by decide) (hg _ bw_1_73) (fun _ h9 => h9) rfl dX1_perform_222 ?_
    refine lv_iconst (v := 2) hx hb dX1_perform_225 (by decide) ?_
    refine lv_iload hx hb dX1_perform_226 (lv_at hl 0 rfl) ?_
    refine lv_iconst (v := 4) hx hb dX1_perform_228 (by decide) ?_
    refine lv_idiv hx hb dX1_perform_229 (by decide) ?_
    refine me_t (x := (nI (st_a K)) / 4) (y := nI (st_a K / 4)) (pk_div (a := st_a K) (d := 4) (by omega) (by omega) (by omega)) ?_
    refine lv_iconst (v := 0) hx hb dX1_perform_230 (by decide) ?_
    refine me_goV (wr := [(a 0, .inr (1, [.ref (a 1), .ref (a 2), .ref (a 3), .ref (a 4), .ref (a 5), .ref (a 6), .int (K 5 0), .int (K 6 0)])), (a 1, .inl (cI, 4, .inl (K 4))), (a 2, .inl (cI, 24, .inl (K 0))), (a 3, .inl (cI, 24, .inl (K 1))), (a 4, .inl (cI, 24, .inl (K 2))), (a 5, .inl (cI, 24, .inl (K 3))), (b 0, .inr (2, [.ref (b 1), .ref (b 2), .ref (b 3)])), (b 1, .inl (cI, 32, .inl (M 0))), (b 2, .inl (cI, 32, .inl (M 1))), (b 3, .inl (cZ, 8, .inl (M 2)))]) (wc := [(a 6, .inr (0, [.ref (a 7), .ref (a 8), .ref (a 9), .int (K 7 0)])), (a 7, .inl (cI, ro, .inl (K 8))), (a 8, .inl (cI, ro, .inl (K 9))), (a 9, .inl (cI, ro, .inl (K 10)))]) (w1 := [(a 6, .inr (0, [.ref (a 7), .ref (a 8), .ref (a 9), .int ((st_ap K 2 (nI (st_a K / 4)) 0) 7 0)])), (a 7, .inl (cI, ro, .inl ((st_ap K 2 (nI (st_a K / 4)) 0) 8))), (a 8, .inl (cI, ro, .inl ((st_ap K 2 (nI (st_a K / 4)) 0) 9))), (a 9, .inl (cI, ro, .inl ((st_ap K 2 (nI (st_a K / 4)) 0) 10)))]) (va_runVN (C := RX0) (b := a 6) (As := [.int (2), .int (nI (st_a K / 4)), .int (0)]) (rest := []) ⟨hx, hb, hml, hown, hg⟩ (c_bu_append l D cI cZ cR a ro K 2 (nI (st_a K / 4)) 0 hh (Nat.lt_of_not_le (fun q => hnw ((st_wq3 (by decide)).mpr q))) hro s.heap.size) ⟨va_cnB 3 hg (bg_gi (fun _ h => h) bw_1_156) rfl rfl rfl (hN.1 _ ne_7) (hg _ bw_1_4) (by decide +kernel) ⟨Nat.le_of_ble_eq_true rfl, Nat.le_of_ble_eq_true rfl⟩, (hg _ bw_1_155), (hg _ bw_s_8)⟩ (me_preV (wc := [(a 6, .inr (0, [.ref (a 7), .ref (a 8), .ref (a 9), .int (K 7 0)])), (a 7, .inl (cI, ro, .inl (K 8))), (a 8, .inl (cI, ro, .inl (K 9))), (a 9, .inl (cI, ro, .inl (K 10)))]) hP hD hK hN [6, 7, 8, 9] rfl (by decide) (va_recv (q0 := 6) (ci := 0) hK hP rfl rfl)) rfl rfl hl.1 rfl (lv_room (Nat.le_of_ble_eq_true rfl)) dX1_perform_231 ⟨Nat.zero_le _, Nat.zero_le _⟩) hP hD hS hA [6, 7, 8, 9] [0, 1, 2, 3, 4, 5, 10, 11, 12, 13] rfl rfl (by decide) (by decide) (fun H locs hP hD hS => ?_)
    have hP : va_P D vwCl [(a 0, .inr (1, [.ref (a 1), .ref (a 2), .ref (a 3), .ref (a 4), .ref (a 5), .ref (a 6), .int (K 5 0), .int (K 6 0)])), (a 1, .inl (cI, 4, .inl (K 4))), (a 2, .inl (cI, 24, .inl (K 0))), (a 3, .inl (cI, 24, .inl (K 1))), (a 4, .inl (cI, 24, .inl (K 2))), (a 5, .inl (cI, 24, .inl (K 3))), (b 0, .inr (2, [.ref (b 1), .ref (b 2), .ref (b 3)])), (b 1, .inl (cI, 32, .inl (M 0))), (b 2, .inl (cI, 32, .inl (M 1))), (b 3, .inl (cZ, 8, .inl (M 2))), (a 6, .inr (0, [.ref (a 7), .ref (a 8), .ref (a 9), .int ((st_ap K 2 (nI (st_a K / 4)) 0) 7 0)])), (a 7, .inl (cI, ro, .inl ((st_ap K 2 (nI (st_a K / 4)) 0) 8))), (a 8, .inl (cI, ro, .inl ((st_ap K 2 (nI (st_a K / 4)) 0) 9))), (a 9, .inl (cI, ro, .inl ((st_ap K 2 (nI (st_a K / 4)) 0) 10)))] H := hP
    have hD : va_D A [(a 0, .inr (1, [.ref (a 1), .ref (a 2), .ref (a 3), .ref (a 4), .ref (a 5), .ref (a 6), .int (K 5 0), .int (K 6 0)])), (a 1, .inl (cI, 4, .inl (K 4))), (a 2, .inl (cI, 24, .inl (K 0))), (a 3, .inl (cI, 24, .inl (K 1))), (a 4, .inl (cI, 24, .inl (K 2))), (a 5, .inl (cI, 24, .inl (K 3))), (b 0, .inr (2, [.ref (b 1), .ref (b 2), .ref (b 3)])), (b 1, .inl (cI, 32, .inl (M 0))), (b 2, .inl (cI, 32, .inl (M 1))), (b 3, .inl (cZ, 8, .inl (M 2))), (a 6, .inr (0, [.ref (a 7), .ref (a 8), .ref (a 9), .int ((st_ap K 2 (nI (st_a K / 4)) 0) 7 0)])), (a 7, .inl (cI, ro, .inl ((st_ap K 2 (nI (st_a K / 4)) 0) 8))), (a 8, .inl (cI, ro, .inl ((st_ap K 2 (nI (st_a K / 4)) 0) 9))), (a 9, .inl (cI, ro, .inl ((st_ap K 2 (nI (st_a K / 4)) 0) 10)))] := hD
    refine lv_goto (tgt := 237) hx hb dX1_perform_234 (by decide) ?_
    rw [st_peK_9 hz, st_peM_9 hz]
    have hP9 := me_subP (ws' := [(a 0, .inr (1, [.ref (a 1), .ref (a 2), .ref (a 3), .ref (a 4), .ref (a 5), .ref (a 6), .int ((st_ap K 2 (nI (st_a K / 4)) 0) 5 0), .int ((st_ap K 2 (nI (st_a K / 4)) 0) 6 0)])), (a 1, .inl (cI, 4, .inl ((st_ap K 2 (nI (st_a K / 4)) 0) 4))), (a 2, .inl (cI, 24, .inl ((st_ap K 2 (nI (st_a K / 4)) 0) 0))), (a 3, .inl (cI, 24, .inl ((st_ap K 2 (nI (st_a K / 4)) 0) 1))), (a 4, .inl (cI, 24, .inl ((st_ap K 2 (nI (st_a K / 4)) 0) 2))), (a 5, .inl (cI, 24, .inl ((st_ap K 2 (nI (st_a K / 4)) 0) 3))), (a 6, .inr (0, [.ref (a 7), .ref (a 8), .ref (a 9), .int ((st_ap K 2 (nI (st_a K / 4)) 0) 7 0)])), (a 7, .inl (cI, ro, .inl ((st_ap K 2 (nI (st_a K / 4)) 0) 8))), (a 8, .inl (cI, ro, .inl ((st_ap K 2 (nI (st_a K / 4)) 0) 9))), (a 9, .inl (cI, ro, .inl ((st_ap K 2 (nI (st_a K / 4)) 0) 10))), (b 0, .inr (2, [.ref (b 1), .ref (b 2), .ref (b 3)])), (b 1, .inl (cI, 32, .inl (M 0))), (b 2, .inl (cI, 32, .inl (M 1))), (b 3, .inl (cZ, 8, .inl (M 2)))]) hP [0, 1, 2, 3, 4, 5, 10, 11, 12, 13, 6, 7, 8, 9] rfl
    have hD9 := hD.sub (ws' := [(a 0, .inr (1, [.ref (a 1), .ref (a 2), .ref (a 3), .ref (a 4), .ref (a 5), .ref (a 6), .int ((st_ap K 2 (nI (st_a K / 4)) 0) 5 0), .int ((st_ap K 2 (nI (st_a K / 4)) 0) 6 0)])), (a 1, .inl (cI, 4, .inl ((st_ap K 2 (nI (st_a K / 4)) 0) 4))), (a 2, .inl (cI, 24, .inl ((st_ap K 2 (nI (st_a K / 4)) 0) 0))), (a 3, .inl (cI, 24, .inl ((st_ap K 2 (nI (st_a K / 4)) 0) 1))), (a 4, .inl (cI, 24, .inl ((st_ap K 2 (nI (st_a K / 4)) 0) 2))), (a 5, .inl (cI, 24, .inl ((st_ap K 2 (nI (st_a K / 4)) 0) 3))), (a 6, .inr (0, [.ref (a 7), .ref (a 8), .ref (a 9), .int ((st_ap K 2 (nI (st_a K / 4)) 0) 7 0)])), (a 7, .inl (cI, ro, .inl ((st_ap K 2 (nI (st_a K / 4)) 0) 8))), (a 8, .inl (cI, ro, .inl ((st_ap K 2 (nI (st_a K / 4)) 0) 9))), (a 9, .inl (cI, ro, .inl ((st_ap K 2 (nI (st_a K / 4)) 0) 10))), (b 0, .inr (2, [.ref (b 1), .ref (b 2), .ref (b 3)])), (b 1, .inl (cI, 32, .inl (M 0))), (b 2, .inl (cI, 32, .inl (M 1))), (b 3, .inl (cZ, 8, .inl (M 2)))]) [0, 1, 2, 3, 4, 5, 10, 11, 12, 13, 6, 7, 8, 9] (by decide) rfl
    exact me_retV hx hb hr hlk hK hS dX1_perform_237 hP9 hD9
  · have hl : lv_has ls 6 [(0, .ref (a 0)), (1, .ref (b 0))] := hl
    refine lv_aload_n hx hb dX1_perform_0 rfl (lv_at hl 0 rfl) ?_
    refine va_get (D := D) (ci := 1) (v := .ref (a 3)) (C := RX1) (T := TX1) (N := 8) hx hb hg inX1 hown hK hP 0 rfl rfl 2 (by decide) (hg _ bw_1_70) (fun _ h9 => h9) rfl dX1_perform_1 ?_
    refine lv_aload_n hx hb dX1_perform_4 rfl (lv_at hl 0 rfl) ?_
    refine va_get (D := D) (ci := 1) (v := .int (K 5 0)) (C := RX1) (T := TX1) (N := 8) hx hb hg inX1 hown hK hP 0 rfl rfl 6 (by decide) (hg _ bw_1_75) (fun _ h9 => h9) rfl dX1_perform_5 ?_
    refine me_t (x := K 5 0) (y := nI (st_p K)) (hp) ?_
    refine me_ild hx hb hK hP 3 0 rfl rfl (st_p K) (rfl) (by omega) (by omega) dX1_perform_8 ?_
    refine me_t (x := K 1 (st_p K)) (y := nI (st_x K)) (hX) ?_
    refine lv_istore_n hx hb dX1_perform_9 rfl hl (by decide) rfl (fun ls hl => ?_)
    have hl : lv_has ls 6 [(2, .int (nI (st_x K))), (0, .ref (a 0)), (1, .ref (b 0))] := hl
    refine lv_aload_n hx hb dX1_perform_10 rfl (lv_at hl 1 rfl) ?_
    refine va_get (D := D) (ci := 1) (v := .ref (a 4)) (C := RX1) (T := TX1) (N := 8) hx hb hg inX1 hown hK hP 0 rfl rfl 3 (by decide) (hg _ bw_1_71) (fun _ h9 => h9) rfl dX1_perform_11 ?_
    refine lv_aload_n hx hb dX1_perform_14 rfl (lv_at hl 1 rfl) ?_
    refine va_get (D := D) (ci := 1) (v := .int (K 5 0)) (C := RX1) (T := TX1) (N := 8) hx hb hg inX1 hown hK hP 0 rfl rfl 6 (by decide) (hg _ bw_1_75) (fun _ h9 => h9) rfl dX1_perform_15 ?_
    refine me_t (x := K 5 0) (y := nI (st_p K)) (hp) ?_
    refine me_ild hx hb hK hP 4 0 rfl rfl (st_p K) (rfl) (by omega) (by omega) dX1_perform_18 ?_
    refine me_t (x := K 2 (st_p K)) (y := nI (st_y K)) (hY) ?_
    refine lv_istore_n hx hb dX1_perform_19 rfl hl (by decide) rfl (fun ls hl => ?_)
    have hl : lv_has ls 6 [(3, .int (nI (st_y K))), (2, .int (nI (st_x K))), (0, .ref (a 0)), (1, .ref (b 0))] := hl
    refine lv_aload_n hx hb dX1_perform_20 rfl (lv_at hl 2 rfl) ?_
    refine va_get (D := D) (ci := 1) (v := .ref (a 5)) (C := RX1) (T := TX1) (N := 8) hx hb hg inX1 hown hK hP 0 rfl rfl 4 (by decide) (hg _ bw_1_72) (fun _ h9 => h9) rfl dX1_perform_21 ?_
    refine lv_aload_n hx hb dX1_perform_24 rfl (lv_at hl 2 rfl) ?_
    refine va_get (D := D) (ci := 1) (v := .int (K 5 0)) (C := RX1) (T := TX1) (N := 8) hx hb hg inX1 hown hK hP 0 rfl rfl 6 (by decide) (hg _ bw_1_75) (fun _ h9 => h9) rfl dX1_perform_25 ?_
    refine me_t (x := K 5 0) (y := nI (st_p K)) (hp) ?_
    refine me_ild hx hb hK hP 5 0 rfl rfl (st_p K) (rfl) (by omega) (by omega) dX1_perform_28 ?_
    refine lv_istore hx hb dX1_perform_29 hl (by decide) rfl (fun ls hl => ?_)
    have hl : lv_has ls 6 [(4, .int (K 3 (st_p K))), (3, .int (nI (st_y K))), (2, .int (nI (st_x K))), (0, .ref (a 0)), (1, .ref (b 0))] := hl
    refine lv_aload_n hx hb dX1_perform_31 rfl (lv_at hl 3 rfl) ?_
    refine va_get (D := D) (ci := 1) (v := .ref (a 1)) (C := RX1) (T := TX1) (N := 8) hx hb hg inX1 hown hK hP 0 rfl rfl 0 (by decide) (hg _ bw_1_67) (fun _ h9 => h9) rfl dX1_perform_32 ?_
    refine lv_iload_n hx hb dX1_perform_35 rfl (lv_at hl 1 rfl) ?_
    refine me_ild hx hb hK hP 1 0 rfl rfl (st_y K) (rfl) (by omega) (by omega) dX1_perform_36 ?_
    refine lv_iload hx hb dX1_perform_37 (lv_at hl 0 rfl) ?_
    refine lv_iadd hx hb dX1_perform_39 ?_
    refine me_t (x := (K 4 (st_y K)) + (K 3 (st_p K))) (y := K 4 (st_y K) + K 3 (st_p K)) (rfl) ?_
    refine lv_bipush (v := 31) hx hb dX1_perform_40 (by decide) ?_
    refine lv_iand hx hb dX1_perform_42 ?_
    refine me_t (x := (K 4 (st_y K) + K 3 (st_p K)) &&& 31) (y := nI (st_a K)) (ha) ?_
    refine lv_istore hx hb dX1_perform_43 hl (by decide) rfl (fun ls hl => ?_)
    have hl : lv_has ls 6 [(5, .int (nI (st_a K))), (4, .int (K 3 (st_p K))), (3, .int (nI (st_y K))), (2, .int (nI (st_x K))), (0, .ref (a 0)), (1, .ref (b 0))] := hl
    refine lv_aload_n hx hb dX1_perform_45 rfl (lv_at hl 4 rfl) ?_
    refine va_get (D := D) (ci := 1) (v := .ref (a 2)) (C := RX1) (T := TX1) (N := 8) hx hb hg inX1 hown hK hP 0 rfl rfl 1 (by decide) (hg _ bw_1_69) (fun _ h9 => h9) rfl dX1_perform_46 ?_
    refine lv_aload_n hx hb dX1_perform_49 rfl (lv_at hl 4 rfl) ?_
    refine va_get (D := D) (ci := 1) (v := .int (K 5 0)) (C := RX1) (T := TX1) (N := 8) hx hb hg inX1 hown hK hP 0 rfl rfl 6 (by decide) (hg _ bw_1_75) (fun _ h9 => h9) rfl dX1_perform_50 ?_
    refine me_t (x := K 5 0) (y := nI (st_p K)) (hp) ?_
    refine me_ild hx hb hK hP 2 0 rfl rfl (st_p K) (rfl) (by omega) (by omega) dX1_perform_53 ?_
    refine me_t (x := K 0 (st_p K)) (y := nI (10)) (hz) ?_
    refine lv_tableOut (tgt := 237) hx hb dX1_perform_54 (by decide) (by decide) ?_
    rw [st_peK_10 hz, st_peM_10 hz]
    have hP9 := me_subP (ws' := [(a 0, .inr (1, [.ref (a 1), .ref (a 2), .ref (a 3), .ref (a 4), .ref (a 5), .ref (a 6), .int (K 5 0), .int (K 6 0)])), (a 1, .inl (cI, 4, .inl (K 4))), (a 2, .inl (cI, 24, .inl (K 0))), (a 3, .inl (cI, 24, .inl (K 1))), (a 4, .inl (cI, 24, .inl (K 2))), (a 5, .inl (cI, 24, .inl (K 3))), (a 6, .inr (0, [.ref (a 7), .ref (a 8), .ref (a 9), .int (K 7 0)])), (a 7, .inl (cI, ro, .inl (K 8))), (a 8, .inl (cI, ro, .inl (K 9))), (a 9, .inl (cI, ro, .inl (K 10))), (b 0, .inr (2, [.ref (b 1), .ref (b 2), .ref (b 3)])), (b 1, .inl (cI, 32, .inl (M 0))), (b 2, .inl (cI, 32, .inl (M 1))), (b 3, .inl (cZ, 8, .inl (M 2)))]) hP [0, 1, 2, 3, 4, 5, 6, 7, 8, 9, 10, 11, 12, 13] rfl
    have hD9 := hD.sub (ws' := [(a 0, .inr (1, [.ref (a 1), .ref (a 2), .ref (a 3), .ref (a 4), .ref (a 5), .ref (a 6), .int (K 5 0), .int (K 6 0)])), (a 1, .inl (cI, 4, .inl (K 4))), (a 2, .inl (cI, 24, .inl (K 0))), (a 3, .inl (cI, 24, .inl (K 1))), (a 4, .inl (cI, 24, .inl (K 2))), (a 5, .inl (cI, 24, .inl (K 3))), (a 6, .inr (0, [.ref (a 7), .ref (a 8), .ref (a 9), .int (K 7 0)])), (a 7, .inl (cI, ro, .inl (K 8))), (a 8, .inl (cI, ro, .inl (K 9))), (a 9, .inl (cI, ro, .inl (K 10))), (b 0, .inr (2, [.ref (b 1), .ref (b 2), .ref (b 3)])), (b 1, .inl (cI, 32, .inl (M 0))), (b 2, .inl (cI, 32, .inl (M 1))), (b 3, .inl (cZ, 8, .inl (M 2)))]) [0, 1, 2, 3, 4, 5, 6, 7, 8, 9, 10, 11, 12, 13] (by decide) rfl
    exact me_retV hx hb hr hlk hK hS dX1_perform_237 hP9 hD9
set_option maxHeartbeats 4000000 in
set_option maxRecDepth 100000 in
theorem c_co_doI (l : Launch) (D : va_G) (cI cZ cR : ClassId) (a b : Nat → Nat) (ro : Nat) (K M : st_T) (hh : K 7 0 = nI (st_h K)) (hb1 : st_h K ≤ ro) (hro : ro ≤ 8) (hp : K 5 0 = nI (st_p K)) (hp24 : st_p K ≤ 24) (hC : st_p K < 24 → ∃ z, z ≤ 10 ∧ K 0 (st_p K) = nI z ∧ K 1 (st_p K) = nI (st_x K) ∧ st_x K < 4 ∧ K 2 (st_p K) = nI (st_y K) ∧ st_y K < 4) : me_I l yX1_doInstruction wsX1_doInstruction ({ frames := 3, cells := 0, slots := 0, locals := 70 } : Room) D (me_TYS cI cZ cR) ([.ref (a 0), .ref (b 0)] : List Value) (w_co a cI K ++ w_bu a cI ro K ++ w_sh b cI cZ M) (st_doA ro K) (w_co a cI (st_doK ro K M) ++ w_bu a cI ro (st_doK ro K M) ++ w_sh b cI cZ (st_doM ro K M)) := by
  intro sz
  refine me_ent (cc := cX1_doInstruction) (maxL := 3) (ret := (some .int)) (Qf := me_QI D (me_TYS cI cZ cR) (st_doA ro K) (w_co a cI (st_doK ro K M) ++ w_bu a cI ro (st_doK ro K M) ++ w_sh b cI cZ (st_doM ro K M))) (by decide) rfl (Nat.le_of_ble_eq_true rfl) ?_
  intro p e s m below meth c A ls hx hb hr hml hts hown hlk hin hP hK hD hN hA hS hl
  have hown : s.vm.findClass RX1 = some m.cls := hown
  have hg : ∀ w9 ∈ bg, w9.before ([.ref (a 0), .ref (b 0)] : List Value).toArray s = true := fun w9 h9 => hts w9 (List.mem_cons_of_mem _ h9)
  have hl : lv_has ls 3 [(0, .ref (a 0)), (1, .ref (b 0))] := hl
  have hP : va_P D vwCl [(a 0, .inr (1, [.ref (a 1), .ref (a 2), .ref (a 3), .ref (a 4), .ref (a 5), .ref (a 6), .int (K 5 0), .int (K 6 0)])), (a 1, .inl (cI, 4, .inl (K 4))), (a 2, .inl (cI, 24, .inl (K 0))), (a 3, .inl (cI, 24, .inl (K 1))), (a 4, .inl (cI, 24, .inl (K 2))), (a 5, .inl (cI, 24, .inl (K 3))), (a 6, .inr (0, [.ref (a 7), .ref (a 8), .ref (a 9), .int (K 7 0)])), (a 7, .inl (cI, ro, .inl (K 8))), (a 8, .inl (cI, ro, .inl (K 9))), (a 9, .inl (cI, ro, .inl (K 10))), (b 0, .inr (2, [.ref (b 1), .ref (b 2), .ref (b 3)])), (b 1, .inl (cI, 32, .inl (M 0))), (b 2, .inl (cI, 32, .inl (M 1))), (b 3, .inl (cZ, 8, .inl (M 2)))] s.heap := hP
  have hD : va_D A [(a 0, .inr (1, [.ref (a 1), .ref (a 2), .ref (a 3), .ref (a 4), .ref (a 5), .ref (a 6), .int (K 5 0), .int (K 6 0)])), (a 1, .inl (cI, 4, .inl (K 4))), (a 2, .inl (cI, 24, .inl (K 0))), (a 3, .inl (cI, 24, .inl (K 1))), (a 4, .inl (cI, 24, .inl (K 2))), (a 5, .inl (cI, 24, .inl (K 3))), (a 6, .inr (0, [.ref (a 7), .ref (a 8), .ref (a 9), .int (K 7 0)])), (a 7, .inl (cI, ro, .inl (K 8))), (a 8, .inl (cI, ro, .inl (K 9))), (a 9, .inl (cI, ro, .inl (K 10))), (b 0, .inr (2, [.ref (b 1), .ref (b 2), .ref (b 3)])), (b 1, .inl (cI, 32, .inl (M 0))), (b 2, .inl (cI, 32, .inl (M 1))), (b 3, .inl (cZ, 8, .inl (M 2)))] := hD
  refine lv_aload_n hx hb dX1_doInstruction_0 rfl (lv_at hl 0 rfl) ?_
  refine va_get (D := D) (ci := 1) (v := .int (K 5 0)) (C := RX1) (T := TX1) (N := 8) hx hb hg inX1 hown hK hP 0 rfl rfl 6 (by decide) (hg _ bw_1_75) (fun _ h9 => h9) rfl dX1_doInstruction_1 ?_
  refine me_t (x := K 5 0) (y := nI (st_p K)) (hp) ?_
  refine lv_bipush (v := 24) hx hb dX1_doInstruction_4 (by decide) ?_
  refine lv_icmp_ge (tgt := 21) hx hb dX1_doInstruction_6 (by decide) (fun b6 => ?_) (fun b6 => ?_)
  · have b6 := me_le (a := 24) (b := st_p K) (by omega) (by omega) b6
    refine lv_iconst (v := 2) hx hb dX1_doInstruction_21 (by decide) ?_
    have hH : st_ha K := Or.inl b6
    rw [show st_doK ro K M = K from me_swt (Or.inl hH), show st_doM ro K M = M from me_swt (Or.inl hH)]
    have hP9 := me_subP (ws' := [(a 0, .inr (1, [.ref (a 1), .ref (a 2), .ref (a 3), .ref (a 4), .ref (a 5), .ref (a 6), .int (K 5 0), .int (K 6 0)])), (a 1, .inl (cI, 4, .inl (K 4))), (a 2, .inl (cI, 24, .inl (K 0))), (a 3, .inl (cI, 24, .inl (K 1))), (a 4, .inl (cI, 24, .inl (K 2))), (a 5, .inl (cI, 24, .inl (K 3))), (a 6, .inr (0, [.ref (a 7), .ref (a 8), .ref (a 9), .int (K 7 0)])), (a 7, .inl (cI, ro, .inl (K 8))), (a 8, .inl (cI, ro, .inl (K 9))), (a 9, .inl (cI, ro, .inl (K 10))), (b 0, .inr (2, [.ref (b 1), .ref (b 2), .ref (b 3)])), (b 1, .inl (cI, 32, .inl (M 0))), (b 2, .inl (cI, 32, .inl (M 1))), (b 3, .inl (cZ, 8, .inl (M 2)))]) hP [0, 1, 2, 3, 4, 5, 6, 7, 8, 9, 10, 11, 12, 13] rfl
    have hD9 := hD.sub (ws' := [(a 0, .inr (1, [.ref (a 1), .ref (a 2), .ref (a 3), .ref (a 4), .ref (a 5), .ref (a 6), .int (K 5 0), .int (K 6 0)])), (a 1, .inl (cI, 4, .inl (K 4))), (a 2, .inl (cI, 24, .inl (K 0))), (a 3, .inl (cI, 24, .inl (K 1))), (a 4, .inl (cI, 24, .inl (K 2))), (a 5, .inl (cI, 24, .inl (K 3))), (a 6, .inr (0, [.ref (a 7), .ref (a 8), .ref (a 9), .int (K 7 0)])), (a 7, .inl (cI, ro, .inl (K 8))), (a 8, .inl (cI, ro, .inl (K 9))), (a 9, .inl (cI, ro, .inl (K 10))), (b 0, .inr (2, [.ref (b 1), .ref (b 2), .ref (b 3)])), (b 1, .inl (cI, 32, .inl (M 0))), (b 2, .inl (cI, 32, .inl (M 1))), (b 3, .inl (cZ, 8, .inl (M 2)))]) [0, 1, 2, 3, 4, 5, 6, 7, 8, 9, 10, 11, 12, 13] (by decide) rfl
    exact me_retI hx hb hr hlk hK hS dX1_doInstruction_22 ((me_swt hH).symm) hP9 hD9
  · have b6 := me_nle (a := 24) (b := st_p K) (by omega) (by omega) b6
    obtain ⟨z, hz1, hz, hX, hX1, hY, hY1⟩ := hC b6
    refine lv_aload_n hx hb dX1_doInstruction_9 rfl (lv_at hl 0 rfl) ?_
    refine va_get (D := D) (ci := 1) (v := .ref (a 2)) (C := RX1) (T := TX1) (N := 8) hx hb hg inX1 hown hK hP 0 rfl rfl 1 (by decide) (hg _ bw_1_69) (fun _ h9 => h9) rfl dX1_doInstruction_10 ?_
    refine lv_aload_n hx hb dX1_doInstruction_13 rfl (lv_at hl 0 rfl) ?_
    refine va_get (D := D) (ci := 1) (v := .int (K 5 0)) (C := RX1) (T := TX1) (N := 8) hx hb hg inX1 hown hK hP 0 rfl rfl 6 (by decide) (hg _ bw_1_75) (fun _ h9 => h9) rfl dX1_doInstruction_14 ?_
    refine me_t (x := K 5 0) (y := nI (st_p K)) (hp) ?_
    refine me_ild hx hb hK hP 2 0 rfl rfl (st_p K) (rfl) (by omega) (by omega) dX1_doInstruction_17 ?_
    refine me_t (x := K 0 (st_p K)) (y := nI (z)) (hz) ?_
    refine lv_if_ne (tgt := 23) hx hb dX1_doInstruction_18 (by decide) (fun b18 => ?_) (fun b18 => ?_)
    · have b18 := me_ne (a := z) (b := 0) (by omega) (by omega) b18
      refine lv_aload_n hx hb dX1_doInstruction_23 rfl (lv_at hl 0 rfl) ?_
      refine lv_aload_n hx hb dX1_doInstruction_24 rfl (lv_at hl 0 rfl) ?_
      refine va_get (D := D) (ci := 1) (v := .ref (a 2)) (C := RX1) (T := TX1) (N := 8) hx hb hg inX1 hown hK hP 0 rfl rfl 1 (by decide) (hg _ bw_1_69) (fun _ h9 => h9) rfl dX1_doInstruction_25 ?_
      refine lv_aload_n hx hb dX1_doInstruction_28 rfl (lv_at hl 0 rfl) ?_
      refine va_get (D := D) (ci := 1) (v := .int (K 5 0)) (C := RX1) (T := TX1) (N := 8) hx hb hg inX1 hown hK hP 0 rfl rfl 6 (by decide) (hg _ bw_1_75) (fun _ h9 => h9) rfl dX1_doInstruction_29 ?_
      refine me_t (x := K 5 0) (y := nI (st_p K)) (hp) ?_
      refine me_ild hx hb hK hP 2 0 rfl rfl (st_p K) (rfl) (by omega) (by omega) dX1_doInstruction_32 ?_
      refine me_t (x := K 0 (st_p K)) (y := nI (z)) (hz) ?_
      refine me_goI (wr := [(b 0, .inr (2, [.ref (b 1), .ref (b 2), .ref (b 3)])), (b 1, .inl (cI, 32, .inl (M 0))), (b 2, .inl (cI, 32, .inl (M 1))), (b 3, .inl (cZ, 8, .inl (M 2)))]) (wc := [(a 0, .inr (1, [.ref (a 1), .ref (a 2), .ref (a 3), .ref (a 4), .ref (a 5), .ref (a 6), .int (K 5 0), .int (K 6 0)])), (a 1, .inl (cI, 4, .inl (K 4))), (a 2, .inl (cI, 24, .inl (K 0))), (a 3, .inl (cI, 24, .inl (K 1))), (a 4, .inl (cI, 24, .inl (K 2))), (a 5, .inl (cI, 24, .inl (K 3))), (a 6, .inr (0, [.ref (a 7), .ref (a 8), .ref (a 9), .int (K 7 0)])), (a 7, .inl (cI, ro, .inl (K 8))), (a 8, .inl (cI, ro, .inl (K 9))), (a 9, .inl (cI, ro, .inl (K 10)))]) (w1 := [(a 0, .inr (1, [.ref (a 1), .ref (a 2), .ref (a 3), .ref (a 4), .ref (a 5), .ref (a 6), .int (K 5 0), .int (K 6 0)])), (a 1, .inl (cI, 4, .inl (K 4))), (a 2, .inl (cI, 24, .inl (K 0))), (a 3, .inl (cI, 24, .inl (K 1))), (a 4, .inl (cI, 24, .inl (K 2))), (a 5, .inl (cI, 24, .inl (K 3))), (a 6, .inr (0, [.ref (a 7), .ref (a 8), .ref (a 9), .int (K 7 0)])), (a 7, .inl (cI, ro, .inl (K 8))), (a 8, .inl (cI, ro, .inl (K 9))), (a 9, .inl (cI, ro, .inl (K 10)))]) (va_runV (C := RX1) (b := a 0) (As := [.int (nI (z))]) (rest := []) ⟨hx, hb, hml, hown, hg⟩ (c_co_mustWait l D cI cZ cR a ro K z hh hb1 hro hz1 s.heap.size) (cwV 1 hg (bg_gV (fun _ h => h) bw_1_133 bw_1_135 bw_s_3 bw_1_3 bw_1_136) rfl rfl rfl (by decide +kernel) ⟨Nat.le_of_ble_eq_true rfl, Nat.le_of_ble_eq_true rfl⟩) (me_preV (wc := [(a 0, .inr (1, [.ref (a 1), .ref (a 2), .ref (a 3), .ref (a 4), .ref (a 5), .ref (a 6), .int (K 5 0), .int (K 6 0)])), (a 1, .inl (cI, 4, .inl (K 4))), (a 2, .inl (cI, 24, .inl (K 0))), (a 3, .inl (cI, 24, .inl (K 1))), (a 4, .inl (cI, 24, .inl (K 2))), (a 5, .inl (cI, 24, .inl (K 3))), (a 6, .inr (0, [.ref (a 7), .ref (a 8), .ref (a 9), .int (K 7 0)])), (a 7, .inl (cI, ro, .inl (K 8))), (a 8, .inl (cI, ro, .inl (K 9))), (a 9, .inl (cI, ro, .inl (K 10)))]) hP hD hK hN [0, 1, 2, 3, 4, 5, 6, 7, 8, 9] rfl (by decide) (va_recv (q0 := 0) (ci := 1) hK hP rfl rfl)) rfl rfl hl.1 rfl (lv_room (Nat.le_of_ble_eq_true rfl)) dX1_doInstruction_33 ⟨Nat.zero_le _, Nat.zero_le _⟩) hP hD hS hA [0, 1, 2, 3, 4, 5, 6, 7, 8, 9] [10, 11, 12, 13] rfl rfl (by decide) (by decide) (fun H locs hP hD hS => ?_)
      have hP : va_P D vwCl [(b 0, .inr (2, [.ref (b 1), .ref (b 2), .ref (b 3)])), (b 1, .inl (cI, 32, .inl (M 0))), (b 2, .inl (cI, 32, .inl (M 1))), (b 3, .inl (cZ, 8, .inl (M 2))), (a 0, .inr (1, [.ref (a 1), .ref (a 2), .ref (a 3), .ref (a 4), .ref (a 5), .ref (a 6), .int (K 5 0), .int (K 6 0)])), (a 1, .inl (cI, 4, .inl (K 4))), (a 2, .inl (cI, 24, .inl (K 0))), (a 3, .inl (cI, 24, .inl (K 1))), (a 4, .inl (cI, 24, .inl (K 2))), (a 5, .inl (cI, 24, .inl (K 3))), (a 6, .inr (0, [.ref (a 7), .ref (a 8), .ref (a 9), .int (K 7 0)])), (a 7, .inl (cI, ro, .inl (K 8))), (a 8, .inl (cI, ro, .inl (K 9))), (a 9, .inl (cI, ro, .inl (K 10)))] H := hP
      have hD : va_D A [(b 0, .inr (2, [.ref (b 1), .ref (b 2), .ref (b 3)])), (b 1, .inl (cI, 32, .inl (M 0))), (b 2, .inl (cI, 32, .inl (M 1))), (b 3, .inl (cZ, 8, .inl (M 2))), (a 0, .inr (1, [.ref (a 1), .ref (a 2), .ref (a 3), .ref (a 4), .ref (a 5), .ref (a 6), .int (K 5 0), .int (K 6 0)])), (a 1, .inl (cI, 4, .inl (K 4))), (a 2, .inl (cI, 24, .inl (K 0))), (a 3, .inl (cI, 24, .inl (K 1))), (a 4, .inl (cI, 24, .inl (K 2))), (a 5, .inl (cI, 24, .inl (K 3))), (a 6, .inr (0, [.ref (a 7), .ref (a 8), .ref (a 9), .int (K 7 0)])), (a 7, .inl (cI, ro, .inl (K 8))), (a 8, .inl (cI, ro, .inl (K 9))), (a 9, .inl (cI, ro, .inl (K 10)))] := hD
      refine lv_if_eq (tgt := 41) hx hb dX1_doInstruction_36 (by decide) (fun b36 => ?_) (fun b36 => ?_)
      · have b36 := me_b0 b36
        refine lv_aload_n hx hb dX1_doInstruction_41 rfl (lv_at hl 0 rfl) ?_
        refine me_goI (wr := [(b 0, .inr (2, [.ref (b 1), .ref (b 2), .ref (b 3)])), (b 1, .inl (cI, 32, .inl (M 0))), (b 2, .inl (cI, 32, .inl (M 1))), (b 3, .inl (cZ, 8, .inl (M 2))), (a 6, .inr (0, [.ref (a 7), .ref (a 8), .ref (a 9), .int (K 7 0)])), (a 7, .inl (cI, ro, .inl (K 8))), (a 8, .inl (cI, ro, .inl (K 9))), (a 9, .inl (cI, ro, .inl (K 10)))]) (wc := [(a 0, .inr (1, [.ref (a 1), .ref (a 2), .ref (a 3), .ref (a 4), .ref (a 5), .ref (a 6), .int (K 5 0), .int (K 6 0)])), (a 1, .inl (cI, 4, .inl (K 4))), (a 2, .inl (cI, 24, .inl (K 0))), (a 3, .inl (cI, 24, .inl (K 1))), (a 4, .inl (cI, 24, .inl (K 2))), (a 5, .inl (cI, 24, .inl (K 3)))]) (w1 := [(a 0, .inr (1, [.ref (a 1), .ref (a 2), .ref (a 3), .ref (a 4), .ref (a 5), .ref (a 6), .int (K 5 0), .int (K 6 0)])), (a 1, .inl (cI, 4, .inl (K 4))), (a 2, .inl (cI, 24, .inl (K 0))), (a 3, .inl (cI, 24, .inl (K 1))), (a 4, .inl (cI, 24, .inl (K 2))), (a 5, .inl (cI, 24, .inl (K 3)))]) (va_runV (C := RX1) (b := a 0) (As := []) (rest := []) ⟨hx, hb, hml, hown, hg⟩ (c_co_nextPlace l D cI cZ cR a K hp b6 hX hX1 H.size) (cwV 0 hg (bg_gV (fun _ h => h) bw_1_141 bw_1_143 bw_s_5 bw_1_3 bw_1_144) rfl rfl rfl (by decide +kernel) ⟨Nat.le_of_ble_eq_true rfl, Nat.le_of_ble_eq_true rfl⟩) (me_preV (wc := [(a 0, .inr (1, [.ref (a 1), .ref (a 2), .ref (a 3), .ref (a 4), .ref (a 5), .ref (a 6), .int (K 5 0), .int (K 6 0)])), (a 1, .inl (cI, 4, .inl (K 4))), (a 2, .inl (cI, 24, .inl (K 0))), (a 3, .inl (cI, 24, .inl (K 1))), (a 4, .inl (cI, 24, .inl (K 2))), (a 5, .inl (cI, 24, .inl (K 3)))]) hP hD hK hN [4, 5, 6, 7, 8, 9] rfl (by decide) (va_recv (q0 := 4) (ci := 1) hK hP rfl rfl)) rfl rfl hl.1 rfl (lv_room (Nat.le_of_ble_eq_true rfl)) dX1_doInstruction_42 ⟨Nat.zero_le _, Nat.zero_le _⟩) hP hD hS hA [4, 5, 6, 7, 8, 9] [0, 1, 2, 3, 10, 11, 12, 13] rfl rfl (by decide) (by decide) (fun H locs hP hD hS => ?_)
        have hP : va_P D vwCl [(b 0, .inr (2, [.ref (b 1), .ref (b 2), .ref (b 3)])), (b 1, .inl (cI, 32, .inl (M 0))), (b 2, .inl (cI, 32, .inl (M 1))), (b 3, .inl (cZ, 8, .inl (M 2))), (a 6, .inr (0, [.ref (a 7), .ref (a 8), .ref (a 9), .int (K 7 0)])), (a 7, .inl (cI, ro, .inl (K 8))), (a 8, .inl (cI, ro, .inl (K 9))), (a 9, .inl (cI, ro, .inl (K 10))), (a 0, .inr (1, [.ref (a 1), .ref (a 2), .ref (a 3), .ref (a 4), .ref (a 5), .ref (a 6), .int (K 5 0), .int (K 6 0)])), (a 1, .inl (cI, 4, .inl (K 4))), (a 2, .inl (cI, 24, .inl (K 0))), (a 3, .inl (cI, 24, .inl (K 1))), (a 4, .inl (cI, 24, .inl (K 2))), (a 5, .inl (cI, 24, .inl (K 3)))] H := hP
        have hD : va_D A [(b 0, .inr (2, [.ref (b 1), .ref (b 2), .ref (b 3)])), (b 1, .inl (cI, 32, .inl (M 0))), (b 2, .inl (cI, 32, .inl (M 1))), (b 3, .inl (cZ, 8, .inl (M 2))), (a 6, .inr (0, [.ref (a 7), .ref (a 8), .ref (a 9), .int (K 7 0)])), (a 7, .inl (cI, ro, .inl (K 8))), (a 8, .inl (cI, ro, .inl (K 9))), (a 9, .inl (cI, ro, .inl (K 10))), (a 0, .inr (1, [.ref (a 1), .ref (a 2), .ref (a 3), .ref (a 4), .ref (a 5), .ref (a 6), .int (K 5 0), .int (K 6 0)])), (a 1, .inl (cI, 4, .inl (K 4))), (a 2, .inl (cI, 24, .inl (K 0))), (a 3, .inl (cI, 24, .inl (K 1))), (a 4, .inl (cI, 24, .inl (K 2))), (a 5, .inl (cI, 24, .inl (K 3)))] := hD
        refine lv_istore_n hx hb dX1_doInstruction_45 rfl hl (by decide) rfl (fun ls hl => ?_)
        have hl : lv_has ls 3 [(2, .int (st_nx K)), (0, .ref (a 0)), (1, .ref (b 0))] := hl
        refine lv_aload_n hx hb dX1_doInstruction_46 rfl (lv_at hl 1 rfl) ?_
        refine lv_aload_n hx hb dX1_doInstruction_47 rfl (lv_at hl 2 rfl) ?_
        refine me_goV (wr := []) (wc := [(a 0, .inr (1, [.ref (a 1), .ref (a 2), .ref (a 3), .ref (a 4), .ref (a 5), .ref (a 6), .int (K 5 0), .int (K 6 0)])), (a 1, .inl (cI, 4, .inl (K 4))), (a 2, .inl (cI, 24, .inl (K 0))), (a 3, .inl (cI, 24, .inl (K 1))), (a 4, .inl (cI, 24, .inl (K 2))), (a 5, .inl (cI, 24, .inl (K 3))), (a 6, .inr (0, [.ref (a 7), .ref (a 8), .ref (a 9), .int (K 7 0)])), (a 7, .inl (cI, ro, .inl (K 8))), (a 8, .inl (cI, ro, .inl (K 9))), (a 9, .inl (cI, ro, .inl (K 10))), (b 0, .inr (2, [.ref (b 1), .ref (b 2), .ref (b 3)])), (b 1, .inl (cI, 32, .inl (M 0))), (b 2, .inl (cI, 32, .inl (M 1))), (b 3, .inl (cZ, 8, .inl (M 2)))]) (w1 := [(a 0, .inr (1, [.ref (a 1), .ref (a 2), .ref (a 3), .ref (a 4), .ref (a 5), .ref (a 6), .int ((st_peK K M) 5 0), .int ((st_peK K M) 6 0)])), (a 1, .inl (cI, 4, .inl ((st_peK K M) 4))), (a 2, .inl (cI, 24, .inl ((st_peK K M) 0))), (a 3, .inl (cI, 24, .inl ((st_peK K M) 1))), (a 4, .inl (cI, 24, .inl ((st_peK K M) 2))), (a 5, .inl (cI, 24, .inl ((st_peK K M) 3))), (a 6, .inr (0, [.ref (a 7), .ref (a 8), .ref (a 9), .int ((st_peK K M) 7 0)])), (a 7, .inl (cI, ro, .inl ((st_peK K M) 8))), (a 8, .inl (cI, ro, .inl ((st_peK K M) 9))), (a 9, .inl (cI, ro, .inl ((st_peK K M) 10))), (b 0, .inr (2, [.ref (b 1), .ref (b 2), .ref (b 3)])), (b 1, .inl (cI, 32, .inl ((st_peM K M) 0))), (b 2, .inl (cI, 32, .inl ((st_peM K M) 1))), (b 3, .inl (cZ, 8, .inl ((st_peM K M) 2)))]) (va_runV (C := RX1) (b := a 0) (As := [.ref (b 0)]) (rest := []) ⟨hx, hb, hml, hown, hg⟩ (c_co_perform l D cI cZ cR a b ro K M z hh hb1 hro hp b6 hX hX1 hY hY1 hz hz1 b36 H.size) (cwV 1 hg (bg_gV (fun _ h => h) bw_1_145 bw_1_147 bw_s_6 bw_1_3 bw_1_148) rfl rfl rfl (by decide +kernel) ⟨Nat.le_of_ble_eq_true rfl, Nat.le_of_ble_eq_true rfl⟩) (me_preV (wc := [(a 0, .inr (1, [.ref (a 1), .ref (a 2), .ref (a 3), .ref (a 4), .ref (a 5), .ref (a 6), .int (K 5 0), .int (K 6 0)])), (a 1, .inl (cI, 4, .inl (K 4))), (a 2, .inl (cI, 24, .inl (K 0))), (a 3, .inl (cI, 24, .inl (K 1))), (a 4, .inl (cI, 24, .inl (K 2))), (a 5, .inl (cI, 24, .inl (K 3))), (a 6, .inr (0, [.ref (a 7), .ref (a 8), .ref (a 9), .int (K 7 0)])), (a 7, .inl (cI, ro, .inl (K 8))), (a 8, .inl (cI, ro, .inl (K 9))), (a 9, .inl (cI, ro, .inl (K 10))), (b 0, .inr (2, [.ref (b 1), .ref (b 2), .ref (b 3)])), (b 1, .inl (cI, 32, .inl (M 0))), (b 2, .inl (cI, 32, .inl (M 1))), (b 3, .inl (cZ, 8, .inl (M 2)))]) hP hD hK hN [8, 9, 10, 11, 12, 13, 4, 5, 6, 7, 0, 1, 2, 3] rfl (by decide) (va_recv (q0 := 8) (ci := 1) hK hP rfl rfl)) rfl rfl hl.1 rfl (lv_room (Nat.le_of_ble_eq_true rfl)) dX1_doInstruction_48 ⟨Nat.zero_le _, Nat.zero_le _⟩) hP hD hS hA [8, 9, 10, 11, 12, 13, 4, 5, 6, 7, 0, 1, 2, 3] [] rfl rfl (by decide) (by decide) (fun H locs hP hD hS => ?_)
        have hP : va_P D vwCl [(a 0, .inr (1, [.ref (a 1), .ref (a 2), .ref (a 3), .ref (a 4), .ref (a 5), .ref (a 6), .int ((st_peK K M) 5 0), .int ((st_peK K M) 6 0)])), (a 1, .inl (cI, 4, .inl ((st_peK K M) 4))), (a 2, .inl (cI, 24, .inl ((st_peK K M) 0))), (a 3, .inl (cI, 24, .inl ((st_peK K M) 1))), (a 4, .inl (cI, 24, .inl ((st_peK K M) 2))), (a 5, .inl (cI, 24, .inl ((st_peK K M) 3))), (a 6, .inr (0, [.ref (a 7), .ref (a 8), .ref (a 9), .int ((st_peK K M) 7 0)])), (a 7, .inl (cI, ro, .inl ((st_peK K M) 8))), (a 8, .inl (cI, ro, .inl ((st_peK K M) 9))), (a 9, .inl (cI, ro, .inl ((st_peK K M) 10))), (b 0, .inr (2, [.ref (b 1), .ref (b 2), .ref (b 3)])), (b 1, .inl (cI, 32, .inl ((st_peM K M) 0))), (b 2, .inl (cI, 32, .inl ((st_peM K M) 1))), (b 3, .inl (cZ, 8, .inl ((st_peM K M) 2)))] H := hP
        have hD : va_D A [(a 0, .inr (1, [.ref (a 1), .ref (a 2), .ref (a 3), .ref (a 4), .ref (a 5), .ref (a 6), .int ((st_peK K M) 5 0), .int ((st_peK K M) 6 0)])), (a 1, .inl (cI, 4, .inl ((st_peK K M) 4))), (a 2, .inl (cI, 24, .inl ((st_peK K M) 0))), (a 3, .inl (cI, 24, .inl ((st_peK K M) 1))), (a 4, .inl (cI, 24, .inl ((st_peK K M) 2))), (a 5, .inl (cI, 24, .inl ((st_peK K M) 3))), (a 6, .inr (0, [.ref (a 7), .ref (a 8), .ref (a 9), .int ((st_peK K M) 7 0)])), (a 7, .inl (cI, ro, .inl ((st_peK K M) 8))), (a 8, .inl (cI, ro, .inl ((st_peK K M) 9))), (a 9, .inl (cI, ro, .inl ((st_peK K M) 10))), (b 0, .inr (2, [.ref (b 1), .ref (b 2), .ref (b 3)])), (b 1, .inl (cI, 32, .inl ((st_peM K M) 0))), (b 2, .inl (cI, 32, .inl ((st_peM K M) 1))), (b 3, .inl (cZ, 8, .inl ((st_peM K M) 2)))] := hD
        refine lv_aload_n hx hb dX1_doInstruction_51 rfl (lv_at hl 1 rfl) ?_
        refine lv_iload_n hx hb dX1_doInstruction_52 rfl (lv_at hl 0 rfl) ?_
        refine va_put (D := D) (ci := 1) (v := .int (st_nx K)) (ty := .int) (C := RX1) (T := TX1) (N := 8) hx hb hg inX1 tyX1 tyX1_ok nmX1 hown hK hP hD hS 0 rfl rfl 6 (by decide) (hg _ bw_1_75) (fun _ h9 => h9) rfl (by decide +kernel) rfl rfl (Nat.le_of_ble_eq_true rfl) dX1_doInstruction_53 (fun H locs hP hD hS => ?_)
        have hP : va_P D vwCl [(a 0, .inr (1, [.ref (a 1), .ref (a 2), .ref (a 3), .ref (a 4), .ref (a 5), .ref (a 6), .int (st_nx K), .int ((st_peK K M) 6 0)])), (a 1, .inl (cI, 4, .inl ((st_peK K M) 4))), (a 2, .inl (cI, 24, .inl ((st_peK K M) 0))), (a 3, .inl (cI, 24, .inl ((st_peK K M) 1))), (a 4, .inl (cI, 24, .inl ((st_peK K M) 2))), (a 5, .inl (cI, 24, .inl ((st_peK K M) 3))), (a 6, .inr (0, [.ref (a 7), .ref (a 8), .ref (a 9), .int ((st_peK K M) 7 0)])), (a 7, .inl (cI, ro, .inl ((st_peK K M) 8))), (a 8, .inl (cI, ro, .inl ((st_peK K M) 9))), (a 9, .inl (cI, ro, .inl ((st_peK K M) 10))), (b 0, .inr (2, [.ref (b 1), .ref (b 2), .ref (b 3)])), (b 1, .inl (cI, 32, .inl ((st_peM K M) 0))), (b 2, .inl (cI, 32, .inl ((st_peM K M) 1))), (b 3, .inl (cZ, 8, .inl ((st_peM K M) 2)))] H := hP
        have hD : va_D A [(a 0, .inr (1, [.ref (a 1), .ref (a 2), .ref (a 3), .ref (a 4), .ref (a 5), .ref (a 6), .int (st_nx K), .int ((st_peK K M) 6 0)])), (a 1, .inl (cI, 4, .inl ((st_peK K M) 4))), (a 2, .inl (cI, 24, .inl ((st_peK K M) 0))), (a 3, .inl (cI, 24, .inl ((st_peK K M) 1))), (a 4, .inl (cI, 24, .inl ((st_peK K M) 2))), (a 5, .inl (cI, 24, .inl ((st_peK K M) 3))), (a 6, .inr (0, [.ref (a 7), .ref (a 8), .ref (a 9), .int ((st_peK K M) 7 0)])), (a 7, .inl (cI, ro, .inl ((st_peK K M) 8))), (a 8, .inl (cI, ro, .inl ((st_peK K M) 9))), (a 9, .inl (cI, ro, .inl ((st_peK K M) 10))), (b 0, .inr (2, [.ref (b 1), .ref (b 2), .ref (b 3)])), (b 1, .inl (cI, 32, .inl ((st_peM K M) 0))), (b 2, .inl (cI, 32, .inl ((st_peM K M) 1))), (b 3, .inl (cZ, 8, .inl ((st_peM K M) 2)))] := hD
        refine lv_iconst (v := 0) hx hb dX1_doInstruction_56 (by decide) ?_
        have hH : ¬ st_ha K := fun q => q.elim (fun q => absurd q (by omega)) (fun q => b18 (me_eq (b := 0) (by omega) (by omega) (hz.symm.trans q)))
        have hW : ¬ st_wt ro K := by unfold st_wt st_z; rw [hz]; exact b36
        have hO : ¬ (st_ha K ∨ st_wt ro K) := fun q => q.elim hH hW
        rw [show st_doK ro K M = st_ks (st_peK K M) 5 0 (st_nx K) from me_swf hO, show st_doM ro K M = st_peM K M from me_swf hO]
        have hP9 := me_subP (ws' := [(a 0, .inr (1, [.ref (a 1), .ref (a 2), .ref (a 3), .ref (a 4), .ref (a 5), .ref (a 6), .int ((st_ks (st_peK K M) 5 0 (st_nx K)) 5 0), .int ((st_ks (st_peK K M) 5 0 (st_nx K)) 6 0)])), (a 1, .inl (cI, 4, .inl ((st_ks (st_peK K M) 5 0 (st_nx K)) 4))), (a 2, .inl (cI, 24, .inl ((st_ks (st_peK K M) 5 0 (st_nx K)) 0))), (a 3, .inl (cI, 24, .inl ((st_ks (st_peK K M) 5 0 (st_nx K)) 1))), (a 4, .inl (cI, 24, .inl ((st_ks (st_peK K M) 5 0 (st_nx K)) 2))), (a 5, .inl (cI, 24, .inl ((st_ks (st_peK K M) 5 0 (st_nx K)) 3))), (a 6, .inr (0, [.ref (a 7), .ref (a 8), .ref (a 9), .int ((st_ks (st_peK K M) 5 0 (st_nx K)) 7 0)])), (a 7, .inl (cI, ro, .inl ((st_ks (st_peK K M) 5 0 (st_nx K)) 8))), (a 8, .inl (cI, ro, .inl ((st_ks (st_peK K M) 5 0 (st_nx K)) 9))), (a 9, .inl (cI, ro, .inl ((st_ks (st_peK K M) 5 0 (st_nx K)) 10))), (b 0, .inr (2, [.ref (b 1), .ref (b 2), .ref (b 3)])), (b 1, .inl (cI, 32, .inl ((st_peM K M) 0))), (b 2, .inl (cI, 32, .inl ((st_peM K M) 1))), (b 3, .inl (cZ, 8, .inl ((st_peM K M) 2)))]) hP [0, 1, 2, 3, 4, 5, 6, 7, 8, 9, 10, 11, 12, 13] rfl
        have hD9 := hD.sub (ws' := [(a 0, .inr (1, [.ref (a 1), .ref (a 2), .ref (a 3), .ref (a 4), .ref (a 5), .ref (a 6), .int ((st_ks (st_peK K M) 5 0 (st_nx K)) 5 0), .int ((st_ks (st_peK K M) 5 0 (st_nx K)) 6 0)])), (a 1, .inl (cI, 4, .inl ((st_ks (st_peK K M) 5 0 (st_nx K)) 4))), (a 2, .inl (cI, 24, .inl ((st_ks (st_peK K M) 5 0 (st_nx K)) 0))), (a 3, .inl (cI, 24, .inl ((st_ks (st_peK K M) 5 0 (st_nx K)) 1))), (a 4, .inl (cI, 24, .inl ((st_ks (st_peK K M) 5 0 (st_nx K)) 2))), (a 5, .inl (cI, 24, .inl ((st_ks (st_peK K M) 5 0 (st_nx K)) 3))), (a 6, .inr (0, [.ref (a 7), .ref (a 8), .ref (a 9), .int ((st_ks (st_peK K M) 5 0 (st_nx K)) 7 0)])), (a 7, .inl (cI, ro, .inl ((st_ks (st_peK K M) 5 0 (st_nx K)) 8))), (a 8, .inl (cI, ro, .inl ((st_ks (st_peK K M) 5 0 (st_nx K)) 9))), (a 9, .inl (cI, ro, .inl ((st_ks (st_peK K M) 5 0 (st_nx K)) 10))), (b 0, .inr (2, [.ref (b 1), .ref (b 2), .ref (b 3)])), (b 1, .inl (cI, 32, .inl ((st_peM K M) 0))), (b 2, .inl (cI, 32, .inl ((st_peM K M) 1))), (b 3, .inl (cZ, 8, .inl ((st_peM K M) 2)))]) [0, 1, 2, 3, 4, 5, 6, 7, 8, 9, 10, 11, 12, 13] (by decide) rfl
        exact me_retI hx hb hr hlk hK hS dX1_doInstruction_57 (((me_swf hH).trans (me_swf hW)).symm) hP9 hD9
      · have b36 := me_b1 b36
        refine lv_iconst (v := 1) hx hb dX1_doInstruction_39 (by decide) ?_
        have hH : ¬ st_ha K := fun q => q.elim (fun q => absurd q (by omega)) (fun q => b18 (me_eq (b := 0) (by omega) (by omega) (hz.symm.trans q)))
        have hW : st_wt ro K := by unfold st_wt st_z; rw [hz]; exact b36
        rw [show st_doK ro K M = K from me_swt (Or.inr hW), show st_doM ro K M = M from me_swt (Or.inr hW)]
        have hP9 := me_subP (ws' := [(a 0, .inr (1, [.ref (a 1), .ref (a 2), .ref (a 3), .ref (a 4), .ref (a 5), .ref (a 6), .int (K 5 0), .int (K 6 0)])), (a 1, .inl (cI, 4, .inl (K 4))), (a 2, .inl (cI, 24, .inl (K 0))), (a 3, .inl (cI, 24, .inl (K 1))), (a 4, .inl (cI, 24, .inl (K 2))), (a 5, .inl (cI, 24, .inl (K 3))), (a 6, .inr (0, [.ref (a 7), .ref (a 8), .ref (a 9), .int (K 7 0)])), (a 7, .inl (cI, ro, .inl (K 8))), (a 8, .inl (cI, ro, .inl (K 9))), (a 9, .inl (cI, ro, .inl (K 10))), (b 0, .inr (2, [.ref (b 1), .ref (b 2), .ref (b 3)])), (b 1, .inl (cI, 32, .inl (M 0))), (b 2, .inl (cI, 32, .inl (M 1))), (b 3, .inl (cZ, 8, .inl (M 2)))]) hP [4, 5, 6, 7, 8, 9, 10, 11, 12, 13, 0, 1, 2, 3] rfl
        have hD9 := hD.sub (ws' := [(a 0, .inr (1, [.ref (a 1), .ref (a 2), .ref (a 3), .ref (a 4), .ref (a 5), .ref (a 6), .int (K 5 0), .int (K 6 0)])), (a 1, .inl (cI, 4, .inl (K 4))), (a 2, .inl (cI, 24, .inl (K 0))), (a 3, .inl (cI, 24, .inl (K 1))), (a 4, .inl (cI, 24, .inl (K 2))), (a 5, .inl (cI, 24, .inl (K 3))), (a 6, .inr (0, [.ref (a 7), .ref (a 8), .ref (a 9), .int (K 7 0)])), (a 7, .inl (cI, ro, .inl (K 8))), (a 8, .inl (cI, ro, .inl (K 9))), (a 9, .inl (cI, ro, .inl (K 10))), (b 0, .inr (2, [.ref (b 1), .ref (b 2), .ref (b 3)])), (b 1, .inl (cI, 32, .inl (M 0))), (b 2, .inl (cI, 32, .inl (M 1))), (b 3, .inl (cZ, 8, .inl (M 2)))]) [4, 5, 6, 7, 8, 9, 10, 11, 12, 13, 0, 1, 2, 3] (by decide) rfl
        exact me_retI hx hb hr hlk hK hS dX1_doInstruction_40 (((me_swf hH).trans (me_swt hW)).symm) hP9 hD9
    · have b18 := me_eq (a := z) (b := 0) (by omega) (by omega) b18
      refine lv_iconst (v := 2) hx hb dX1_doInstruction_21 (by decide) ?_
      have hH : st_ha K := Or.inr (hz.trans (congrArg nI b18))
      rw [show st_doK ro K M = K from me_swt (Or.inl hH), show st_doM ro K M = M from me_swt (Or.inl hH)]
      have hP9 := me_subP (ws' := [(a 0, .inr (1, [.ref (a 1), .ref (a 2), .ref (a 3), .ref (a 4), .ref (a 5), .ref (a 6), .int (K 5 0), .int (K 6 0)])), (a 1, .inl (cI, 4, .inl (K 4))), (a 2, .inl (cI, 24, .inl (K 0))), (a 3, .inl (cI, 24, .inl (K 1))), (a 4, .inl (cI, 24, .inl (K 2))), (a 5, .inl (cI, 24, .inl (K 3))), (a 6, .inr (0, [.ref (a 7), .ref (a 8), .ref (a 9), .int (K 7 0)])), (a 7, .inl (cI, ro, .inl (K 8))), (a 8, .inl (cI, ro, .inl (K 9))), (a 9, .inl (cI, ro, .inl (K 10))), (b 0, .inr (2, [.ref (b 1), .ref (b 2), .ref (b 3)])), (b 1, .inl (cI, 32, .inl (M 0))), (b 2, .inl (cI, 32, .inl (M 1))), (b 3, .inl (cZ, 8, .inl (M 2)))]) hP [0, 1, 2, 3, 4, 5, 6, 7, 8, 9, 10, 11, 12, 13] rfl
      have hD9 := hD.sub (ws' := [(a 0, .inr (1, [.ref (a 1), .ref (a 2), .ref (a 3), .ref (a 4), .ref (a 5), .ref (a 6), .int (K 5 0), .int (K 6 0)])), (a 1, .inl (cI, 4, .inl (K 4))), (a 2, .inl (cI, 24, .inl (K 0))), (a 3, .inl (cI, 24, .inl (K 1))), (a 4, .inl (cI, 24, .inl (K 2))), (a 5, .inl (cI, 24, .inl (K 3))), (a 6, .inr (0, [.ref (a 7), .ref (a 8), .ref (a 9), .int (K 7 0)])), (a 7, .inl (cI, ro, .inl (K 8))), (a 8, .inl (cI, ro, .inl (K 9))), (a 9, .inl (cI, ro, .inl (K 10))), (b 0, .inr (2, [.ref (b 1), .ref (b 2), .ref (b 3)])), (b 1, .inl (cI, 32, .inl (M 0))), (b 2, .inl (cI, 32, .inl (M 1))), (b 3, .inl (cZ, 8, .inl (M 2)))]) [0, 1, 2, 3, 4, 5, 6, 7, 8, 9, 10, 11, 12, 13] (by decide) rfl
      exact me_retI hx hb hr hlk hK hS dX1_doInstruction_22 ((me_swt hH).symm) hP9 hD9
