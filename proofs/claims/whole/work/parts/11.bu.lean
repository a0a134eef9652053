set_option maxHeartbeats 4000000 in
set_option maxRecDepth 100000 in
theorem c_bu_isFull (l : Launch) (D : va_G) (cI cZ cR : ClassId) (a : Nat → Nat) (ro : Nat) (K : st_T) (hh : K 7 0 = nI (st_h K)) (hb1 : st_h K ≤ ro) (hro : ro ≤ 8) : me_I l yX0_isFull wsX0_isFull ({ frames := 0, cells := 0, slots := 0, locals := 0 } : Room) D (me_TYS cI cZ cR) ([.ref (a 6)] : List Value) (w_bu a cI ro K) (me_b (ro ≤ st_h K)) (w_bu a cI ro K) := by
  intro sz
  refine me_ent (cc := cX0_isFull) (maxL := 1) (ret := (some .boolean)) (Qf := me_QI D (me_TYS cI cZ cR) (me_b (ro ≤ st_h K)) (w_bu a cI ro K)) (by decide) rfl (Nat.le_of_ble_eq_true rfl) ?_
  intro p e s m below meth c A ls hx hb hr hml hts hown hlk hin hP hK hD hN hA hS hl
  have hown : s.vm.findClass RX0 = some m.cls := hown
  have hg : ∀ w9 ∈ bg, w9.before ([.ref (a 6)] : List Value).toArray s = true := fun w9 h9 => hts w9 (List.mem_cons_of_mem _ h9)
  have hl : lv_has ls 1 [(0, .ref (a 6))] := hl
  have hP : va_P D vwCl [(a 6, .inr (0, [.ref (a 7), .ref (a 8), .ref (a 9), .int (K 7 0)])), (a 7, .inl (cI, ro, .inl (K 8))), (a 8, .inl (cI, ro, .inl (K 9))), (a 9, .inl (cI, ro, .inl (K 10)))] s.heap := hP
  have hD : va_D A [(a 6, .inr (0, [.ref (a 7), .ref (a 8), .ref (a 9), .int (K 7 0)])), (a 7, .inl (cI, ro, .inl (K 8))), (a 8, .inl (cI, ro, .inl (K 9))), (a 9, .inl (cI, ro, .inl (K 10)))] := hD
  refine lv_aload_n hx hb dX0_isFull_0 rfl (lv_at hl 0 rfl) ?_
  refine va_get (D := D) (ci := 0) (v := .int (K 7 0)) (C := RX0) (T := TX0) (N := 4) hx hb hg inX0 hown hK hP 0 rfl rfl 3 (by decide) (hg _ bw_1_55) (fun _ h9 => h9) rfl dX0_isFull_1 ?_
  refine me_t (x := K 7 0) (y := nI (st_h K)) (hh) ?_
  refine lv_aload_n hx hb dX0_isFull_4 rfl (lv_at hl 0 rfl) ?_
  refine va_get (D := D) (ci := 0) (v := .ref (a 7)) (C := RX0) (T := TX0) (N := 4) hx hb hg inX0 hown hK hP 0 rfl rfl 0 (by decide) (hg _ bw_1_49) (fun _ h9 => h9) rfl dX0_isFull_5 ?_
  refine va_alen (v := nI (ro)) hx hb hK hP 1 0 rfl rfl rfl dX0_isFull_8 ?_
  refine lv_icmp_lt (tgt := 16) hx hb dX0_isFull_9 (by decide) (fun b9 => ?_) (fun b9 => ?_)
  · have b9 := me_lt (a := st_h K) (b := ro) (by omega) (by omega) b9
    refine lv_iconst (v := 0) hx hb dX0_isFull_16 (by decide) ?_
    have hP9 := me_subP (ws' := [(a 6, .inr (0, [.ref (a 7), .ref (a 8), .ref (a 9), .int (K 7 0)])), (a 7, .inl (cI, ro, .inl (K 8))), (a 8, .inl (cI, ro, .inl (K 9))), (a 9, .inl (cI, ro, .inl (K 10)))]) hP [0, 1, 2, 3] rfl
    have hD9 := hD.sub (ws' := [(a 6, .inr (0, [.ref (a 7), .ref (a 8), .ref (a 9), .int (K 7 0)])), (a 7, .inl (cI, ro, .inl (K 8))), (a 8, .inl (cI, ro, .inl (K 9))), (a 9, .inl (cI, ro, .inl (K 10)))]) [0, 1, 2, 3] (by decide) rfl
    exact me_retZ hx hb hr hlk hK hS dX0_isFull_17 (rfl) ((me_bf (by omega)).symm) hP9 hD9
  · have b9 := me_nlt (a := st_h K) (b := ro) (by omega) (by omega) b9
    refine lv_iconst (v := 1) hx hb dX0_isFull_12 (by decide) ?_
    refine lv_goto (tgt := 17) hx hb dX0_isFull_13 (by decide) ?_
    have hP9 := me_subP (ws' := [(a 6, .inr (0, [.ref (a 7), .ref (a 8), .ref (a 9), .int (K 7 0)])), (a 7, .inl (cI, ro, .inl (K 8))), (a 8, .inl (cI, ro, .inl (K 9))), (a 9, .inl (cI, ro, .inl (K 10)))]) hP [0, 1, 2, 3] rfl
    have hD9 := hD.sub (ws' := [(a 6, .inr (0, [.ref (a 7), .ref (a 8), .ref (a 9), .int (K 7 0)])), (a 7, .inl (cI, ro, .inl (K 8))), (a 8, .inl (cI, ro, .inl (K 9))), (a 9, .inl (cI, ro, .inl (K 10)))]) [0, 1, 2, 3] (by decide) rfl
    exact me_retZ hx hb hr hlk hK hS dX0_isFull_17 (rfl) ((me_bt b9).symm) hP9 hD9
set_option maxHeartbeats 4000000 in
set_option maxRecDepth 100000 in
theorem c_bu_append (l : Launch) (D : va_G) (cI cZ cR : ClassId) (a : Nat → Nat) (ro : Nat) (K : st_T) (ki ti vi : Int32) (hh : K 7 0 = nI (st_h K)) (hlt : st_h K < ro) (hro : ro ≤ 8) : me_V l yX0_append wsX0_append ({ frames := 1, cells := 0, slots := 0, locals := 20 } : Room) D (me_TYS cI cZ cR) ([.ref (a 6), .int (ki), .int (ti), .int (vi)] : List Value) (w_bu a cI ro K) (w_bu a cI ro (st_ap K ki ti vi)) := by
  intro sz
  refine me_ent (cc := cX0_append) (maxL := 4) (ret := none) (Qf := me_QV D (me_TYS cI cZ cR) (w_bu a cI ro (st_ap K ki ti vi))) (by decide) rfl (Nat.le_of_ble_eq_true rfl) ?_
  intro p e s m below meth c A ls hx hb hr hml hts hown hlk hin hP hK hD hN hA hS hl
  have hown : s.vm.findClass RX0 = some m.cls := hown
  have hg : ∀ w9 ∈ bg, w9.before ([.ref (a 6), .int (ki), .int (ti), .int (vi)] : List Value).toArray s = true := fun w9 h9 => hts w9 (List.mem_cons_of_mem _ h9)
  have hl : lv_has ls 4 [(0, .ref (a 6)), (1, .int (ki)), (2, .int (ti)), (3, .int (vi))] := hl
  have hP : va_P D vwCl [(a 6, .inr (0, [.ref (a 7), .ref (a 8), .ref (a 9), .int (K 7 0)])), (a 7, .inl (cI, ro, .inl (K 8))), (a 8, .inl (cI, ro, .inl (K 9))), (a 9, .inl (cI, ro, .inl (K 10)))] s.heap := hP
  have hD : va_D A [(a 6, .inr (0, [.ref (a 7), .ref (a 8), .ref (a 9), .int (K 7 0)])), (a 7, .inl (cI, ro, .inl (K 8))), (a 8, .inl (cI, ro, .inl (K 9))), (a 9, .inl (cI, ro, .inl (K 10)))] := hD
  refine lv_aload_n hx hb dX0_append_0 rfl (lv_at hl 0 rfl) ?_
  refine me_goI (wr := []) (wc := [(a 6, .inr (0, [.ref (a 7), .ref (a 8), .ref (a 9), .int (K 7 0)])), (a 7, .inl (cI, ro, .inl (K 8))), (a 8, .inl (cI, ro, .inl (K 9))), (a 9, .inl (cI, ro, .inl (K 10)))]) (w1 := [(a 6, .inr (0, [.ref (a 7), .ref (a 8), .ref (a 9), .int (K 7 0)])), (a 7, .inl (cI, ro, .inl (K 8))), (a 8, .inl (cI, ro, .inl (K 9))), (a 9, .inl (cI, ro, .inl (K 10)))]) (va_runV (C := RX0) (b := a 6) (As := []) (rest := []) ⟨hx, hb, hml, hown, hg⟩ (c_bu_isFull l D cI cZ cR a ro K hh (by omega) hro s.heap.size) (cwV 0 hg (bg_gV (fun _ h => h) bw_1_157 bw_1_139 bw_s_4 bw_1_4 bw_1_140) rfl rfl rfl (by decide +kernel) ⟨Nat.le_of_ble_eq_true rfl, Nat.le_of_ble_eq_true rfl⟩) (me_preV (wc := [(a 6, .inr (0, [.ref (a 7), .ref (a 8), .ref (a 9), .int (K 7 0)])), (a 7, .inl (cI, ro, .inl (K 8))), (a 8, .inl (cI, ro, .inl (K 9))), (a 9, .inl (cI, ro, .inl (K 10)))]) hP hD hK hN [0, 1, 2, 3] rfl (by decide) (va_recv (q0 := 0) (ci := 0) hK hP rfl rfl)) rfl rfl hl.1 rfl (lv_room (Nat.le_of_ble_eq_true rfl)) dX0_append_1 ⟨Nat.zero_le _, Nat.zero_le _⟩) hP hD hS hA [0, 1, 2, 3] [] rfl rfl (by decide) (by decide) (fun H locs hP hD hS => ?_)
  have hP : va_P D vwCl [(a 6, .inr (0, [.ref (a 7), .ref (a 8), .ref (a 9), .int (K 7 0)])), (a 7, .inl (cI, ro, .inl (K 8))), (a 8, .inl (cI, ro, .inl (K 9))), (a 9, .inl (cI, ro, .inl (K 10)))] H := hP
  have hD : va_D A [(a 6, .inr (0, [.ref (a 7), .ref (a 8), .ref (a 9), .int (K 7 0)])), (a 7, .inl (cI, ro, .inl (K 8))), (a 8, .inl (cI, ro, .inl (K 9))), (a 9, .inl (cI, ro, .inl (K 10)))] := hD
  refine lv_if_eq (tgt := 8) hx hb dX0_append_4 (by decide) (fun b4 => ?_) (fun b4 => ?_)
  · have b4 := me_b0 b4
    refine lv_aload_n hx hb dX0_append_8 rfl (lv_at hl 0 rfl) ?_
    refine va_get (D := D) (ci := 0) (v := .ref (a 7)) (C := RX0) (T := TX0) (N := 4) hx hb hg inX0 hown hK hP 0 rfl rfl 0 (by decide) (hg _ bw_1_49) (fun _ h9 => h9) rfl dX0_append_9 ?_
    refine lv_aload_n hx hb dX0_append_12 rfl (lv_at hl 0 rfl) ?_
    refine va_get (D := D) (ci := 0) (v := .int (K 7 0)) (C := RX0) (T := TX0) (N := 4) hx hb hg inX0 hown hK hP 0 rfl rfl 3 (by decide) (hg _ bw_1_55) (fun _ h9 => h9) rfl dX0_append_13 ?_
    refine me_t (x := K 7 0) (y := nI (st_h K)) (hh) ?_
    refine lv_iload_n hx hb dX0_append_16 rfl (lv_at hl 1 rfl) ?_
    refine me_ist hx hb hK hP hD hS 1 0 rfl rfl (st_h K) (rfl) (by omega) (by omega) dX0_append_17 (fun H locs hP hD hS => ?_)
    have hP : va_P D vwCl [(a 6, .inr (0, [.ref (a 7), .ref (a 8), .ref (a 9), .int (K 7 0)])), (a 7, .inl (cI, ro, .inl (upd (K 8) (st_h K) (ki)))), (a 8, .inl (cI, ro, .inl (K 9))), (a 9, .inl (cI, ro, .inl (K 10)))] H := hP
    have hD : va_D A [(a 6, .inr (0, [.ref (a 7), .ref (a 8), .ref (a 9), .int (K 7 0)])), (a 7, .inl (cI, ro, .inl (upd (K 8) (st_h K) (ki)))), (a 8, .inl (cI, ro, .inl (K 9))), (a 9, .inl (cI, ro, .inl (K 10)))] := hD
    refine lv_aload_n hx hb dX0_append_18 rfl (lv_at hl 0 rfl) ?_
    refine va_get (D := D) (ci := 0) (v := .ref (a 8)) (C := RX0) (T := TX0) (N := 4) hx hb hg inX0 hown hK hP 0 rfl rfl 1 (by decide) (hg _ bw_1_51) (fun _ h9 => h9) rfl dX0_append_19 ?_
    refine lv_aload_n hx hb dX0_append_22 rfl (lv_at hl 0 rfl) ?_
    refine va_get (D := D) (ci := 0) (v := .int (K 7 0)) (C := RX0) (T := TX0) (N := 4) hx hb hg inX0 hown hK hP 0 rfl rfl 3 (by decide) (hg _ bw_1_55) (fun _ h9 => h9) rfl dX0_append_23 ?_
    refine me_t (x := K 7 0) (y := nI (st_h K)) (hh) ?_
    refine lv_iload_n hx hb dX0_append_26 rfl (lv_at hl 2 rfl) ?_
    refine me_ist hx hb hK hP hD hS 2 0 rfl rfl (st_h K) (rfl) (by omega) (by omega) dX0_append_27 (fun H locs hP hD hS => ?_)
    have hP : va_P D vwCl [(a 6, .inr (0, [.ref (a 7), .ref (a 8), .ref (a 9), .int (K 7 0)])), (a 7, .inl (cI, ro, .inl (upd (K 8) (st_h K) (ki)))), (a 8, .inl (cI, ro, .inl (upd (K 9) (st_h K) (ti)))), (a 9, .inl (cI, ro, .inl (K 10)))] H := hP
    have hD : va_D A [(a 6, .inr (0, [.ref (a 7), .ref (a 8), .ref (a 9), .int (K 7 0)])), (a 7, .inl (cI, ro, .inl (upd (K 8) (st_h K) (ki)))), (a 8, .inl (cI, ro, .inl (upd (K 9) (st_h K) (ti)))), (a 9, .inl (cI, ro, .inl (K 10)))] := hD
    refine lv_aload_n hx hb dX0_append_28 rfl (lv_at hl 0 rfl) ?_
    refine va_get (D := D) (ci := 0) (v := .ref (a 9)) (C := RX0) (T := TX0) (N := 4) hx hb hg inX0 hown hK hP 0 rfl rfl 2 (by decide) (hg _ bw_1_53) (fun _ h9 => h9) rfl dX0_append_29 ?_
    refine lv_aload_n hx hb dX0_append_32 rfl (lv_at hl 0 rfl) ?_
    refine va_get (D := D) (ci := 0) (v := .int (K 7 0)) (C := RX0) (T := TX0) (N := 4) hx hb hg inX0 hown hK hP 0 rfl rfl 3 (by decide) (hg _ bw_1_55) (fun _ h9 => h9) rfl dX0_append_33 ?_
    refine me_t (x := K 7 0) (y := nI (st_h K)) (hh) ?_
    refine lv_iload_n hx hb dX0_append_36 rfl (lv_at hl 3 rfl) ?_
    refine me_ist hx hb hK hP hD hS 3 0 rfl rfl (st_h K) (rfl) (by omega) (by omega) dX0_append_37 (fun H locs hP hD hS => ?_)
    have hP : va_P D vwCl [(a 6, .inr (0, [.ref (a 7), .ref (a 8), .ref (a 9), .int (K 7 0)])), (a 7, .inl (cI, ro, .inl (upd (K 8) (st_h K) (ki)))), (a 8, .inl (cI, ro, .inl (upd (K 9) (st_h K) (ti)))), (a 9, .inl (cI, ro, .inl (upd (K 10) (st_h K) (vi))))] H := hP
    have hD : va_D A [(a 6, .inr (0, [.ref (a 7), .ref (a 8), .ref (a 9), .int (K 7 0)])), (a 7, .inl (cI, ro, .inl (upd (K 8) (st_h K) (ki)))), (a 8, .inl (cI, ro, .inl (upd (K 9) (st_h K) (ti)))), (a 9, .inl (cI, ro, .inl (upd (K 10) (st_h K) (vi))))] := hD
    refine lv_aload_n hx hb dX0_append_38 rfl (lv_at hl 0 rfl) ?_
    refine lv_dup hx hb dX0_append_39 rfl ?_
    refine va_get (D := D) (ci := 0) (v := .int (K 7 0)) (C := RX0) (T := TX0) (N := 4) hx hb hg inX0 hown hK hP 0 rfl rfl 3 (by decide) (hg _ bw_1_55) (fun _ h9 => h9) rfl dX0_append_40 ?_
    refine me_t (x := K 7 0) (y := nI (st_h K)) (hh) ?_
    refine lv_iconst (v := 1) hx hb dX0_append_43 (by decide) ?_
    refine lv_iadd hx hb dX0_append_44 ?_
    refine me_t (x := (nI (st_h K)) + 1) (y := nI (st_h K + 1)) (nI_add (st_h K) (1)) ?_
    refine va_put (D := D) (ci := 0) (v := .int (nI (st_h K + 1))) (ty := .int) (C := RX0) (T := TX0) (N := 4) hx hb hg inX0 tyX0 tyX0_ok nmX0 hown hK hP hD hS 0 rfl rfl 3 (by decide) (hg _ bw_1_55) (fun _ h9 => h9) rfl (by decide +kernel) rfl rfl (Nat.le_of_ble_eq_true rfl) dX0_append_45 (fun H locs hP hD hS => ?_)
    have hP : va_P D vwCl [(a 6, .inr (0, [.ref (a 7), .ref (a 8), .ref (a 9), .int (nI (st_h K + 1))])), (a 7, .inl (cI, ro, .inl (upd (K 8) (st_h K) (ki)))), (a 8, .inl (cI, ro, .inl (upd (K 9) (st_h K) (ti)))), (a 9, .inl (cI, ro, .inl (upd (K 10) (st_h K) (vi))))] H := hP
    have hD : va_D A [(a 6, .inr (0, [.ref (a 7), .ref (a 8), .ref (a 9), .int (nI (st_h K + 1))])), (a 7, .inl (cI, ro, .inl (upd (K 8) (st_h K) (ki)))), (a 8, .inl (cI, ro, .inl (upd (K 9) (st_h K) (ti)))), (a 9, .inl (cI, ro, .inl (upd (K 10) (st_h K) (vi))))] := hD
    have hP9 := me_subP (ws' := [(a 6, .inr (0, [.ref (a 7), .ref (a 8), .ref (a 9), .int ((st_ap K ki ti vi) 7 0)])), (a 7, .inl (cI, ro, .inl ((st_ap K ki ti vi) 8))), (a 8, .inl (cI, ro, .inl ((st_ap K ki ti vi) 9))), (a 9, .inl (cI, ro, .inl ((st_ap K ki ti vi) 10)))]) hP [0, 1, 2, 3] rfl
    have hD9 := hD.sub (ws' := [(a 6, .inr (0, [.ref (a 7), .ref (a 8), .ref (a 9), .int ((st_ap K ki ti vi) 7 0)])), (a 7, .inl (cI, ro, .inl ((st_ap K ki ti vi) 8))), (a 8, .inl (cI, ro, .inl ((st_ap K ki ti vi) 9))), (a 9, .inl (cI, ro, .inl ((st_ap K ki ti vi) 10)))]) [0, 1, 2, 3] (by decide) rfl
    exact me_retV hx hb hr hlk hK hS dX0_append_48 hP9 hD9
  · have b4 := me_b1 b4
    exfalso
    omega
set_option maxHeartbeats 4000000 in
set_option maxRecDepth 100000 in
theorem c_bu_newest (l : Launch) (D : va_G) (cI cZ cR : ClassId) (a : Nat → Nat) (ro : Nat) (K : st_T) (wi oi : Int32) (hh : K 7 0 = nI (st_h K)) (hb1 : st_h K ≤ ro) (hro : ro ≤ 8) : me_I l yX0_newestValue wsX0_newestValue ({ frames := 0, cells := 0, slots := 0, locals := 0 } : Room) D (me_TYS cI cZ cR) ([.ref (a 6), .int (wi), .int (oi)] : List Value) (w_bu a cI ro K) (st_nv K wi oi (st_h K)) (w_bu a cI ro K) := by
  intro sz
  refine me_ent (cc := cX0_newestValue) (maxL := 4) (ret := (some .int)) (Qf := me_QI D (me_TYS cI cZ cR) (st_nv K wi oi (st_h K)) (w_bu a cI ro K)) (by decide) rfl (Nat.le_of_ble_eq_true rfl) ?_
  intro p e s m below meth c A ls hx hb hr hml hts hown hlk hin hP hK hD hN hA hS hl
  have hown : s.vm.findClass RX0 = some m.cls := hown
  have hg : ∀ w9 ∈ bg, w9.before ([.ref (a 6), .int (wi), .int (oi)] : List Value).toArray s = true := fun w9 h9 => hts w9 (List.mem_cons_of_mem _ h9)
  have hl : lv_has ls 4 [(0, .ref (a 6)), (1, .int (wi)), (2, .int (oi))] := hl
  have hP : va_P D vwCl [(a 6, .inr (0, [.ref (a 7), .ref (a 8), .ref (a 9), .int (K 7 0)])), (a 7, .inl (cI, ro, .inl (K 8))), (a 8, .inl (cI, ro, .inl (K 9))), (a 9, .inl (cI, ro, .inl (K 10)))] s.heap := hP
  have hD : va_D A [(a 6, .inr (0, [.ref (a 7), .ref (a 8), .ref (a 9), .int (K 7 0)])), (a 7, .inl (cI, ro, .inl (K 8))), (a 8, .inl (cI, ro, .inl (K 9))), (a 9, .inl (cI, ro, .inl (K 10)))] := hD
  refine lv_aload_n hx hb dX0_newestValue_0 rfl (lv_at hl 0 rfl) ?_
  refine va_get (D := D) (ci := 0) (v := .int (K 7 0)) (C := RX0) (T := TX0) (N := 4) hx hb hg inX0 hown hK hP 0 rfl rfl 3 (by decide) (hg _ bw_1_55) (fun _ h9 => h9) rfl dX0_newestValue_1 ?_
  refine me_t (x := K 7 0) (y := nI (st_h K)) (hh) ?_
  refine lv_iconst (v := 1) hx hb dX0_newestValue_4 (by decide) ?_
  refine lv_isub hx hb dX0_newestValue_5 ?_
  refine me_t (x := (nI (st_h K)) - 1) (y := nI (st_h K) - 1) (rfl) ?_
  refine lv_istore_n hx hb dX0_newestValue_6 rfl hl (by decide) rfl (fun ls hl => ?_)
  have hl : lv_has ls 4 [(3, .int (nI (st_h K) - 1)), (0, .ref (a 6)), (1, .int (wi)), (2, .int (oi))] := hl
  have loop7 : ∀ (d : Nat)  (H : Heap) (locs : List Loc) (ls : Array Slot), d ≤ st_h K → st_nv K wi oi (st_h K) = st_nv K wi oi d → va_P D vwCl [(a 6, .inr (0, [.ref (a 7), .ref (a 8), .ref (a 9), .int (K 7 0)])), (a 7, .inl (cI, ro, .inl (K 8))), (a 8, .inl (cI, ro, .inl (K 9))), (a 9, .inl (cI, ro, .inl (K 10)))] H → va_D A [(a 6, .inr (0, [.ref (a 7), .ref (a 8), .ref (a 9), .int (K 7 0)])), (a 7, .inl (cI, ro, .inl (K 8))), (a 8, .inl (cI, ro, .inl (K 9))), (a 9, .inl (cI, ro, .inl (K 10)))] → va_S A s.heap H locs → lv_has ls 4 [(0, .ref (a 6)), (1, .int (wi)), (2, .int (oi)), (3, .int (nI (d) - 1))] → W p l e ({ frames := 0, cells := 0, slots := 0, locals := 0 } : Room) s m ([.ref (a 6), .int (wi), .int (oi)] : List Value).toArray below meth c H locs 0 0 (MQ below (me_QI D (me_TYS cI cZ cR) (st_nv K wi oi (st_h K)) (w_bu a cI ro K) A) ([.ref (a 6), .int (wi), .int (oi)] : List Value).toArray s 0 0 A) (F0 m 7 ls []) := by
    intro d
    induction d with
    | zero =>
      intro  H locs ls h1 h2 hP hD hS hl
      have hP : va_P D vwCl [(a 6, .inr (0, [.ref (a 7), .ref (a 8), .ref (a 9), .int (K 7 0)])), (a 7, .inl (cI, ro, .inl (K 8))), (a 8, .inl (cI, ro, .inl (K 9))), (a 9, .inl (cI, ro, .inl (K 10)))] H := hP
      have hD : va_D A [(a 6, .inr (0, [.ref (a 7), .ref (a 8), .ref (a 9), .int (K 7 0)])), (a 7, .inl (cI, ro, .inl (K 8))), (a 8, .inl (cI, ro, .inl (K 9))), (a 9, .inl (cI, ro, .inl (K 10)))] := hD
      have hl : lv_has ls 4 [(0, .ref (a 6)), (1, .int (wi)), (2, .int (oi)), (3, .int (nI (0) - 1))] := hl
      refine lv_iload_n hx hb dX0_newestValue_7 rfl (lv_at hl 3 rfl) ?_
      refine me_t (x := nI (0) - 1) (y := (-1)) (by decide) ?_
      refine lv_if_lt (tgt := 43) hx hb dX0_newestValue_8 (by decide) (fun _ => ?_) (fun q => absurd (by decide) q)
      refine lv_iload_n hx hb dX0_newestValue_43 rfl (lv_at hl 2 rfl) ?_
      have hP9 := me_subP (ws' := [(a 6, .inr (0, [.ref (a 7), .ref (a 8), .ref (a 9), .int (K 7 0)])), (a 7, .inl (cI, ro, .inl (K 8))), (a 8, .inl (cI, ro, .inl (K 9))), (a 9, .inl (cI, ro, .inl (K 10)))]) hP [0, 1, 2, 3] rfl
      have hD9 := hD.sub (ws' := [(a 6, .inr (0, [.ref (a 7), .ref (a 8), .ref (a 9), .int (K 7 0)])), (a 7, .inl (cI, ro, .inl (K 8))), (a 8, .inl (cI, ro, .inl (K 9))), (a 9, .inl (cI, ro, .inl (K 10)))]) [0, 1, 2, 3] (by decide) rfl
      exact me_retI hx hb hr hlk hK hS dX0_newestValue_44 (h2.symm) hP9 hD9
    | succ d ih =>
      intro  H locs ls h1 h2 hP hD hS hl
      have hP : va_P D vwCl [(a 6, .inr (0, [.ref (a 7), .ref (a 8), .ref (a 9), .int (K 7 0)])), (a 7, .inl (cI, ro, .inl (K 8))), (a 8, .inl (cI, ro, .inl (K 9))), (a 9, .inl (cI, ro, .inl (K 10)))] H := hP
      have hD : va_D A [(a 6, .inr (0, [.ref (a 7), .ref (a 8), .ref (a 9), .int (K 7 0)])), (a 7, .inl (cI, ro, .inl (K 8))), (a 8, .inl (cI, ro, .inl (K 9))), (a 9, .inl (cI, ro, .inl (K 10)))] := hD
      have hl : lv_has ls 4 [(0, .ref (a 6)), (1, .int (wi)), (2, .int (oi)), (3, .int (nI (d + 1) - 1))] := hl
      refine lv_iload_n hx hb dX0_newestValue_7 rfl (lv_at hl 3 rfl) ?_
      refine me_t (x := nI (d + 1) - 1) (y := nI (d)) (nI_pred d) ?_
      refine lv_if_lt (tgt := 43) hx hb dX0_newestValue_8 (by decide) (fun b8 => ?_) (fun b8 => ?_)
      · have b8 := me_lt (a := d) (b := 0) (by omega) (by omega) b8
        exfalso
        omega
      · have b8 := me_nlt (a := d) (b := 0) (by omega) (by omega) b8
        refine lv_aload_n hx hb dX0_newestValue_11 rfl (lv_at hl 0 rfl) ?_
        refine va_get (D := D) (ci := 0) (v := .ref (a 7)) (C := RX0) (T := TX0) (N := 4) hx hb hg inX0 hown hK hP 0 rfl rfl 0 (by decide) (hg _ bw_1_49) (fun _ h9 => h9) rfl dX0_newestValue_12 ?_
        refine lv_iload_n hx hb dX0_newestValue_15 rfl (lv_at hl 3 rfl) ?_
        refine me_t (x := nI (d + 1) - 1) (y := nI (d)) (nI_pred d) ?_
        refine me_ild hx hb hK hP 1 0 rfl rfl (d) (rfl) (by omega) (by omega) dX0_newestValue_16 ?_
        refine lv_if_ne (tgt := 37) hx hb dX0_newestValue_17 (by decide) (fun b17 => ?_) (fun b17 => ?_)
        · refine lv_iinc (k := 3) (v := nI (d) - 1) hx hb dX0_newestValue_37 hl rfl (me_decm d) (by decide) rfl (fun ls hl => ?_)
          have hl : lv_has ls 4 [(3, .int (nI (d) - 1)), (0, .ref (a 6)), (1, .int (wi)), (2, .int (oi))] := hl
          refine lv_goto (tgt := 7) hx hb dX0_newestValue_40 (by decide) ?_
          have hP := me_subP (ws' := [(a 6, .inr (0, [.ref (a 7), .ref (a 8), .ref (a 9), .int (K 7 0)])), (a 7, .inl (cI, ro, .inl (K 8))), (a 8, .inl (cI, ro, .inl (K 9))), (a 9, .inl (cI, ro, .inl (K 10)))]) hP [0, 1, 2, 3] rfl
          have hD := hD.sub (ws' := [(a 6, .inr (0, [.ref (a 7), .ref (a 8), .ref (a 9), .int (K 7 0)])), (a 7, .inl (cI, ro, .inl (K 8))), (a 8, .inl (cI, ro, .inl (K 9))), (a 9, .inl (cI, ro, .inl (K 10)))]) [0, 1, 2, 3] (by decide) rfl
          have hP : va_P D vwCl [(a 6, .inr (0, [.ref (a 7), .ref (a 8), .ref (a 9), .int (K 7 0)])), (a 7, .inl (cI, ro, .inl (K 8))), (a 8, .inl (cI, ro, .inl (K 9))), (a 9, .inl (cI, ro, .inl (K 10)))] H := hP
          have hD : va_D A [(a 6, .inr (0, [.ref (a 7), .ref (a 8), .ref (a 9), .int (K 7 0)])), (a 7, .inl (cI, ro, .inl (K 8))), (a 8, .inl (cI, ro, .inl (K 9))), (a 9, .inl (cI, ro, .inl (K 10)))] := hD
          have hl := lv_sub (l' := [(0, .ref (a 6)), (1, .int (wi)), (2, .int (oi)), (3, .int (nI (d) - 1))]) hl [1, 2, 3, 0] rfl
          exact ih  _ _ _ (by omega) (h2.trans (me_swf (fun q => b17 q.1))) hP hD hS hl
        · refine lv_aload_n hx hb dX0_newestValue_20 rfl (lv_at hl 0 rfl) ?_
          refine va_get (D := D) (ci := 0) (v := .ref (a 8)) (C := RX0) (T := TX0) (N := 4) hx hb hg inX0 hown hK hP 0 rfl rfl 1 (by decide) (hg _ bw_1_51) (fun _ h9 => h9) rfl dX0_newestValue_21 ?_
          refine lv_iload_n hx hb dX0_newestValue_24 rfl (lv_at hl 3 rfl) ?_
          refine me_t (x := nI (d + 1) - 1) (y := nI (d)) (nI_pred d) ?_
          refine me_ild hx hb hK hP 2 0 rfl rfl (d) (rfl) (by omega) (by omega) dX0_newestValue_25 ?_
          refine lv_iload_n hx hb dX0_newestValue_26 rfl (lv_at hl 1 rfl) ?_
          refine lv_icmp_ne (tgt := 37) hx hb dX0_newestValue_27 (by decide) (fun b27 => ?_) (fun b27 => ?_)
          · refine lv_iinc (k := 3) (v := nI (d) - 1) hx hb dX0_newestValue_37 hl rfl (me_decm d) (by decide) rfl (fun ls hl => ?_)
            have hl : lv_has ls 4 [(3, .int (nI (d) - 1)), (0, .ref (a 6)), (1, .int (wi)), (2, .int (oi))] := hl
            refine lv_goto (tgt := 7) hx hb dX0_newestValue_40 (by decide) ?_
            have hP := me_subP (ws' := [(a 6, .inr (0, [.ref (a 7), .ref (a 8), .ref (a 9), .int (K 7 0)])), (a 7, .inl (cI, ro, .inl (K 8))), (a 8, .inl (cI, ro, .inl (K 9))), (a 9, .inl (cI, ro, .inl (K 10)))]) hP [0, 1, 2, 3] rfl
            have hD := hD.sub (ws' := [(a 6, .inr (0, [.ref (a 7), .ref (a 8), .ref (a 9), .int (K 7 0)])), (a 7, .inl (cI, ro, .inl (K 8))), (a 8, .inl (cI, ro, .inl (K 9))), (a 9, .inl (cI, ro, .inl (K 10)))]) [0, 1, 2, 3] (by decide) rfl
            have hP : va_P D vwCl [(a 6, .inr (0, [.ref (a 7), .ref (a 8), .ref (a 9), .int (K 7 0)])), (a 7, .inl (cI, ro, .inl (K 8))), (a 8, .inl (cI, ro, .inl (K 9))), (a 9, .inl (cI, ro, .inl (K 10)))] H := hP
            have hD : va_D A [(a 6, .inr (0, [.ref (a 7), .ref (a 8), .ref (a 9), .int (K 7 0)])), (a 7, .inl (cI, ro, .inl (K 8))), (a 8, .inl (cI, ro, .inl (K 9))), (a 9, .inl (cI, ro, .inl (K 10)))] := hD
            have hl := lv_sub (l' := [(0, .ref (a 6)), (1, .int (wi)), (2, .int (oi)), (3, .int (nI (d) - 1))]) hl [1, 2, 3, 0] rfl
            exact ih  _ _ _ (by omega) (h2.trans (me_swf (fun q => b27 q.2))) hP hD hS hl
          · refine lv_aload_n hx hb dX0_newestValue_30 rfl (lv_at hl 0 rfl) ?_
            refine va_get (D := D) (ci := 0) (v := .ref (a 9)) (C := RX0) (T := TX0) (N := 4) hx hb hg inX0 hown hK hP 0 rfl rfl 2 (by decide) (hg _ bw_1_53) (fun _ h9 => h9) rfl dX0_newestValue_31 ?_
            refine lv_iload_n hx hb dX0_newestValue_34 rfl (lv_at hl 3 rfl) ?_
            refine me_t (x := nI (d + 1) - 1) (y := nI (d)) (nI_pred d) ?_
            refine me_ild hx hb hK hP 3 0 rfl rfl (d) (rfl) (by omega) (by omega) dX0_newestValue_35 ?_
            have hP9 := me_subP (ws' := [(a 6, .inr (0, [.ref (a 7), .ref (a 8), .ref (a 9), .int (K 7 0)])), (a 7, .inl (cI, ro, .inl (K 8))), (a 8, .inl (cI, ro, .inl (K 9))), (a 9, .inl (cI, ro, .inl (K 10)))]) hP [0, 1, 2, 3] rfl
            have hD9 := hD.sub (ws' := [(a 6, .inr (0, [.ref (a 7), .ref (a 8), .ref (a 9), .int (K 7 0)])), (a 7, .inl (cI, ro, .inl (K 8))), (a 8, .inl (cI, ro, .inl (K 9))), (a 9, .inl (cI, ro, .inl (K 10)))]) [0, 1, 2, 3] (by decide) rfl
            exact me_retI hx hb hr hlk hK hS dX0_newestValue_36 ((h2.trans (me_swt ⟨b17, b27⟩)).symm) hP9 hD9
  have hP := me_subP (ws' := [(a 6, .inr (0, [.ref (a 7), .ref (a 8), .ref (a 9), .int (K 7 0)])), (a 7, .inl (cI, ro, .inl (K 8))), (a 8, .inl (cI, ro, .inl (K 9))), (a 9, .inl (cI, ro, .inl (K 10)))]) hP [0, 1, 2, 3] rfl
  have hD := hD.sub (ws' := [(a 6, .inr (0, [.ref (a 7), .ref (a 8), .ref (a 9), .int (K 7 0)])), (a 7, .inl (cI, ro, .inl (K 8))), (a 8, .inl (cI, ro, .inl (K 9))), (a 9, .inl (cI, ro, .inl (K 10)))]) [0, 1, 2, 3] (by decide) rfl
  have hP : va_P D vwCl [(a 6, .inr (0, [.ref (a 7), .ref (a 8), .ref (a 9), .int (K 7 0)])), (a 7, .inl (cI, ro, .inl (K 8))), (a 8, .inl (cI, ro, .inl (K 9))), (a 9, .inl (cI, ro, .inl (K 10)))] s.heap := hP
  have hD : va_D A [(a 6, .inr (0, [.ref (a 7), .ref (a 8), .ref (a 9), .int (K 7 0)])), (a 7, .inl (cI, ro, .inl (K 8))), (a 8, .inl (cI, ro, .inl (K 9))), (a 9, .inl (cI, ro, .inl (K 10)))] := hD
  have hl := lv_sub (l' := [(0, .ref (a 6)), (1, .int (wi)), (2, .int (oi)), (3, .int (nI (st_h K) - 1))]) hl [1, 2, 3, 0] rfl
  exact loop7 (st_h K) _ _ _ (Nat.le_refl _) (rfl) hP hD hS hl
set_option maxHeartbeats 4000000 in
set_option maxRecDepth 100000 in
theorem c_bu_lineOf (l : Launch) (D : va_G) (cI cZ cR : ClassId) (a : Nat → Nat) (ro : Nat) (K : st_T) (k : Nat) (hk : k < ro) (hro : ro ≤ 8) : me_I l yX0_lineOf wsX0_lineOf ({ frames := 0, cells := 0, slots := 0, locals := 0 } : Room) D (me_TYS cI cZ cR) ([.ref (a 6), .int (nI (k))] : List Value) (w_bu a cI ro K) (st_ln K k) (w_bu a cI ro K) := by
  intro sz
  refine me_ent (cc := cX0_lineOf) (maxL := 2) (ret := (some .int)) (Qf := me_QI D (me_TYS cI cZ cR) (st_ln K k) (w_bu a cI ro K)) (by decide) rfl (Nat.le_of_ble_eq_true rfl) ?_
  intro p e s m below meth c A ls hx hb hr hml hts hown hlk hin hP hK hD hN hA hS hl
  have hown : s.vm.findClass RX0 = some m.cls := hown
  have hg : ∀ w9 ∈ bg, w9.before ([.ref (a 6), .int (nI (k))] : List Value).toArray s = true := fun w9 h9 => hts w9 (List.mem_cons_of_mem _ h9)
  have hl : lv_has ls 2 [(0, .ref (a 6)), (1, .int (nI (k)))] := hl
  have hP : va_P D vwCl [(a 6, .inr (0, [.ref (a 7), .ref (a 8), .ref (a 9), .int (K 7 0)])), (a 7, .inl (cI, ro, .inl (K 8))), (a 8, .inl (cI, ro, .inl (K 9))), (a 9, .inl (cI, ro, .inl (K 10)))] s.heap := hP
  have hD : va_D A [(a 6, .inr (0, [.ref (a 7), .ref (a 8), .ref (a 9), .int (K 7 0)])), (a 7, .inl (cI, ro, .inl (K 8))), (a 8, .inl (cI, ro, .inl (K 9))), (a 9, .inl (cI, ro, .inl (K 10)))] := hD
  refine lv_aload_n hx hb dX0_lineOf_0 rfl (lv_at hl 0 rfl) ?_
  refine va_get (D := D) (ci := 0) (v := .ref (a 7)) (C := RX0) (T := TX0) (N := 4) hx hb hg inX0 hown hK hP 0 rfl rfl 0 (by decide) (hg _ bw_1_49) (fun _ h9 => h9) rfl dX0_lineOf_1 ?_
  refine lv_iload_n hx hb dX0_lineOf_4 rfl (lv_at hl 1 rfl) ?_
  refine me_ild hx hb hK hP 1 0 rfl rfl (k) (rfl) (by omega) (by omega) dX0_lineOf_5 ?_
  refine lv_if_ne (tgt := 20) hx hb dX0_lineOf_6 (by decide) (fun b6 => ?_) (fun b6 => ?_)
  · refine lv_aload_n hx hb dX0_lineOf_20 rfl (lv_at hl 0 rfl) ?_
    refine va_get (D := D) (ci := 0) (v := .ref (a 8)) (C := RX0) (T := TX0) (N := 4) hx hb hg inX0 hown hK hP 0 rfl rfl 1 (by decide) (hg _ bw_1_51) (fun _ h9 => h9) rfl dX0_lineOf_21 ?_
    refine lv_iload_n hx hb dX0_lineOf_24 rfl (lv_at hl 1 rfl) ?_
    refine me_ild hx hb hK hP 2 0 rfl rfl (k) (rfl) (by omega) (by omega) dX0_lineOf_25 ?_
    have hP9 := me_subP (ws' := [(a 6, .inr (0, [.ref (a 7), .ref (a 8), .ref (a 9), .int (K 7 0)])), (a 7, .inl (cI, ro, .inl (K 8))), (a 8, .inl (cI, ro, .inl (K 9))), (a 9, .inl (cI, ro, .inl (K 10)))]) hP [0, 1, 2, 3] rfl
    have hD9 := hD.sub (ws' := [(a 6, .inr (0, [.ref (a 7), .ref (a 8), .ref (a 9), .int (K 7 0)])), (a 7, .inl (cI, ro, .inl (K 8))), (a 8, .inl (cI, ro, .inl (K 9))), (a 9, .inl (cI, ro, .inl (K 10)))]) [0, 1, 2, 3] (by decide) rfl
    exact me_retI hx hb hr hlk hK hS dX0_lineOf_26 ((me_swf b6).symm) hP9 hD9
  · refine lv_aload_n hx hb dX0_lineOf_9 rfl (lv_at hl 0 rfl) ?_
    refine va_get (D := D) (ci := 0) (v := .ref (a 8)) (C := RX0) (T := TX0) (N := 4) hx hb hg inX0 hown hK hP 0 rfl rfl 1 (by decide) (hg _ bw_1_51) (fun _ h9 => h9) rfl dX0_lineOf_10 ?_
    refine lv_iload_n hx hb dX0_lineOf_13 rfl (lv_at hl 1 rfl) ?_
    refine me_ild hx hb hK hP 2 0 rfl rfl (k) (rfl) (by omega) (by omega) dX0_lineOf_14 ?_
    refine lv_iconst (v := 4) hx hb dX0_lineOf_15 (by decide) ?_
    refine lv_idiv hx hb dX0_lineOf_16 (by decide) ?_
    refine lv_goto (tgt := 26) hx hb dX0_lineOf_17 (by decide) ?_
    have hP9 := me_subP (ws' := [(a 6, .inr (0, [.ref (a 7), .ref (a 8), .ref (a 9), .int (K 7 0)])), (a 7, .inl (cI, ro, .inl (K 8))), (a 8, .inl (cI, ro, .inl (K 9))), (a 9, .inl (cI, ro, .inl (K 10)))]) hP [0, 1, 2, 3] rfl
    have hD9 := hD.sub (ws' := [(a 6, .inr (0, [.ref (a 7), .ref (a 8), .ref (a 9), .int (K 7 0)])), (a 7, .inl (cI, ro, .inl (K 8))), (a 8, .inl (cI, ro, .inl (K 9))), (a 9, .inl (cI, ro, .inl (K 10)))]) [0, 1, 2, 3] (by decide) rfl
    exact me_retI hx hb hr hlk hK hS dX0_lineOf_26 ((me_swt b6).symm) hP9 hD9
set_option maxHeartbeats 4000000 in
set_option maxRecDepth 100000 in
theorem c_bu_letsPass (l : Launch) (D : va_G) (cI cZ cR : ClassId) (a : Nat → Nat) (ro : Nat) (K : st_T) (o k : Nat) (ho : o < ro) (hk : k < ro) (hro : ro ≤ 8) : me_I l yX0_letsPass wsX0_letsPass ({ frames := 1, cells := 0, slots := 0, locals := 21 } : Room) D (me_TYS cI cZ cR) ([.ref (a 6), .int (nI (o)), .int (nI (k))] : List Value) (w_bu a cI ro K) (me_b (st_pa K o k)) (w_bu a cI ro K) := by
  intro sz
  refine me_ent (cc := cX0_letsPass) (maxL := 5) (ret := (some .boolean)) (Qf := me_QI D (me_TYS cI cZ cR) (me_b (st_pa K o k)) (w_bu a cI ro K)) (by decide) rfl (Nat.le_of_ble_eq_true rfl) ?_
  intro p e s m below meth c A ls hx hb hr hml hts hown hlk hin hP hK hD hN hA hS hl
  have hown : s.vm.findClass RX0 = some m.cls := hown
  have hg : ∀ w9 ∈ bg, w9.before ([.ref (a 6), .int (nI (o)), .int (nI (k))] : List Value).toArray s = true := fun w9 h9 => hts w9 (List.mem_cons_of_mem _ h9)
  have hl : lv_has ls 5 [(0, .ref (a 6)), (1, .int (nI (o))), (2, .int (nI (k)))] := hl
  have hP : va_P D vwCl [(a 6, .inr (0, [.ref (a 7), .ref (a 8), .ref (a 9), .int (K 7 0)])), (a 7, .inl (cI, ro, .inl (K 8))), (a 8, .inl (cI, ro, .inl (K 9))), (a 9, .inl (cI, ro, .inl (K 10)))] s.heap := hP
  have hD : va_D A [(a 6, .inr (0, [.ref (a 7), .ref (a 8), .ref (a 9), .int (K 7 0)])), (a 7, .inl (cI, ro, .inl (K 8))), (a 8, .inl (cI, ro, .inl (K 9))), (a 9, .inl (cI, ro, .inl (K 10)))] := hD
  refine lv_aload_n hx hb dX0_letsPass_0 rfl (lv_at hl 0 rfl) ?_
  refine va_get (D := D) (ci := 0) (v := .ref (a 7)) (C := RX0) (T := TX0) (N := 4) hx hb hg inX0 hown hK hP 0 rfl rfl 0 (by decide) (hg _ bw_1_49) (fun _ h9 => h9) rfl dX0_letsPass_1 ?_
  refine lv_iload_n hx hb dX0_letsPass_4 rfl (lv_at hl 1 rfl) ?_
  refine me_ild hx hb hK hP 1 0 rfl rfl (o) (rfl) (by omega) (by omega) dX0_letsPass_5 ?_
  refine lv_istore_n hx hb dX0_letsPass_6 rfl hl (by decide) rfl (fun ls hl => ?_)
  have hl : lv_has ls 5 [(3, .int (K 8 o)), (0, .ref (a 6)), (1, .int (nI (o))), (2, .int (nI (k)))] := hl
  refine lv_aload_n hx hb dX0_letsPass_7 rfl (lv_at hl 1 rfl) ?_
  refine va_get (D := D) (ci := 0) (v := .ref (a 7)) (C := RX0) (T := TX0) (N := 4) hx hb hg inX0 hown hK hP 0 rfl rfl 0 (by decide) (hg _ bw_1_49) (fun _ h9 => h9) rfl dX0_letsPass_8 ?_
  refine lv_iload_n hx hb dX0_letsPass_11 rfl (lv_at hl 3 rfl) ?_
  refine me_ild hx hb hK hP 1 0 rfl rfl (k) (rfl) (by omega) (by omega) dX0_letsPass_12 ?_
  refine lv_istore hx hb dX0_letsPass_13 hl (by decide) rfl (fun ls hl => ?_)
  have hl : lv_has ls 5 [(4, .int (K 8 k)), (3, .int (K 8 o)), (0, .ref (a 6)), (1, .int (nI (o))), (2, .int (nI (k)))] := hl
  refine lv_iload_n hx hb dX0_letsPass_15 rfl (lv_at hl 1 rfl) ?_
  refine lv_iconst (v := 3) hx hb dX0_letsPass_16 (by decide) ?_
  refine lv_icmp_eq (tgt := 26) hx hb dX0_letsPass_17 (by decide) (fun b17 => ?_) (fun b17 => ?_)
  · refine lv_iconst (v := 0) hx hb dX0_letsPass_26 (by decide) ?_
    have hP9 := me_subP (ws' := [(a 6, .inr (0, [.ref (a 7), .ref (a 8), .ref (a 9), .int (K 7 0)])), (a 7, .inl (cI, ro, .inl (K 8))), (a 8, .inl (cI, ro, .inl (K 9))), (a 9, .inl (cI, ro, .inl (K 10)))]) hP [0, 1, 2, 3] rfl
    have hD9 := hD.sub (ws' := [(a 6, .inr (0, [.ref (a 7), .ref (a 8), .ref (a 9), .int (K 7 0)])), (a 7, .inl (cI, ro, .inl (K 8))), (a 8, .inl (cI, ro, .inl (K 9))), (a 9, .inl (cI, ro, .inl (K 10)))]) [0, 1, 2, 3] (by decide) rfl
    exact me_retZ hx hb hr hlk hK hS dX0_letsPass_27 (rfl) ((me_bf (by unfold st_pa; simp [b17])).symm) hP9 hD9
  · refine lv_iload hx hb dX0_letsPass_20 (lv_at hl 0 rfl) ?_
    refine lv_iconst (v := 3) hx hb dX0_letsPass_22 (by decide) ?_
    refine lv_icmp_ne (tgt := 28) hx hb dX0_letsPass_23 (by decide) (fun b23 => ?_) (fun b23 => ?_)
    · refine lv_iload_n hx hb dX0_letsPass_28 rfl (lv_at hl 1 rfl) ?_
      refine lv_iconst (v := 2) hx hb dX0_letsPass_29 (by decide) ?_
      refine lv_icmp_ne (tgt := 41) hx hb dX0_letsPass_30 (by decide) (fun b30 => ?_) (fun b30 => ?_)
      · refine lv_iload_n hx hb dX0_letsPass_41 rfl (lv_at hl 1 rfl) ?_
        refine lv_iconst (v := 2) hx hb dX0_letsPass_42 (by decide) ?_
        refine lv_icmp_eq (tgt := 52) hx hb dX0_letsPass_43 (by decide) (fun q => absurd q b30) (fun _ => ?_)
        refine lv_iload hx hb dX0_letsPass_46 (lv_at hl 0 rfl) ?_
        refine lv_iconst (v := 2) hx hb dX0_letsPass_48 (by decide) ?_
        refine lv_icmp_ne (tgt := 69) hx hb dX0_letsPass_49 (by decide) (fun b49 => ?_) (fun b49 => ?_)
        · refine lv_iconst (v := 0) hx hb dX0_letsPass_69 (by decide) ?_
          have hP9 := me_subP (ws' := [(a 6, .inr (0, [.ref (a 7), .ref (a 8), .ref (a 9), .int (K 7 0)])), (a 7, .inl (cI, ro, .inl (K 8))), (a 8, .inl (cI, ro, .inl (K 9))), (a 9, .inl (cI, ro, .inl (K 10)))]) hP [0, 1, 2, 3] rfl
          have hD9 := hD.sub (ws' := [(a 6, .inr (0, [.ref (a 7), .ref (a 8), .ref (a 9), .int (K 7 0)])), (a 7, .inl (cI, ro, .inl (K 8))), (a 8, .inl (cI, ro, .inl (K 9))), (a 9, .inl (cI, ro, .inl (K 10)))]) [0, 1, 2, 3] (by decide) rfl
          exact me_retZ hx hb hr hlk hK hS dX0_letsPass_70 (rfl) ((me_bf (by unfold st_pa; simp [b17, b23, b30, b49])).symm) hP9 hD9
        · refine lv_aload_n hx hb dX0_letsPass_52 rfl (lv_at hl 2 rfl) ?_
          refine lv_iload_n hx hb dX0_letsPass_53 rfl (lv_at hl 3 rfl) ?_
          refine me_goI (wr := []) (wc := [(a 6, .inr (0, [.ref (a 7), .ref (a 8), .ref (a 9), .int (K 7 0)])), (a 7, .inl (cI, ro, .inl (K 8))), (a 8, .inl (cI, ro, .inl (K 9))), (a 9, .inl (cI, ro, .inl (K 10)))]) (w1 := [(a 6, .inr (0, [.ref (a 7), .ref (a 8), .ref (a 9), .int (K 7 0)])), (a 7, .inl (cI, ro, .inl (K 8))), (a 8, .inl (cI, ro, .inl (K 9))), (a 9, .inl (cI, ro, .inl (K 10)))]) (va_runV (C := RX0) (b := a 6) (As := [.int (nI (o))]) (rest := []) ⟨hx, hb, hml, hown, hg⟩ (c_bu_lineOf l D cI cZ cR a ro K o ho hro s.heap.size) (cwV 1 hg (bg_gV (fun _ h => h) bw_1_186 bw_1_188 bw_s_14 bw_1_4 bw_1_189) rfl rfl rfl (by decide +kernel) ⟨Nat.le_of_ble_eq_true rfl, Nat.le_of_ble_eq_true rfl⟩) (me_preV (wc := [(a 6, .inr (0, [.ref (a 7), .ref (a 8), .ref (a 9), .int (K 7 0)])), (a 7, .inl (cI, ro, .inl (K 8))), (a 8, .inl (cI, ro, .inl (K 9))), (a 9, .inl (cI, ro, .inl (K 10)))]) hP hD hK hN [0, 1, 2, 3] rfl (by decide) (va_recv (q0 := 0) (ci := 0) hK hP rfl rfl)) rfl rfl hl.1 rfl (lv_room (Nat.le_of_ble_eq_true rfl)) dX0_letsPass_54 ⟨Nat.zero_le _, Nat.zero_le _⟩) hP hD hS hA [0, 1, 2, 3] [] rfl rfl (by decide) (by decide) (fun H locs hP hD hS => ?_)
          have hP : va_P D vwCl [(a 6, .inr (0, [.ref (a 7), .ref (a 8), .ref (a 9), .int (K 7 0)])), (a 7, .inl (cI, ro, .inl (K 8))), (a 8, .inl (cI, ro, .inl (K 9))), (a 9, .inl (cI, ro, .inl (K 10)))] H := hP
          have hD : va_D A [(a 6, .inr (0, [.ref (a 7), .ref (a 8), .ref (a 9), .int (K 7 0)])), (a 7, .inl (cI, ro, .inl (K 8))), (a 8, .inl (cI, ro, .inl (K 9))), (a 9, .inl (cI, ro, .inl (K 10)))] := hD
          refine lv_aload_n hx hb dX0_letsPass_57 rfl (lv_at hl 2 rfl) ?_
          refine lv_iload_n hx hb dX0_letsPass_58 rfl (lv_at hl 4 rfl) ?_
          refine me_goI (wr := []) (wc := [(a 6, .inr (0, [.ref (a 7), .ref (a 8), .ref (a 9), .int (K 7 0)])), (a 7, .inl (cI, ro, .inl (K 8))), (a 8, .inl (cI, ro, .inl (K 9))), (a 9, .inl (cI, ro, .inl (K 10)))]) (w1 := [(a 6, .inr (0, [.ref (a 7), .ref (a 8), .ref (a 9), .int (K 7 0)])), (a 7, .inl (cI, ro, .inl (K 8))), (a 8, .inl (cI, ro, .inl (K 9))), (a 9, .inl (cI, ro, .inl (K 10)))]) (va_runV (C := RX0) (b := a 6) (As := [.int (nI (k))]) (rest := [.int (st_ln K o)]) ⟨hx, hb, hml, hown, hg⟩ (c_bu_lineOf l D cI cZ cR a ro K k hk hro H.size) (cwV 1 hg (bg_gV (fun _ h => h) bw_1_186 bw_1_188 bw_s_14 bw_1_4 bw_1_189) rfl rfl rfl (by decide +kernel) ⟨Nat.le_of_ble_eq_true rfl, Nat.le_of_ble_eq_true rfl⟩) (me_preV (wc := [(a 6, .inr (0, [.ref (a 7), .ref (a 8), .ref (a 9), .int (K 7 0)])), (a 7, .inl (cI, ro, .inl (K 8))), (a 8, .inl (cI, ro, .inl (K 9))), (a 9, .inl (cI, ro, .inl (K 10)))]) hP hD hK hN [0, 1, 2, 3] rfl (by decide) (va_recv (q0 := 0) (ci := 0) hK hP rfl rfl)) rfl rfl hl.1 rfl (lv_room (Nat.le_of_ble_eq_true rfl)) dX0_letsPass_59 ⟨Nat.zero_le _, Nat.zero_le _⟩) hP hD hS hA [0, 1, 2, 3] [] rfl rfl (by decide) (by decide) (fun H locs hP hD hS => ?_)
          have hP : va_P D vwCl [(a 6, .inr (0, [.ref (a 7), .ref (a 8), .ref (a 9), .int (K 7 0)])), (a 7, .inl (cI, ro, .inl (K 8))), (a 8, .inl (cI, ro, .inl (K 9))), (a 9, .inl (cI, ro, .inl (K 10)))] H := hP
          have hD : va_D A [(a 6, .inr (0, [.ref (a 7), .ref (a 8), .ref (a 9), .int (K 7 0)])), (a 7, .inl (cI, ro, .inl (K 8))), (a 8, .inl (cI, ro, .inl (K 9))), (a 9, .inl (cI, ro, .inl (K 10)))] := hD
          refine lv_icmp_eq (tgt := 69) hx hb dX0_letsPass_62 (by decide) (fun b62 => ?_) (fun b62 => ?_)
          · refine lv_iconst (v := 0) hx hb dX0_letsPass_69 (by decide) ?_
            have hP9 := me_subP (ws' := [(a 6, .inr (0, [.ref (a 7), .ref (a 8), .ref (a 9), .int (K 7 0)])), (a 7, .inl (cI, ro, .inl (K 8))), (a 8, .inl (cI, ro, .inl (K 9))), (a 9, .inl (cI, ro, .inl (K 10)))]) hP [0, 1, 2, 3] rfl
            have hD9 := hD.sub (ws' := [(a 6, .inr (0, [.ref (a 7), .ref (a 8), .ref (a 9), .int (K 7 0)])), (a 7, .inl (cI, ro, .inl (K 8))), (a 8, .inl (cI, ro, .inl (K 9))), (a 9, .inl (cI, ro, .inl (K 10)))]) [0, 1, 2, 3] (by decide) rfl
            exact me_retZ hx hb hr hlk hK hS dX0_letsPass_70 (rfl) ((me_bf (by unfold st_pa; simp [b17, b23, b30, b49, b62])).symm) hP9 hD9
          · refine lv_iconst (v := 1) hx hb dX0_letsPass_65 (by decide) ?_
            refine lv_goto (tgt := 70) hx hb dX0_letsPass_66 (by decide) ?_
            have hP9 := me_subP (ws' := [(a 6, .inr (0, [.ref (a 7), .ref (a 8), .ref (a 9), .int (K 7 0)])), (a 7, .inl (cI, ro, .inl (K 8))), (a 8, .inl (cI, ro, .inl (K 9))), (a 9, .inl (cI, ro, .inl (K 10)))]) hP [0, 1, 2, 3] rfl
            have hD9 := hD.sub (ws' := [(a 6, .inr (0, [.ref (a 7), .ref (a 8), .ref (a 9), .int (K 7 0)])), (a 7, .inl (cI, ro, .inl (K 8))), (a 8, .inl (cI, ro, .inl (K 9))), (a 9, .inl (cI, ro, .inl (K 10)))]) [0, 1, 2, 3] (by decide) rfl
            exact me_retZ hx hb hr hlk hK hS dX0_letsPass_70 (rfl) ((me_bt (by unfold st_pa; simp [b17, b23, b30, b49, b62])).symm) hP9 hD9
      · refine lv_iload hx hb dX0_letsPass_33 (lv_at hl 0 rfl) ?_
        refine lv_iconst (v := 1) hx hb dX0_letsPass_35 (by decide) ?_
        refine lv_icmp_eq (tgt := 41) hx hb dX0_letsPass_36 (by decide) (fun b36 => ?_) (fun b36 => ?_)
        · refine lv_iload_n hx hb dX0_letsPass_41 rfl (lv_at hl 1 rfl) ?_
          refine lv_iconst (v := 2) hx hb dX0_letsPass_42 (by decide) ?_
          refine lv_icmp_eq (tgt := 52) hx hb dX0_letsPass_43 (by decide) (fun _ => ?_) (fun q => absurd b30 q)
          refine lv_aload_n hx hb dX0_letsPass_52 rfl (lv_at hl 2 rfl) ?_
          refine lv_iload_n hx hb dX0_letsPass_53 rfl (lv_at hl 3 rfl) ?_
          refine me_goI (wr := []) (wc := [(a 6, .inr (0, [.ref (a 7), .ref (a 8), .ref (a 9), .int (K 7 0)])), (a 7, .inl (cI, ro, .inl (K 8))), (a 8, .inl (cI, ro, .inl (K 9))), (a 9, .inl (cI, ro, .inl (K 10)))]) (w1 := [(a 6, .inr (0, [.ref (a 7), .ref (a 8), .ref (a 9), .int (K 7 0)])), (a 7, .inl (cI, ro, .inl (K 8))), (a 8, .inl (cI, ro, .inl (K 9))), (a 9, .inl (cI, ro, .inl (K 10)))]) (va_runV (C := RX0) (b := a 6) (As := [.int (nI (o))]) (rest := []) ⟨hx, hb, hml, hown, hg⟩ (c_bu_lineOf l D cI cZ cR a ro K o ho hro s.heap.size) (cwV 1 hg (bg_gV (fun _ h => h) bw_1_186 bw_1_188 bw_s_14 bw_1_4 bw_1_189) rfl rfl rfl (by decide +kernel) ⟨Nat.le_of_ble_eq_true rfl, Nat.le_of_ble_eq_true rfl⟩) (me_preV (wc := [(a 6, .inr (0, [.ref (a 7), .ref (a 8), .ref (a 9), .int (K 7 0)])), (a 7, .inl (cI, ro, .inl (K 8))), (a 8, .inl (cI, ro, .inl (K 9))), (a 9, .inl (cI, ro, .inl (K 10)))]) hP hD hK hN [0, 1, 2, 3] rfl (by decide) (va_recv (q0 := 0) (ci := 0) hK hP rfl rfl)) rfl rfl hl.1 rfl (lv_room (Nat.le_of_ble_eq_true rfl)) dX0_letsPass_54 ⟨Nat.zero_le _, Nat.zero_le _⟩) hP hD hS hA [0, 1, 2, 3] [] rfl rfl (by decide) (by decide) (fun H locs hP hD hS => ?_)
          have hP : va_P D vwCl [(a 6, .inr (0, [.ref (a 7), .ref (a 8), .ref (a 9), .int (K 7 0)])), (a 7, .inl (cI, ro, .inl (K 8))), (a 8, .inl (cI, ro, .inl (K 9))), (a 9, .inl (cI, ro, .inl (K 10)))] H := hP
          have hD : va_D A [(a 6, .inr (0, [.ref (a 7), .ref (a 8), .ref (a 9), .int (K 7 0)])), (a 7, .inl (cI, ro, .inl (K 8))), (a 8, .inl (cI, ro, .inl (K 9))), (a 9, .inl (cI, ro, .inl (K 10)))] := hD
          refine lv_aload_n hx hb dX0_letsPass_57 rfl (lv_at hl 2 rfl) ?_
          refine lv_iload_n hx hb dX0_letsPass_58 rfl (lv_at hl 4 rfl) ?_
          refine me_goI (wr := []) (wc := [(a 6, .inr (0, [.ref (a 7), .ref (a 8), .ref (a 9), .int (K 7 0)])), (a 7, .inl (cI, ro, .inl (K 8))), (a 8, .inl (cI, ro, .inl (K 9))), (a 9, .inl (cI, ro, .inl (K 10)))]) (w1 := [(a 6, .inr (0, [.ref (a 7), .ref (a 8), .ref (a 9), .int (K 7 0)])), (a 7, .inl (cI, ro, .inl (K 8))), (a 8, .inl (cI, ro, .inl (K 9))), (a 9, .inl (cI, ro, .inl (K 10)))]) (va_runV (C := RX0) (b := a 6) (As := [.int (nI (k))]) (rest := [.int (st_ln K o)]) ⟨hx, hb, hml, hown, hg⟩ (c_bu_lineOf l D cI cZ cR a ro K k hk hro H.size) (cwV 1 hg (bg_gV (fun _ h => h) bw_1_186 bw_1_188 bw_s_14 bw_1_4 bw_1_189) rfl rfl rfl (by decide +kernel) ⟨Nat.le_of_ble_eq_true rfl, Nat.le_of_ble_eq_true rfl⟩) (me_preV (wc := [(a 6, .inr (0, [.ref (a 7), .ref (a 8), .ref (a 9), .int (K 7 0)])), (a 7, .inl (cI, ro, .inl (K 8))), (a 8, .inl (cI, ro, .inl (K 9))), (a 9, .inl (cI, ro, .inl (K 10)))]) hP hD hK hN [0, 1, 2, 3] rfl (by decide) (va_recv (q0 := 0) (ci := 0) hK hP rfl rfl)) rfl rfl hl.1 rfl (lv_room (Nat.le_of_ble_eq_true rfl)) dX0_letsPass_59 ⟨Nat.zero_le _, Nat.zero_le _⟩) hP hD hS hA [0, 1, 2, 3] [] rfl rfl (by decide) (by decide) (fun H locs hP hD hS => ?_)
          have hP : va_P D vwCl [(a 6, .inr (0, [.ref (a 7), .ref (a 8), .ref (a 9), .int (K 7 0)])), (a 7, .inl (cI, ro, .inl (K 8))), (a 8, .inl (cI, ro, .inl (K 9))), (a 9, .inl (cI, ro, .inl (K 10)))] H := hP
          have hD : va_D A [(a 6, .inr (0, [.ref (a 7), .ref (a 8), .ref (a 9), .int (K 7 0)])), (a 7, .inl (cI, ro, .inl (K 8))), (a 8, .inl (cI, ro, .inl (K 9))), (a 9, .inl (cI, ro, .inl (K 10)))] := hD
          refine lv_icmp_eq (tgt := 69) hx hb dX0_letsPass_62 (by decide) (fun b62 => ?_) (fun b62 => ?_)
          · refine lv_iconst (v := 0) hx hb dX0_letsPass_69 (by decide) ?_
            have hP9 := me_subP (ws' := [(a 6, .inr (0, [.ref (a 7), .ref (a 8), .ref (a 9), .int (K 7 0)])), (a 7, .inl (cI, ro, .inl (K 8))), (a 8, .inl (cI, ro, .inl (K 9))), (a 9, .inl (cI, ro, .inl (K 10)))]) hP [0, 1, 2, 3] rfl
            have hD9 := hD.sub (ws' := [(a 6, .inr (0, [.ref (a 7), .ref (a 8), .ref (a 9), .int (K 7 0)])), (a 7, .inl (cI, ro, .inl (K 8))), (a 8, .inl (cI, ro, .inl (K 9))), (a 9, .inl (cI, ro, .inl (K 10)))]) [0, 1, 2, 3] (by decide) rfl
            exact me_retZ hx hb hr hlk hK hS dX0_letsPass_70 (rfl) ((me_bf (by unfold st_pa; simp [b17, b23, b30, b36, b62])).symm) hP9 hD9
          · refine lv_iconst (v := 1) hx hb dX0_letsPass_65 (by decide) ?_
            refine lv_goto (tgt := 70) hx hb dX0_letsPass_66 (by decide) ?_
            have hP9 := me_subP (ws' := [(a 6, .inr (0, [.ref (a 7), .ref (a 8), .ref (a 9), .int (K 7 0)])), (a 7, .inl (cI, ro, .inl (K 8))), (a 8, .inl (cI, ro, .inl (K 9))), (a 9, .inl (cI, ro, .inl (K 10)))]) hP [0, 1, 2, 3] rfl
            have hD9 := hD.sub (ws' := [(a 6, .inr (0, [.ref (a 7), .ref (a 8), .ref (a 9), .int (K 7 0)])), (a 7, .inl (cI, ro, .inl (K 8))), (a 8, .inl (cI, ro, .inl (K 9))), (a 9, .inl (cI, ro, .inl (K 10)))]) [0, 1, 2, 3] (by decide) rfl
            exact me_retZ hx hb hr hlk hK hS dX0_letsPass_70 (rfl) ((me_bt (by unfold st_pa; simp [b17, b23, b30, b36, b62])).symm) hP9 hD9
        · refine lv_iconst (v := 1) hx hb dX0_letsPass_39 (by decide) ?_
          have hP9 := me_subP (ws' := [(a 6, .inr (0, [.ref (a 7), .ref (a 8), .ref (a 9), .int (K 7 0)])), (a 7, .inl (cI, ro, .inl (K 8))), (a 8, .inl (cI, ro, .inl (K 9))), (a 9, .inl (cI, ro, .inl (K 10)))]) hP [0, 1, 2, 3] rfl
          have hD9 := hD.sub (ws' := [(a 6, .inr (0, [.ref (a 7), .ref (a 8), .ref (a 9), .int (K 7 0)])), (a 7, .inl (cI, ro, .inl (K 8))), (a 8, .inl (cI, ro, .inl (K 9))), (a 9, .inl (cI, ro, .inl (K 10)))]) [0, 1, 2, 3] (by decide) rfl
          exact me_retZ hx hb hr hlk hK hS dX0_letsPass_40 (rfl) ((me_bt (by unfold st_pa; simp [b17, b23, b30, b36])).symm) hP9 hD9
    · refine lv_iconst (v := 0) hx hb dX0_letsPass_26 (by decide) ?_
      have hP9 := me_subP (ws' := [(a 6, .inr (0, [.ref (a 7), .ref (a 8), .ref (a 9), .int (K 7 0)])), (a 7, .inl (cI, ro, .inl (K 8))), (a 8, .inl (cI, ro, .inl (K 9))), (a 9, .inl (cI, ro, .inl (K 10)))]) hP [0, 1, 2, 3] rfl
      have hD9 := hD.sub (ws' := [(a 6, .inr (0, [.ref (a 7), .ref (a 8), .ref (a 9), .int (K 7 0)])), (a 7, .inl (cI, ro, .inl (K 8))), (a 8, .inl (cI, ro, .inl (K 9))), (a 9, .inl (cI, ro, .inl (K 10)))]) [0, 1, 2, 3] (by decide) rfl
      exact me_retZ hx hb hr hlk hK hS dX0_letsPass_27 (rfl) ((me_bf (by unfold st_pa; simp [b17, b23])).symm) hP9 hD9
set_option maxHeartbeats 4000000 in
set_option maxRecDepth 100000 in
theorem c_bu_mayLeave (l : Launch) (D : va_G) (cI cZ cR : ClassId) (a : Nat → Nat) (ro : Nat) (K : st_T) (k : Nat) (hk : k < ro) (hro : ro ≤ 8) : me_I l yX0_mayLeave wsX0_mayLeave ({ frames := 2, cells := 0, slots := 0, locals := 45 } : Room) D (me_TYS cI cZ cR) ([.ref (a 6), .int (nI (k))] : List Value) (w_bu a cI ro K) (me_b (st_ml K k)) (w_bu a cI ro K) := by
  intro sz
  refine me_ent (cc := cX0_mayLeave) (maxL := 3) (ret := (some .boolean)) (Qf := me_QI D (me_TYS cI cZ cR) (me_b (st_ml K k)) (w_bu a cI ro K)) (by decide) rfl (Nat.le_of_ble_eq_true rfl) ?_
  intro p e s m below meth c A ls hx hb hr hml hts hown hlk hin hP hK hD hN hA hS hl
  have hown : s.vm.findClass RX0 = some m.cls := hown
  have hg : ∀ w9 ∈ bg, w9.before ([.ref (a 6), .int (nI (k))] : List Value).toArray s = true := fun w9 h9 => hts w9 (List.mem_cons_of_mem _ h9)
  have hl : lv_has ls 3 [(0, .ref (a 6)), (1, .int (nI (k)))] := hl
  have hP : va_P D vwCl [(a 6, .inr (0, [.ref (a 7), .ref (a 8), .ref (a 9), .int (K 7 0)])), (a 7, .inl (cI, ro, .inl (K 8))), (a 8, .inl (cI, ro, .inl (K 9))), (a 9, .inl (cI, ro, .inl (K 10)))] s.heap := hP
  have hD : va_D A [(a 6, .inr (0, [.ref (a 7), .ref (a 8), .ref (a 9), .int (K 7 0)])), (a 7, .inl (cI, ro, .inl (K 8))), (a 8, .inl (cI, ro, .inl (K 9))), (a 9, .inl (cI, ro, .inl (K 10)))] := hD
  refine lv_iconst (v := 0) hx hb dX0_mayLeave_0 (by decide) ?_
  refine lv_istore_n hx hb dX0_mayLeave_1 rfl hl (by decide) rfl (fun ls hl => ?_)
  have hl : lv_has ls 3 [(2, .int (0)), (0, .ref (a 6)), (1, .int (nI (k)))] := hl
  have loop2 : ∀ (d : Nat) (j : Nat) (H : Heap) (locs : List Loc) (ls : Array Slot), d = k - j → j ≤ k → (∀ o : Nat, o < j → st_pa K o k) → va_P D vwCl [(a 6, .inr (0, [.ref (a 7), .ref (a 8), .ref (a 9), .int (K 7 0)])), (a 7, .inl (cI, ro, .inl (K 8))), (a 8, .inl (cI, ro, .inl (K 9))), (a 9, .inl (cI, ro, .inl (K 10)))] H → va_D A [(a 6, .inr (0, [.ref (a 7), .ref (a 8), .ref (a 9), .int (K 7 0)])), (a 7, .inl (cI, ro, .inl (K 8))), (a 8, .inl (cI, ro, .inl (K 9))), (a 9, .inl (cI, ro, .inl (K 10)))] → va_S A s.heap H locs → lv_has ls 3 [(0, .ref (a 6)), (1, .int (nI (k))), (2, .int (nI (j)))] → W p l e ({ frames := 2, cells := 0, slots := 0, locals := 45 } : Room) s m ([.ref (a 6), .int (nI (k))] : List Value).toArray below meth c H locs 0 0 (MQ below (me_QI D (me_TYS cI cZ cR) (me_b (st_ml K k)) (w_bu a cI ro K) A) ([.ref (a 6), .int (nI (k))] : List Value).toArray s 0 0 A) (F0 m 2 ls []) := by
    intro d
    induction d with
    | zero =>
      intro j H locs ls hd h1 h2 hP hD hS hl
      refine lv_iload_n hx hb dX0_mayLeave_2 rfl (lv_at hl 2 rfl) ?_
      refine lv_iload_n hx hb dX0_mayLeave_3 rfl (lv_at hl 1 rfl) ?_
      refine lv_icmp_ge (tgt := 24) hx hb dX0_mayLeave_4 (by decide) (fun b4 => ?_) (fun b4 => ?_)
      · have b4 := me_le (a := k) (b := j) (by omega) (by omega) b4
        refine lv_iconst (v := 1) hx hb dX0_mayLeave_24 (by decide) ?_
        have hP9 := me_subP (ws' := [(a 6, .inr (0, [.ref (a 7), .ref (a 8), .ref (a 9), .int (K 7 0)])), (a 7, .inl (cI, ro, .inl (K 8))), (a 8, .inl (cI, ro, .inl (K 9))), (a 9, .inl (cI, ro, .inl (K 10)))]) hP [0, 1, 2, 3] rfl
        have hD9 := hD.sub (ws' := [(a 6, .inr (0, [.ref (a 7), .ref (a 8), .ref (a 9), .int (K 7 0)])), (a 7, .inl (cI, ro, .inl (K 8))), (a 8, .inl (cI, ro, .inl (K 9))), (a 9, .inl (cI, ro, .inl (K 10)))]) [0, 1, 2, 3] (by decide) rfl
        exact me_retZ hx hb hr hlk hK hS dX0_mayLeave_25 (rfl) ((me_bt (fun o ho => h2 o (by omega))).symm) hP9 hD9
      · have b4 := me_nle (a := k) (b := j) (by omega) (by omega) b4
        exfalso
        omega
    | succ d ih =>
      intro j H locs ls hd h1 h2 hP hD hS hl
      refine lv_iload_n hx hb dX0_mayLeave_2 rfl (lv_at hl 2 rfl) ?_
      refine lv_iload_n hx hb dX0_mayLeave_3 rfl (lv_at hl 1 rfl) ?_
      refine lv_icmp_ge (tgt := 24) hx hb dX0_mayLeave_4 (by decide) (fun b4 => ?_) (fun b4 => ?_)
      · have b4 := me_le (a := k) (b := j) (by omega) (by omega) b4
        exfalso
        omega
      · have b4 := me_nle (a := k) (b := j) (by omega) (by omega) b4
        refine lv_aload_n hx hb dX0_mayLeave_7 rfl (lv_at hl 0 rfl) ?_
        refine lv_iload_n hx hb dX0_mayLeave_8 rfl (lv_at hl 2 rfl) ?_
        refine lv_iload_n hx hb dX0_mayLeave_9 rfl (lv_at hl 1 rfl) ?_
        refine me_goI (wr := []) (wc := [(a 6, .inr (0, [.ref (a 7), .ref (a 8), .ref (a 9), .int (K 7 0)])), (a 7, .inl (cI, ro, .inl (K 8))), (a 8, .inl (cI, ro, .inl (K 9))), (a 9, .inl (cI, ro, .inl (K 10)))]) (w1 := [(a 6, .inr (0, [.ref (a 7), .ref (a 8), .ref (a 9), .int (K 7 0)])), (a 7, .inl (cI, ro, .inl (K 8))), (a 8, .inl (cI, ro, .inl (K 9))), (a 9, .inl (cI, ro, .inl (K 10)))]) (va_runV (C := RX0) (b := a 6) (As := [.int (nI (j)), .int (nI (k))]) (rest := []) ⟨hx, hb, hml, hown, hg⟩ (c_bu_letsPass l D cI cZ cR a ro K j k (by omega) hk hro H.size) (cwV 2 hg (bg_gV (fun _ h => h) bw_1_182 bw_1_184 bw_s_13 bw_1_4 bw_1_185) rfl rfl rfl (by decide +kernel) ⟨Nat.le_of_ble_eq_true rfl, Nat.le_of_ble_eq_true rfl⟩) (me_preV (wc := [(a 6, .inr (0, [.ref (a 7), .ref (a 8), .ref (a 9), .int (K 7 0)])), (a 7, .inl (cI, ro, .inl (K 8))), (a 8, .inl (cI, ro, .inl (K 9))), (a 9, .inl (cI, ro, .inl (K 10)))]) hP hD hK hN [0, 1, 2, 3] rfl (by decide) (va_recv (q0 := 0) (ci := 0) hK hP rfl rfl)) rfl rfl hl.1 rfl (lv_room (Nat.le_of_ble_eq_true rfl)) dX0_mayLeave_10 ⟨Nat.zero_le _, Nat.zero_le _⟩) hP hD hS hA [0, 1, 2, 3] [] rfl rfl (by decide) (by decide) (fun H locs hP hD hS => ?_)
        have hP : va_P D vwCl [(a 6, .inr (0, [.ref (a 7), .ref (a 8), .ref (a 9), .int (K 7 0)])), (a 7, .inl (cI, ro, .inl (K 8))), (a 8, .inl (cI, ro, .inl (K 9))), (a 9, .inl (cI, ro, .inl (K 10)))] H := hP
        have hD : va_D A [(a 6, .inr (0, [.ref (a 7), .ref (a 8), .ref (a 9), .int (K 7 0)])), (a 7, .inl (cI, ro, .inl (K 8))), (a 8, .inl (cI, ro, .inl (K 9))), (a 9, .inl (cI, ro, .inl (K 10)))] := hD
        refine lv_if_ne (tgt := 18) hx hb dX0_mayLeave_13 (by decide) (fun b13 => ?_) (fun b13 => ?_)
        · have b13 := me_b1 b13
          refine lv_iinc (k := 2) (v := nI (j + 1)) hx hb dX0_mayLeave_18 hl rfl (me_inc (j)) (by decide) rfl (fun ls hl => ?_)
          have hl : lv_has ls 3 [(2, .int (nI (j + 1))), (0, .ref (a 6)), (1, .int (nI (k)))] := hl
          refine lv_goto (tgt := 2) hx hb dX0_mayLeave_21 (by decide) ?_
          have hP := me_subP (ws' := [(a 6, .inr (0, [.ref (a 7), .ref (a 8), .ref (a 9), .int (K 7 0)])), (a 7, .inl (cI, ro, .inl (K 8))), (a 8, .inl (cI, ro, .inl (K 9))), (a 9, .inl (cI, ro, .inl (K 10)))]) hP [0, 1, 2, 3] rfl
          have hD := hD.sub (ws' := [(a 6, .inr (0, [.ref (a 7), .ref (a 8), .ref (a 9), .int (K 7 0)])), (a 7, .inl (cI, ro, .inl (K 8))), (a 8, .inl (cI, ro, .inl (K 9))), (a 9, .inl (cI, ro, .inl (K 10)))]) [0, 1, 2, 3] (by decide) rfl
          have hP : va_P D vwCl [(a 6, .inr (0, [.ref (a 7), .ref (a 8), .ref (a 9), .int (K 7 0)])), (a 7, .inl (cI, ro, .inl (K 8))), (a 8, .inl (cI, ro, .inl (K 9))), (a 9, .inl (cI, ro, .inl (K 10)))] H := hP
          have hD : va_D A [(a 6, .inr (0, [.ref (a 7), .ref (a 8), .ref (a 9), .int (K 7 0)])), (a 7, .inl (cI, ro, .inl (K 8))), (a 8, .inl (cI, ro, .inl (K 9))), (a 9, .inl (cI, ro, .inl (K 10)))] := hD
          have hl := lv_sub (l' := [(0, .ref (a 6)), (1, .int (nI (k))), (2, .int (nI (j + 1)))]) hl [1, 2, 0] rfl
          exact ih (j + 1) _ _ _ (by omega) (by omega) (lt_s h2 b13) hP hD hS hl
        · have b13 := me_b0 b13
          refine lv_iconst (v := 0) hx hb dX0_mayLeave_16 (by decide) ?_
          have hP9 := me_subP (ws' := [(a 6, .inr (0, [.ref (a 7), .ref (a 8), .ref (a 9), .int (K 7 0)])), (a 7, .inl (cI, ro, .inl (K 8))), (a 8, .inl (cI, ro, .inl (K 9))), (a 9, .inl (cI, ro, .inl (K 10)))]) hP [0, 1, 2, 3] rfl
          have hD9 := hD.sub (ws' := [(a 6, .inr (0, [.ref (a 7), .ref (a 8), .ref (a 9), .int (K 7 0)])), (a 7, .inl (cI, ro, .inl (K 8))), (a 8, .inl (cI, ro, .inl (K 9))), (a 9, .inl (cI, ro, .inl (K 10)))]) [0, 1, 2, 3] (by decide) rfl
          exact me_retZ hx hb hr hlk hK hS dX0_mayLeave_17 (rfl) ((me_bf (fun q => b13 (q j (by omega)))).symm) hP9 hD9
  have hP := me_subP (ws' := [(a 6, .inr (0, [.ref (a 7), .ref (a 8), .ref (a 9), .int (K 7 0)])), (a 7, .inl (cI, ro, .inl (K 8))), (a 8, .inl (cI, ro, .inl (K 9))), (a 9, .inl (cI, ro, .inl (K 10)))]) hP [0, 1, 2, 3] rfl
  have hD := hD.sub (ws' := [(a 6, .inr (0, [.ref (a 7), .ref (a 8), .ref (a 9), .int (K 7 0)])), (a 7, .inl (cI, ro, .inl (K 8))), (a 8, .inl (cI, ro, .inl (K 9))), (a 9, .inl (cI, ro, .inl (K 10)))]) [0, 1, 2, 3] (by decide) rfl
  have hP : va_P D vwCl [(a 6, .inr (0, [.ref (a 7), .ref (a 8), .ref (a 9), .int (K 7 0)])), (a 7, .inl (cI, ro, .inl (K 8))), (a 8, .inl (cI, ro, .inl (K 9))), (a 9, .inl (cI, ro, .inl (K 10)))] s.heap := hP
  have hD : va_D A [(a 6, .inr (0, [.ref (a 7), .ref (a 8), .ref (a 9), .int (K 7 0)])), (a 7, .inl (cI, ro, .inl (K 8))), (a 8, .inl (cI, ro, .inl (K 9))), (a 9, .inl (cI, ro, .inl (K 10)))] := hD
  have hl := lv_sub (l' := [(0, .ref (a 6)), (1, .int (nI (k))), (2, .int (nI (0)))]) hl [1, 2, 0] rfl
  exact loop2 _ 0 _ _ _ rfl (by omega) (lt_0) hP hD hS hl
set_option maxHeartbeats 4000000 in
set_option maxRecDepth 100000 in
theorem c_bu_remove (l : Launch) (D : va_G) (cI cZ cR : ClassId) (a : Nat → Nat) (ro : Nat) (K : st_T) (k : Nat) (hh : K 7 0 = nI (st_h K)) (hk : k < st_h K) (hb1 : st_h K ≤ ro) (hro : ro ≤ 8) : me_V l yX0_remove wsX0_remove ({ frames := 0, cells := 0, slots := 0, locals := 0 } : Room) D (me_TYS cI cZ cR) ([.ref (a 6), .int (nI (k))] : List Value) (w_bu a cI ro K) (w_bu a cI ro (st_rm K k)) := by
  intro sz
  refine me_ent (cc := cX0_remove) (maxL := 3) (ret := none) (Qf := me_QV D (me_TYS cI cZ cR) (w_bu a cI ro (st_rm K k))) (by decide) rfl (Nat.le_of_ble_eq_true rfl) ?_
  intro p e s m below meth c A ls hx hb hr hml hts hown hlk hin hP hK hD hN hA hS hl
  have hown : s.vm.findClass RX0 = some m.cls := hown
  have hg : ∀ w9 ∈ bg, w9.before ([.ref (a 6), .int (nI (k))] : List Value).toArray s = true := fun w9 h9 => hts w9 (List.mem_cons_of_mem _ h9)
  have hl : lv_has ls 3 [(0, .ref (a 6)), (1, .int (nI (k)))] := hl
  have hP : va_P D vwCl [(a 6, .inr (0, [.ref (a 7), .ref (a 8), .ref (a 9), .int (K 7 0)])), (a 7, .inl (cI, ro, .inl (K 8))), (a 8, .inl (cI, ro, .inl (K 9))), (a 9, .inl (cI, ro, .inl (K 10)))] s.heap := hP
  have hD : va_D A [(a 6, .inr (0, [.ref (a 7), .ref (a 8), .ref (a 9), .int (K 7 0)])), (a 7, .inl (cI, ro, .inl (K 8))), (a 8, .inl (cI, ro, .inl (K 9))), (a 9, .inl (cI, ro, .inl (K 10)))] := hD
  refine lv_aload_n hx hb dX0_remove_0 rfl (lv_at hl 0 rfl) ?_
  refine lv_dup hx hb dX0_remove_1 rfl ?_
  refine va_get (D := D) (ci := 0) (v := .int (K 7 0)) (C := RX0) (T := TX0) (N := 4) hx hb hg inX0 hown hK hP 0 rfl rfl 3 (by decide) (hg _ bw_1_55) (fun _ h9 => h9) rfl dX0_remove_2 ?_
  refine me_t (x := K 7 0) (y := nI (st_h K)) (hh) ?_
  refine lv_iconst (v := 1) hx hb dX0_remove_5 (by decide) ?_
  refine lv_isub hx hb dX0_remove_6 ?_
  refine me_t (x := (nI (st_h K)) - 1) (y := nI (st_h K - 1)) (pk_sub (a := st_h K) (b := 1) (by omega)) ?_
  refine va_put (D := D) (ci := 0) (v := .int (nI (st_h K - 1))) (ty := .int) (C := RX0) (T := TX0) (N := 4) hx hb hg inX0 tyX0 tyX0_ok nmX0 hown hK hP hD hS 0 rfl rfl 3 (by decide) (hg _ bw_1_55) (fun _ h9 => h9) rfl (by decide +kernel) rfl rfl (Nat.le_of_ble_eq_true rfl) dX0_remove_7 (fun H locs hP hD hS => ?_)
  have hP : va_P D vwCl [(a 6, .inr (0, [.ref (a 7), .ref (a 8), .ref (a 9), .int (nI (st_h K - 1))])), (a 7, .inl (cI, ro, .inl (K 8))), (a 8, .inl (cI, ro, .inl (K 9))), (a 9, .inl (cI, ro, .inl (K 10)))] H := hP
  have hD : va_D A [(a 6, .inr (0, [.ref (a 7), .ref (a 8), .ref (a 9), .int (nI (st_h K - 1))])), (a 7, .inl (cI, ro, .inl (K 8))), (a 8, .inl (cI, ro, .inl (K 9))), (a 9, .inl (cI, ro, .inl (K 10)))] := hD
  refine lv_iload_n hx hb dX0_remove_10 rfl (lv_at hl 1 rfl) ?_
  refine lv_istore_n hx hb dX0_remove_11 rfl hl (by decide) rfl (fun ls hl => ?_)
  have hl : lv_has ls 3 [(2, .int (nI (k))), (0, .ref (a 6)), (1, .int (nI (k)))] := hl
  have loop12 : ∀ (d : Nat) (j : Nat) (H : Heap) (locs : List Loc) (ls : Array Slot), d = st_h K - 1 - j → k ≤ j → j ≤ st_h K - 1 → va_P D vwCl [(a 6, .inr (0, [.ref (a 7), .ref (a 8), .ref (a 9), .int (nI (st_h K - 1))])), (a 7, .inl (cI, ro, .inl (st_shl (K 8) k (j)))), (a 8, .inl (cI, ro, .inl (st_shl (K 9) k (j)))), (a 9, .inl (cI, ro, .inl (st_shl (K 10) k (j))))] H → va_D A [(a 6, .inr (0, [.ref (a 7), .ref (a 8), .ref (a 9), .int (nI (st_h K - 1))])), (a 7, .inl (cI, ro, .inl (st_shl (K 8) k (j)))), (a 8, .inl (cI, ro, .inl (st_shl (K 9) k (j)))), (a 9, .inl (cI, ro, .inl (st_shl (K 10) k (j))))] → va_S A s.heap H locs → lv_has ls 3 [(0, .ref (a 6)), (1, .int (nI (k))), (2, .int (nI (j)))] → W p l e ({ frames := 0, cells := 0, slots := 0, locals := 0 } : Room) s m ([.ref (a 6), .int (nI (k))] : List Value).toArray below meth c H locs 0 0 (MQ below (me_QV D (me_TYS cI cZ cR) (w_bu a cI ro (st_rm K k)) A) ([.ref (a 6), .int (nI (k))] : List Value).toArray s 0 0 A) (F0 m 12 ls []) := by
    intro d
    induction d with
    | zero =>
      intro j H locs ls hd h1 h2 hP hD hS hl
      refine lv_iload_n hx hb dX0_remove_12 rfl (lv_at hl 2 rfl) ?_
      refine lv_aload_n hx hb dX0_remove_13 rfl (lv_at hl 0 rfl) ?_
      refine va_get (D := D) (ci := 0) (v := .int (nI (st_h K - 1))) (C := RX0) (T := TX0) (N := 4) hx hb hg inX0 hown hK hP 0 rfl rfl 3 (by decide) (hg _ bw_1_55) (fun _ h9 => h9) rfl dX0_remove_14 ?_
      refine lv_icmp_ge (tgt := 68) hx hb dX0_remove_17 (by decide) (fun b17 => ?_) (fun b17 => ?_)
      · have b17 := me_le (a := st_h K - 1) (b := j) (by omega) (by omega) b17
        have hj : j = st_h K - 1 := by omega
        rw [hj] at hP hD
        have hP : va_P D vwCl [(a 6, .inr (0, [.ref (a 7), .ref (a 8), .ref (a 9), .int (nI (st_h K - 1))])), (a 7, .inl (cI, ro, .inl (st_shl (K 8) k (st_h K - 1)))), (a 8, .inl (cI, ro, .inl (st_shl (K 9) k (st_h K - 1)))), (a 9, .inl (cI, ro, .inl (st_shl (K 10) k (st_h K - 1))))] H := hP
        have hD : va_D A [(a 6, .inr (0, [.ref (a 7), .ref (a 8), .ref (a 9), .int (nI (st_h K - 1))])), (a 7, .inl (cI, ro, .inl (st_shl (K 8) k (st_h K - 1)))), (a 8, .inl (cI, ro, .inl (st_shl (K 9) k (st_h K - 1)))), (a 9, .inl (cI, ro, .inl (st_shl (K 10) k (st_h K - 1))))] := hD
        have hP9 := me_subP (ws' := [(a 6, .inr (0, [.ref (a 7), .ref (a 8), .ref (a 9), .int ((st_rm K k) 7 0)])), (a 7, .inl (cI, ro, .inl ((st_rm K k) 8))), (a 8, .inl (cI, ro, .inl ((st_rm K k) 9))), (a 9, .inl (cI, ro, .inl ((st_rm K k) 10)))]) hP [0, 1, 2, 3] rfl
        have hD9 := hD.sub (ws' := [(a 6, .inr (0, [.ref (a 7), .ref (a 8), .ref (a 9), .int ((st_rm K k) 7 0)])), (a 7, .inl (cI, ro, .inl ((st_rm K k) 8))), (a 8, .inl (cI, ro, .inl ((st_rm K k) 9))), (a 9, .inl (cI, ro, .inl ((st_rm K k) 10)))]) [0, 1, 2, 3] (by decide) rfl
        exact me_retV hx hb hr hlk hK hS dX0_remove_68 hP9 hD9
      · have b17 := me_nle (a := st_h K - 1) (b := j) (by omega) (by omega) b17
        exfalso
        omega
    | succ d ih =>
      intro j H locs ls hd h1 h2 hP hD hS hl
      refine lv_iload_n hx hb dX0_remove_12 rfl (lv_at hl 2 rfl) ?_
      refine lv_aload_n hx hb dX0_remove_13 rfl (lv_at hl 0 rfl) ?_
      refine va_get (D := D) (ci := 0) (v := .int (nI (st_h K - 1))) (C := RX0) (T := TX0) (N := 4) hx hb hg inX0 hown hK hP 0 rfl rfl 3 (by decide) (hg _ bw_1_55) (fun _ h9 => h9) rfl dX0_remove_14 ?_
      refine lv_icmp_ge (tgt := 68) hx hb dX0_remove_17 (by decide) (fun b17 => ?_) (fun b17 => ?_)
      · have b17 := me_le (a := st_h K - 1) (b := j) (by omega) (by omega) b17
        exfalso
        omega
      · have b17 := me_nle (a := st_h K - 1) (b := j) (by omega) (by omega) b17
        refine lv_aload_n hx hb dX0_remove_20 rfl (lv_at hl 0 rfl) ?_
        refine va_get (D := D) (ci := 0) (v := .ref (a 7)) (C := RX0) (T := TX0) (N := 4) hx hb hg inX0 hown hK hP 0 rfl rfl 0 (by decide) (hg _ bw_1_49) (fun _ h9 => h9) rfl dX0_remove_21 ?_
        refine lv_iload_n hx hb dX0_remove_24 rfl (lv_at hl 2 rfl) ?_
        refine lv_aload_n hx hb dX0_remove_25 rfl (lv_at hl 0 rfl) ?_
        refine va_get (D := D) (ci := 0) (v := .ref (a 7)) (C := RX0) (T := TX0) (N := 4) hx hb hg inX0 hown hK hP 0 rfl rfl 0 (by decide) (hg _ bw_1_49) (fun _ h9 => h9) rfl dX0_remove_26 ?_
        refine lv_iload_n hx hb dX0_remove_29 rfl (lv_at hl 2 rfl) ?_
        refine lv_iconst (v := 1) hx hb dX0_remove_30 (by decide) ?_
        refine lv_iadd hx hb dX0_remove_31 ?_
        refine me_t (x := (nI (j)) + 1) (y := nI (j + 1)) (nI_add (j) (1)) ?_
        refine me_ild hx hb hK hP 1 0 rfl rfl (j + 1) (rfl) (by omega) (by omega) dX0_remove_32 ?_
        refine me_ist hx hb hK hP hD hS 1 0 rfl rfl (j) (rfl) (by omega) (by omega) dX0_remove_33 (fun H locs hP hD hS => ?_)
        have hP : va_P D vwCl [(a 6, .inr (0, [.ref (a 7), .ref (a 8), .ref (a 9), .int (nI (st_h K - 1))])), (a 7, .inl (cI, ro, .inl (upd (st_shl (K 8) k (j)) (j) (st_shl (K 8) k (j) (j + 1))))), (a 8, .inl (cI, ro, .inl (st_shl (K 9) k (j)))), (a 9, .inl (cI, ro, .inl (st_shl (K 10) k (j))))] H := hP
        have hD : va_D A [(a 6, .inr (0, [.ref (a 7), .ref (a 8), .ref (a 9), .int (nI (st_h K - 1))])), (a 7, .inl (cI, ro, .inl (upd (st_shl (K 8) k (j)) (j) (st_shl (K 8) k (j) (j + 1))))), (a 8, .inl (cI, ro, .inl (st_shl (K 9) k (j)))), (a 9, .inl (cI, ro, .inl (st_shl (K 10) k (j))))] := hD
        refine lv_aload_n hx hb dX0_remove_34 rfl (lv_at hl 0 rfl) ?_
        refine va_get (D := D) (ci := 0) (v := .ref (a 8)) (C := RX0) (T := TX0) (N := 4) hx hb hg inX0 hown hK hP 0 rfl rfl 1 (by decide) (hg _ bw_1_51) (fun _ h9 => h9) rfl dX0_remove_35 ?_
        refine lv_iload_n hx hb dX0_remove_38 rfl (lv_at hl 2 rfl) ?_
        refine lv_aload_n hx hb dX0_remove_39 rfl (lv_at hl 0 rfl) ?_
        refine va_get (D := D) (ci := 0) (v := .ref (a 8)) (C := RX0) (T := TX0) (N := 4) hx hb hg inX0 hown hK hP 0 rfl rfl 1 (by decide) (hg _ bw_1_51) (fun _ h9 => h9) rfl dX0_remove_40 ?_
        refine lv_iload_n hx hb dX0_remove_43 rfl (lv_at hl 2 rfl) ?_
        refine lv_iconst (v := 1) hx hb dX0_remove_44 (by decide) ?_
        refine lv_iadd hx hb dX0_remove_45 ?_
        refine me_t (x := (nI (j)) + 1) (y := nI (j + 1)) (nI_add (j) (1)) ?_
        refine me_ild hx hb hK hP 2 0 rfl rfl (j + 1) (rfl) (by omega) (by omega) dX0_remove_46 ?_
        refine me_ist hx hb hK hP hD hS 2 0 rfl rfl (j) (rfl) (by omega) (by omega) dX0_remove_47 (fun H locs hP hD hS => ?_)
        have hP : va_P D vwCl [(a 6, .inr (0, [.ref (a 7), .ref (a 8), .ref (a 9), .int (nI (st_h K - 1))])), (a 7, .inl (cI, ro, .inl (upd (st_shl (K 8) k (j)) (j) (st_shl (K 8) k (j) (j + 1))))), (a 8, .inl (cI, ro, .inl (upd (st_shl (K 9) k (j)) (j) (st_shl (K 9) k (j) (j + 1))))), (a 9, .inl (cI, ro, .inl (st_shl (K 10) k (j))))] H := hP
        have hD : va_D A [(a 6, .inr (0, [.ref (a 7), .ref (a 8), .ref (a 9), .int (nI (st_h K - 1))])), (a 7, .inl (cI, ro, .inl (upd (st_shl (K 8) k (j)) (j) (st_shl (K 8) k (j) (j + 1))))), (a 8, .inl (cI, ro, .inl (upd (st_shl (K 9) k (j)) (j) (st_shl (K 9) k (j) (j + 1))))), (a 9, .inl (cI, ro, .inl (st_shl (K 10) k (j))))] := hD
        refine lv_aload_n hx hb dX0_remove_48 rfl (lv_at hl 0 rfl) ?_
        refine va_get (D := D) (ci := 0) (v := .ref (a 9)) (C := RX0) (T := TX0) (N := 4) hx hb hg inX0 hown hK hP 0 rfl rfl 2 (by decide) (hg _ bw_1_53) (fun _ h9 => h9) rfl dX0_remove_49 ?_
        refine lv_iload_n hx hb dX0_remove_52 rfl (lv_at hl 2 rfl) ?_
        refine lv_aload_n hx hb dX0_remove_53 rfl (lv_at hl 0 rfl) ?_
        refine va_get (D := D) (ci := 0) (v := .ref (a 9)) (C := RX0) (T := TX0) (N := 4) hx hb hg inX0 hown hK hP 0 rfl rfl 2 (by decide) (hg _ bw_1_53) (fun _ h9 => h9) rfl dX0_remove_54 ?_
        refine lv_iload_n hx hb dX0_remove_57 rfl (lv_at hl 2 rfl) ?_
        refine lv_iconst (v := 1) hx hb dX0_remove_58 (by decide) ?_
        refine lv_iadd hx hb dX0_remove_59 ?_
        refine me_t (x := (nI (j)) + 1) (y := nI (j + 1)) (nI_add (j) (1)) ?_
        refine me_ild hx hb hK hP 3 0 rfl rfl (j + 1) (rfl) (by omega) (by omega) dX0_remove_60 ?_
        refine me_ist hx hb hK hP hD hS 3 0 rfl rfl (j) (rfl) (by omega) (by omega) dX0_remove_61 (fun H locs hP hD hS => ?_)
        have hP : va_P D vwCl [(a 6, .inr (0, [.ref (a 7), .ref (a 8), .ref (a 9), .int (nI (st_h K - 1))])), (a 7, .inl (cI, ro, .inl (upd (st_shl (K 8) k (j)) (j) (st_shl (K 8) k (j) (j + 1))))), (a 8, .inl (cI, ro, .inl (upd (st_shl (K 9) k (j)) (j) (st_shl (K 9) k (j) (j + 1))))), (a 9, .inl (cI, ro, .inl (upd (st_shl (K 10) k (j)) (j) (st_shl (K 10) k (j) (j + 1)))))] H := hP
        have hD : va_D A [(a 6, .inr (0, [.ref (a 7), .ref (a 8), .ref (a 9), .int (nI (st_h K - 1))])), (a 7, .inl (cI, ro, .inl (upd (st_shl (K 8) k (j)) (j) (st_shl (K 8) k (j) (j + 1))))), (a 8, .inl (cI, ro, .inl (upd (st_shl (K 9) k (j)) (j) (st_shl (K 9) k (j) (j + 1))))), (a 9, .inl (cI, ro, .inl (upd (st_shl (K 10) k (j)) (j) (st_shl (K 10) k (j) (j + 1)))))] := hD
        refine lv_iinc (k := 2) (v := nI (j + 1)) hx hb dX0_remove_62 hl rfl (me_inc (j)) (by decide) rfl (fun ls hl => ?_)
        have hl : lv_has ls 3 [(2, .int (nI (j + 1))), (0, .ref (a 6)), (1, .int (nI (k)))] := hl
        refine lv_goto (tgt := 12) hx hb dX0_remove_65 (by decide) ?_
        have hP := me_subP (ws' := [(a 6, .inr (0, [.ref (a 7), .ref (a 8), .ref (a 9), .int (nI (st_h K - 1))])), (a 7, .inl (cI, ro, .inl (upd (st_shl (K 8) k (j)) (j) (st_shl (K 8) k (j) (j + 1))))), (a 8, .inl (cI, ro, .inl (upd (st_shl (K 9) k (j)) (j) (st_shl (K 9) k (j) (j + 1))))), (a 9, .inl (cI, ro, .inl (upd (st_shl (K 10) k (j)) (j) (st_shl (K 10) k (j) (j + 1)))))]) hP [0, 1, 2, 3] rfl
        have hD := hD.sub (ws' := [(a 6, .inr (0, [.ref (a 7), .ref (a 8), .ref (a 9), .int (nI (st_h K - 1))])), (a 7, .inl (cI, ro, .inl (upd (st_shl (K 8) k (j)) (j) (st_shl (K 8) k (j) (j + 1))))), (a 8, .inl (cI, ro, .inl (upd (st_shl (K 9) k (j)) (j) (st_shl (K 9) k (j) (j + 1))))), (a 9, .inl (cI, ro, .inl (upd (st_shl (K 10) k (j)) (j) (st_shl (K 10) k (j) (j + 1)))))]) [0, 1, 2, 3] (by decide) rfl
        have hP : va_P D vwCl [(a 6, .inr (0, [.ref (a 7), .ref (a 8), .ref (a 9), .int (nI (st_h K - 1))])), (a 7, .inl (cI, ro, .inl (st_shl (K 8) k (j + 1)))), (a 8, .inl (cI, ro, .inl (st_shl (K 9) k (j + 1)))), (a 9, .inl (cI, ro, .inl (st_shl (K 10) k (j + 1))))] H := by rw [← st_shS (f := K 8) h1, ← st_shS (f := K 9) h1, ← st_shS (f := K 10) h1]; exact hP
        have hD : va_D A [(a 6, .inr (0, [.ref (a 7), .ref (a 8), .ref (a 9), .int (nI (st_h K - 1))])), (a 7, .inl (cI, ro, .inl (st_shl (K 8) k (j + 1)))), (a 8, .inl (cI, ro, .inl (st_shl (K 9) k (j + 1)))), (a 9, .inl (cI, ro, .inl (st_shl (K 10) k (j + 1))))] := by rw [← st_shS (f := K 8) h1, ← st_shS (f := K 9) h1, ← st_shS (f := K 10) h1]; exact hD
        have hl := lv_sub (l' := [(0, .ref (a 6)), (1, .int (nI (k))), (2, .int (nI (j + 1)))]) hl [1, 2, 0] rfl
        exact ih (j + 1) _ _ _ (by omega) (by omega) (by omega) hP hD hS hl
  have hP := me_subP (ws' := [(a 6, .inr (0, [.ref (a 7), .ref (a 8), .ref (a 9), .int (nI (st_h K - 1))])), (a 7, .inl (cI, ro, .inl (K 8))), (a 8, .inl (cI, ro, .inl (K 9))), (a 9, .inl (cI, ro, .inl (K 10)))]) hP [0, 1, 2, 3] rfl
  have hD := hD.sub (ws' := [(a 6, .inr (0, [.ref (a 7), .ref (a 8), .ref (a 9), .int (nI (st_h K - 1))])), (a 7, .inl (cI, ro, .inl (K 8))), (a 8, .inl (cI, ro, .inl (K 9))), (a 9, .inl (cI, ro, .inl (K 10)))]) [0, 1, 2, 3] (by decide) rfl
  have hP : va_P D vwCl [(a 6, .inr (0, [.ref (a 7), .ref (a 8), .ref (a 9), .int (nI (st_h K - 1))])), (a 7, .inl (cI, ro, .inl (st_shl (K 8) k (k)))), (a 8, .inl (cI, ro, .inl (st_shl (K 9) k (k)))), (a 9, .inl (cI, ro, .inl (st_shl (K 10) k (k))))] H := by rw [st_sh0, st_sh0, st_sh0]; exact hP
  have hD : va_D A [(a 6, .inr (0, [.ref (a 7), .ref (a 8), .ref (a 9), .int (nI (st_h K - 1))])), (a 7, .inl (cI, ro, .inl (st_shl (K 8) k (k)))), (a 8, .inl (cI, ro, .inl (st_shl (K 9) k (k)))), (a 9, .inl (cI, ro, .inl (st_shl (K 10) k (k))))] := by rw [st_sh0, st_sh0, st_sh0]; exact hD
  have hl := lv_sub (l' := [(0, .ref (a 6)), (1, .int (nI (k))), (2, .int (nI (k)))]) hl [1, 2, 0] rfl
  exact loop12 _ k _ _ _ rfl (Nat.le_refl _) (by omega) hP hD hS hl
set_option maxHeartbeats 4000000 in
set_option maxRecDepth 100000 in
theorem c_bu_letOut (l : Launch) (D : va_G) (cI cZ cR : ClassId) (a : Nat → Nat) (ro : Nat) (b : Nat → Nat) (K M : st_T) (k : Nat) (hh : K 7 0 = nI (st_h K)) (hk : k < st_h K) (hb1 : st_h K ≤ ro) (hro : ro ≤ 8) (h0 : K 8 k = 0 → K 9 k = nI (K 9 k).toNatClampNeg ∧ (K 9 k).toNatClampNeg < 32) (h1 : ¬ K 8 k = 0 → K 9 k = nI (K 9 k).toNatClampNeg ∧ (K 9 k).toNatClampNeg < 8) : me_V l yX0_letOut wsX0_letOut ({ frames := 1, cells := 0, slots := 0, locals := 23 } : Room) D (me_TYS cI cZ cR) ([.ref (a 6), .int (nI (k)), .ref (b 0)] : List Value) (w_bu a cI ro K ++ w_sh b cI cZ M) (w_bu a cI ro (st_rm K k) ++ w_sh b cI cZ (st_out M K k)) := by
  intro sz
  refine me_ent (cc := cX0_letOut) (maxL := 3) (ret := none) (Qf := me_QV D (me_TYS cI cZ cR) (w_bu a cI ro (st_rm K k) ++ w_sh b cI cZ (st_out M K k))) (by decide) rfl (Nat.le_of_ble_eq_true rfl) ?_
  intro p e s m below meth c A ls hx hb hr hml hts hown hlk hin hP hK hD hN hA hS hl
  have hown : s.vm.findClass RX0 = some m.cls := hown
  have hg : ∀ w9 ∈ bg, w9.before ([.ref (a 6), .int (nI (k)), .ref (b 0)] : List Value).toArray s = true := fun w9 h9 => hts w9 (List.mem_cons_of_mem _ h9)
  have hl : lv_has ls 3 [(0, .ref (a 6)), (1, .int (nI (k))), (2, .ref (b 0))] := hl
  have hP : va_P D vwCl [(a 6, .inr (0, [.ref (a 7), .ref (a 8), .ref (a 9), .int (K 7 0)])), (a 7, .inl (cI, ro, .inl (K 8))), (a 8, .inl (cI, ro, .inl (K 9))), (a 9, .inl (cI, ro, .inl (K 10))), (b 0, .inr (2, [.ref (b 1), .ref (b 2), .ref (b 3)])), (b 1, .inl (cI, 32, .inl (M 0))), (b 2, .inl (cI, 32, .inl (M 1))), (b 3, .inl (cZ, 8, .inl (M 2)))] s.heap := hP
  have hD : va_D A [(a 6, .inr (0, [.ref (a 7), .ref (a 8), .ref (a 9), .int (K 7 0)])), (a 7, .inl (cI, ro, .inl (K 8))), (a 8, .inl (cI, ro, .inl (K 9))), (a 9, .inl (cI, ro, .inl (K 10))), (b 0, .inr (2, [.ref (b 1), .ref (b 2), .ref (b 3)])), (b 1, .inl (cI, 32, .inl (M 0))), (b 2, .inl (cI, 32, .inl (M 1))), (b 3, .inl (cZ, 8, .inl (M 2)))] := hD
  refine lv_aload_n hx hb dX0_letOut_0 rfl (lv_at hl 0 rfl) ?_
  refine va_get (D := D) (ci := 0) (v := .ref (a 7)) (C := RX0) (T := TX0) (N := 4) hx hb hg inX0 hown hK hP 0 rfl rfl 0 (by decide) (hg _ bw_1_49) (fun _ h9 => h9) rfl dX0_letOut_1 ?_
  refine lv_iload_n hx hb dX0_letOut_4 rfl (lv_at hl 1 rfl) ?_
  refine me_ild hx hb hK hP 1 0 rfl rfl (k) (rfl) (by omega) (by omega) dX0_letOut_5 ?_
  refine lv_if_ne (tgt := 28) hx hb dX0_letOut_6 (by decide) (fun b6 => ?_) (fun b6 => ?_)
  · obtain ⟨e9, l9⟩ := h1 b6
    refine lv_aload_n hx hb dX0_letOut_28 rfl (lv_at hl 0 rfl) ?_
    refine va_get (D := D) (ci := 0) (v := .ref (a 7)) (C := RX0) (T := TX0) (N := 4) hx hb hg inX0 hown hK hP 0 rfl rfl 0 (by decide) (hg _ bw_1_49) (fun _ h9 => h9) rfl dX0_letOut_29 ?_
    refine lv_iload_n hx hb dX0_letOut_32 rfl (lv_at hl 1 rfl) ?_
    refine me_ild hx hb hK hP 1 0 rfl rfl (k) (rfl) (by omega) (by omega) dX0_letOut_33 ?_
    refine lv_iconst (v := 3) hx hb dX0_letOut_34 (by decide) ?_
    refine lv_icmp_eq (tgt := 48) hx hb dX0_letOut_35 (by decide) (fun b35 => ?_) (fun b35 => ?_)
    · refine lv_aload_n hx hb dX0_letOut_48 rfl (lv_at hl 0 rfl) ?_
      refine lv_iload_n hx hb dX0_letOut_49 rfl (lv_at hl 1 rfl) ?_
      refine me_goV (wr := [(b 0, .inr (2, [.ref (b 1), .ref (b 2), .ref (b 3)])), (b 1, .inl (cI, 32, .inl (M 0))), (b 2, .inl (cI, 32, .inl (M 1))), (b 3, .inl (cZ, 8, .inl (M 2)))]) (wc := [(a 6, .inr (0, [.ref (a 7), .ref (a 8), .ref (a 9), .int (K 7 0)])), (a 7, .inl (cI, ro, .inl (K 8))), (a 8, .inl (cI, ro, .inl (K 9))), (a 9, .inl (cI, ro, .inl (K 10)))]) (w1 := [(a 6, .inr (0, [.ref (a 7), .ref (a 8), .ref (a 9), .int ((st_rm K k) 7 0)])), (a 7, .inl (cI, ro, .inl ((st_rm K k) 8))), (a 8, .inl (cI, ro, .inl ((st_rm K k) 9))), (a 9, .inl (cI, ro, .inl ((st_rm K k) 10)))]) (va_runV (C := RX0) (b := a 6) (As := [.int (nI (k))]) (rest := []) ⟨hx, hb, hml, hown, hg⟩ (c_bu_remove l D cI cZ cR a ro K k hh hk hb1 hro s.heap.size) (cwV 1 hg (bg_gV (fun _ h => h) bw_1_199 bw_1_201 bw_s_17 bw_1_4 bw_1_202) rfl rfl rfl (by decide +kernel) ⟨Nat.le_of_ble_eq_true rfl, Nat.le_of_ble_eq_true rfl⟩) (me_preV (wc := [(a 6, .inr (0, [.ref (a 7), .ref (a 8), .ref (a 9), .int (K 7 0)])), (a 7, .inl (cI, ro, .inl (K 8))), (a 8, .inl (cI, ro, .inl (K 9))), (a 9, .inl (cI, ro, .inl (K 10)))]) hP hD hK hN [0, 1, 2, 3] rfl (by decide) (va_recv (q0 := 0) (ci := 0) hK hP rfl rfl)) rfl rfl hl.1 rfl (lv_room (Nat.le_of_ble_eq_true rfl)) dX0_letOut_50 ⟨Nat.zero_le _, Nat.zero_le _⟩) hP hD hS hA [0, 1, 2, 3] [4, 5, 6, 7] rfl rfl (by decide) (by decide) (fun H locs hP hD hS => ?_)
      have hP : va_P D vwCl [(b 0, .inr (2, [.ref (b 1), .ref (b 2), .ref (b 3)])), (b 1, .inl (cI, 32, .inl (M 0))), (b 2, .inl (cI, 32, .inl (M 1))), (b 3, .inl (cZ, 8, .inl (M 2))), (a 6, .inr (0, [.ref (a 7), .ref (a 8), .ref (a 9), .int ((st_rm K k) 7 0)])), (a 7, .inl (cI, ro, .inl ((st_rm K k) 8))), (a 8, .inl (cI, ro, .inl ((st_rm K k) 9))), (a 9, .inl (cI, ro, .inl ((st_rm K k) 10)))] H := hP
      have hD : va_D A [(b 0, .inr (2, [.ref (b 1), .ref (b 2), .ref (b 3)])), (b 1, .inl (cI, 32, .inl (M 0))), (b 2, .inl (cI, 32, .inl (M 1))), (b 3, .inl (cZ, 8, .inl (M 2))), (a 6, .inr (0, [.ref (a 7), .ref (a 8), .ref (a 9), .int ((st_rm K k) 7 0)])), (a 7, .inl (cI, ro, .inl ((st_rm K k) 8))), (a 8, .inl (cI, ro, .inl ((st_rm K k) 9))), (a 9, .inl (cI, ro, .inl ((st_rm K k) 10)))] := hD
      rw [show st_out M K k = M from (me_swf b6).trans (me_swt b35)]
      have hP9 := me_subP (ws' := [(a 6, .inr (0, [.ref (a 7), .ref (a 8), .ref (a 9), .int ((st_rm K k) 7 0)])), (a 7, .inl (cI, ro, .inl ((st_rm K k) 8))), (a 8, .inl (cI, ro, .inl ((st_rm K k) 9))), (a 9, .inl (cI, ro, .inl ((st_rm K k) 10))), (b 0, .inr (2, [.ref (b 1), .ref (b 2), .ref (b 3)])), (b 1, .inl (cI, 32, .inl (M 0))), (b 2, .inl (cI, 32, .inl (M 1))), (b 3, .inl (cZ, 8, .inl (M 2)))]) hP [4, 5, 6, 7, 0, 1, 2, 3] rfl
      have hD9 := hD.sub (ws' := [(a 6, .inr (0, [.ref (a 7), .ref (a 8), .ref (a 9), .int ((st_rm K k) 7 0)])), (a 7, .inl (cI, ro, .inl ((st_rm K k) 8))), (a 8, .inl (cI, ro, .inl ((st_rm K k) 9))), (a 9, .inl (cI, ro, .inl ((st_rm K k) 10))), (b 0, .inr (2, [.ref (b 1), .ref (b 2), .ref (b 3)])), (b 1, .inl (cI, 32, .inl (M 0))), (b 2, .inl (cI, 32, .inl (M 1))), (b 3, .inl (cZ, 8, .inl (M 2)))]) [4, 5, 6, 7, 0, 1, 2, 3] (by decide) rfl
      exact me_retV hx hb hr hlk hK hS dX0_letOut_53 hP9 hD9
    · refine lv_aload_n hx hb dX0_letOut_38 rfl (lv_at hl 2 rfl) ?_
      refine lv_aload_n hx hb dX0_letOut_39 rfl (lv_at hl 0 rfl) ?_
      refine va_get (D := D) (ci := 0) (v := .ref (a 8)) (C := RX0) (T := TX0) (N := 4) hx hb hg inX0 hown hK hP 0 rfl rfl 1 (by decide) (hg _ bw_1_51) (fun _ h9 => h9) rfl dX0_letOut_40 ?_
      refine lv_iload_n hx hb dX0_letOut_43 rfl (lv_at hl 1 rfl) ?_
      refine me_ild hx hb hK hP 2 0 rfl rfl (k) (rfl) (by omega) (by omega) dX0_letOut_44 ?_
      refine me_t (x := K 9 k) (y := nI ((K 9 k).toNatClampNeg)) (e9) ?_
      refine me_goV (wr := [(a 6, .inr (0, [.ref (a 7), .ref (a 8), .ref (a 9), .int (K 7 0)])), (a 7, .inl (cI, ro, .inl (K 8))), (a 8, .inl (cI, ro, .inl (K 9))), (a 9, .inl (cI, ro, .inl (K 10)))]) (wc := [(b 0, .inr (2, [.ref (b 1), .ref (b 2), .ref (b 3)])), (b 1, .inl (cI, 32, .inl (M 0))), (b 2, .inl (cI, 32, .inl (M 1))), (b 3, .inl (cZ, 8, .inl (M 2)))]) (w1 := [(b 0, .inr (2, [.ref (b 1), .ref (b 2), .ref (b 3)])), (b 1, .inl (cI, 32, .inl ((st_wb M ((K 9 k).toNatClampNeg)) 0))), (b 2, .inl (cI, 32, .inl ((st_wb M ((K 9 k).toNatClampNeg)) 1))), (b 3, .inl (cZ, 8, .inl ((st_wb M ((K 9 k).toNatClampNeg)) 2)))]) (va_runVN (C := RX2) (b := b 0) (As := [.int (nI ((K 9 k).toNatClampNeg))]) (rest := []) ⟨hx, hb, hml, hown, hg⟩ (c_sm_writeBack l D cI cZ cR b M ((K 9 k).toNatClampNeg) l9 s.heap.size) ⟨va_cnB 1 hg (bg_gi (fun _ h => h) bw_1_198) rfl rfl rfl (hN.1 _ ne_0) (hg _ bw_1_2) (by decide +kernel) ⟨Nat.le_of_ble_eq_true rfl, Nat.le_of_ble_eq_true rfl⟩, (hg _ bw_1_197), (hg _ bw_s_16)⟩ (me_preV (wc := [(b 0, .inr (2, [.ref (b 1), .ref (b 2), .ref (b 3)])), (b 1, .inl (cI, 32, .inl (M 0))), (b 2, .inl (cI, 32, .inl (M 1))), (b 3, .inl (cZ, 8, .inl (M 2)))]) hP hD hK hN [4, 5, 6, 7] rfl (by decide) (va_recv (q0 := 4) (ci := 2) hK hP rfl rfl)) rfl rfl hl.1 rfl (lv_room (Nat.le_of_ble_eq_true rfl)) dX0_letOut_45 ⟨Nat.zero_le _, Nat.zero_le _⟩) hP hD hS hA [4, 5, 6, 7] [0, 1, 2, 3] rfl rfl (by decide) (by decide) (fun H locs hP hD hS => ?_)
      have hP : va_P D vwCl [(a 6, .inr (0, [.ref (a 7), .ref (a 8), .ref (a 9), .int (K 7 0)])), (a 7, .inl (cI, ro, .inl (K 8))), (a 8, .inl (cI, ro, .inl (K 9))), (a 9, .inl (cI, ro, .inl (K 10))), (b 0, .inr (2, [.ref (b 1), .ref (b 2), .ref (b 3)])), (b 1, .inl (cI, 32, .inl ((st_wb M ((K 9 k).toNatClampNeg)) 0))), (b 2, .inl (cI, 32, .inl ((st_wb M ((K 9 k).toNatClampNeg)) 1))), (b 3, .inl (cZ, 8, .inl ((st_wb M ((K 9 k).toNatClampNeg)) 2)))] H := hP
      have hD : va_D A [(a 6, .inr (0, [.ref (a 7), .ref (a 8), .ref (a 9), .int (K 7 0)])), (a 7, .inl (cI, ro, .inl (K 8))), (a 8, .inl (cI, ro, .inl (K 9))), (a 9, .inl (cI, ro, .inl (K 10))), (b 0, .inr (2, [.ref (b 1), .ref (b 2), .ref (b 3)])), (b 1, .inl (cI, 32, .inl ((st_wb M ((K 9 k).toNatClampNeg)) 0))), (b 2, .inl (cI, 32, .inl ((st_wb M ((K 9 k).toNatClampNeg)) 1))), (b 3, .inl (cZ, 8, .inl ((st_wb M ((K 9 k).toNatClampNeg)) 2)))] := hD
      refine lv_aload_n hx hb dX0_letOut_48 rfl (lv_at hl 0 rfl) ?_
      refine lv_iload_n hx hb dX0_letOut_49 rfl (lv_at hl 1 rfl) ?_
      refine me_goV (wr := [(b 0, .inr (2, [.ref (b 1), .ref (b 2), .ref (b 3)])), (b 1, .inl (cI, 32, .inl ((st_wb M ((K 9 k).toNatClampNeg)) 0))), (b 2, .inl (cI, 32, .inl ((st_wb M ((K 9 k).toNatClampNeg)) 1))), (b 3, .inl (cZ, 8, .inl ((st_wb M ((K 9 k).toNatClampNeg)) 2)))]) (wc := [(a 6, .inr (0, [.ref (a 7), .ref (a 8), .ref (a 9), .int (K 7 0)])), (a 7, .inl (cI, ro, .inl (K 8))), (a 8, .inl (cI, ro, .inl (K 9))), (a 9, .inl (cI, ro, .inl (K 10)))]) (w1 := [(a 6, .inr (0, [.ref (a 7), .ref (a 8), .ref (a 9), .int ((st_rm K k) 7 0)])), (a 7, .inl (cI, ro, .inl ((st_rm K k) 8))), (a 8, .inl (cI, ro, .inl ((st_rm K k) 9))), (a 9, .inl (cI, ro, .inl ((st_rm K k) 10)))]) (va_runV (C := RX0) (b := a 6) (As := [.int (nI (k))]) (rest := []) ⟨hx, hb, hml, hown, hg⟩ (c_bu_remove l D cI cZ cR a ro K k hh hk hb1 hro H.size) (cwV 1 hg (bg_gV (fun _ h => h) bw_1_199 bw_1_201 bw_s_17 bw_1_4 bw_1_202) rfl rfl rfl (by decide +kernel) ⟨Nat.le_of_ble_eq_true rfl, Nat.le_of_ble_eq_true rfl⟩) (me_preV (wc := [(a 6, .inr (0, [.ref (a 7), .ref (a 8), .ref (a 9), .int (K 7 0)])), (a 7, .inl (cI, ro, .inl (K 8))), (a 8, .inl (cI, ro, .inl (K 9))), (a 9, .inl (cI, ro, .inl (K 10)))]) hP hD hK hN [0, 1, 2, 3] rfl (by decide) (va_recv (q0 := 0) (ci := 0) hK hP rfl rfl)) rfl rfl hl.1 rfl (lv_room (Nat.le_of_ble_eq_true rfl)) dX0_letOut_50 ⟨Nat.zero_le _, Nat.zero_le _⟩) hP hD hS hA [0, 1, 2, 3] [4, 5, 6, 7] rfl rfl (by decide) (by decide) (fun H locs hP hD hS => ?_)
      have hP : va_P D vwCl [(b 0, .inr (2, [.ref (b 1), .ref (b 2), .ref (b 3)])), (b 1, .inl (cI, 32, .inl ((st_wb M ((K 9 k).toNatClampNeg)) 0))), (b 2, .inl (cI, 32, .inl ((st_wb M ((K 9 k).toNatClampNeg)) 1))), (b 3, .inl (cZ, 8, .inl ((st_wb M ((K 9 k).toNatClampNeg)) 2))), (a 6, .inr (0, [.ref (a 7), .ref (a 8), .ref (a 9), .int ((st_rm K k) 7 0)])), (a 7, .inl (cI, ro, .inl ((st_rm K k) 8))), (a 8, .inl (cI, ro, .inl ((st_rm K k) 9))), (a 9, .inl (cI, ro, .inl ((st_rm K k) 10)))] H := hP
      have hD : va_D A [(b 0, .inr (2, [.ref (b 1), .ref (b 2), .ref (b 3)])), (b 1, .inl (cI, 32, .inl ((st_wb M ((K 9 k).toNatClampNeg)) 0))), (b 2, .inl (cI, 32, .inl ((st_wb M ((K 9 k).toNatClampNeg)) 1))), (b 3, .inl (cZ, 8, .inl ((st_wb M ((K 9 k).toNatClampNeg)) 2))), (a 6, .inr (0, [.ref (a 7), .ref (a 8), .ref (a 9), .int ((st_rm K k) 7 0)])), (a 7, .inl (cI, ro, .inl ((st_rm K k) 8))), (a 8, .inl (cI, ro, .inl ((st_rm K k) 9))), (a 9, .inl (cI, ro, .inl ((st_rm K k) 10)))] := hD
      rw [show st_out M K k = st_wb M (K 9 k).toNatClampNeg from (me_swf b6).trans (me_swf b35)]
      have hP9 := me_subP (ws' := [(a 6, .inr (0, [.ref (a 7), .ref (a 8), .ref (a 9), .int ((st_rm K k) 7 0)])), (a 7, .inl (cI, ro, .inl ((st_rm K k) 8))), (a 8, .inl (cI, ro, .inl ((st_rm K k) 9))), (a 9, .inl (cI, ro, .inl ((st_rm K k) 10))), (b 0, .inr (2, [.ref (b 1), .ref (b 2), .ref (b 3)])), (b 1, .inl (cI, 32, .inl ((st_wb M (K 9 k).toNatClampNeg) 0))), (b 2, .inl (cI, 32, .inl ((st_wb M (K 9 k).toNatClampNeg) 1))), (b 3, .inl (cZ, 8, .inl ((st_wb M (K 9 k).toNatClampNeg) 2)))]) hP [4, 5, 6, 7, 0, 1, 2, 3] rfl
      have hD9 := hD.sub (ws' := [(a 6, .inr (0, [.ref (a 7), .ref (a 8), .ref (a 9), .int ((st_rm K k) 7 0)])), (a 7, .inl (cI, ro, .inl ((st_rm K k) 8))), (a 8, .inl (cI, ro, .inl ((st_rm K k) 9))), (a 9, .inl (cI, ro, .inl ((st_rm K k) 10))), (b 0, .inr (2, [.ref (b 1), .ref (b 2), .ref (b 3)])), (b 1, .inl (cI, 32, .inl ((st_wb M (K 9 k).toNatClampNeg) 0))), (b 2, .inl (cI, 32, .inl ((st_wb M (K 9 k).toNatClampNeg) 1))), (b 3, .inl (cZ, 8, .inl ((st_wb M (K 9 k).toNatClampNeg) 2)))]) [4, 5, 6, 7, 0, 1, 2, 3] (by decide) rfl
      exact me_retV hx hb hr hlk hK hS dX0_letOut_53 hP9 hD9
  · obtain ⟨e9, l9⟩ := h0 b6
    refine lv_aload_n hx hb dX0_letOut_9 rfl (lv_at hl 2 rfl) ?_
    refine lv_aload_n hx hb dX0_letOut_10 rfl (lv_at hl 0 rfl) ?_
    refine va_get (D := D) (ci := 0) (v := .ref (a 8)) (C := RX0) (T := TX0) (N := 4) hx hb hg inX0 hown hK hP 0 rfl rfl 1 (by decide) (hg _ bw_1_51) (fun _ h9 => h9) rfl dX0_letOut_11 ?_
    refine lv_iload_n hx hb dX0_letOut_14 rfl (lv_at hl 1 rfl) ?_
    refine me_ild hx hb hK hP 2 0 rfl rfl (k) (rfl) (by omega) (by omega) dX0_letOut_15 ?_
    refine me_t (x := K 9 k) (y := nI ((K 9 k).toNatClampNeg)) (e9) ?_
    refine lv_aload_n hx hb dX0_letOut_16 rfl (lv_at hl 0 rfl) ?_
    refine va_get (D := D) (ci := 0) (v := .ref (a 9)) (C := RX0) (T := TX0) (N := 4) hx hb hg inX0 hown hK hP 0 rfl rfl 2 (by decide) (hg _ bw_1_53) (fun _ h9 => h9) rfl dX0_letOut_17 ?_
    refine lv_iload_n hx hb dX0_letOut_20 rfl (lv_at hl 1 rfl) ?_
    refine me_ild hx hb hK hP 3 0 rfl rfl (k) (rfl) (by omega) (by omega) dX0_letOut_21 ?_
    refine me_goV (wr := [(a 6, .inr (0, [.ref (a 7), .ref (a 8), .ref (a 9), .int (K 7 0)])), (a 7, .inl (cI, ro, .inl (K 8))), (a 8, .inl (cI, ro, .inl (K 9))), (a 9, .inl (cI, ro, .inl (K 10)))]) (wc := [(b 0, .inr (2, [.ref (b 1), .ref (b 2), .ref (b 3)])), (b 1, .inl (cI, 32, .inl (M 0))), (b 2, .inl (cI, 32, .inl (M 1))), (b 3, .inl (cZ, 8, .inl (M 2)))]) (w1 := [(b 0, .inr (2, [.ref (b 1), .ref (b 2), .ref (b 3)])), (b 1, .inl (cI, 32, .inl ((st_wr M ((K 9 k).toNatClampNeg) (K 10 k)) 0))), (b 2, .inl (cI, 32, .inl ((st_wr M ((K 9 k).toNatClampNeg) (K 10 k)) 1))), (b 3, .inl (cZ, 8, .inl ((st_wr M ((K 9 k).toNatClampNeg) (K 10 k)) 2)))]) (va_runVN (C := RX2) (b := b 0) (As := [.int (nI ((K 9 k).toNatClampNeg)), .int (K 10 k)]) (rest := []) ⟨hx, hb, hml, hown, hg⟩ (c_sm_write l D cI cZ cR b M ((K 9 k).toNatClampNeg) (K 10 k) l9 s.heap.size) ⟨va_cnB 2 hg (bg_gi (fun _ h => h) bw_1_165) rfl rfl rfl (hN.1 _ ne_1) (hg _ bw_1_2) (by decide +kernel) ⟨Nat.le_of_ble_eq_true rfl, Nat.le_of_ble_eq_true rfl⟩, (hg _ bw_1_164), (hg _ bw_s_10)⟩ (me_preV (wc := [(b 0, .inr (2, [.ref (b 1), .ref (b 2), .ref (b 3)])), (b 1, .inl (cI, 32, .inl (M 0))), (b 2, .inl (cI, 32, .inl (M 1))), (b 3, .inl (cZ, 8, .inl (M 2)))]) hP hD hK hN [4, 5, 6, 7] rfl (by decide) (va_recv (q0 := 4) (ci := 2) hK hP rfl rfl)) rfl rfl hl.1 rfl (lv_room (Nat.le_of_ble_eq_true rfl)) dX0_letOut_22 ⟨Nat.zero_le _, Nat.zero_le _⟩) hP hD hS hA [4, 5, 6, 7] [0, 1, 2, 3] rfl rfl (by decide) (by decide) (fun H locs hP hD hS => ?_)
    have hP : va_P D vwCl [(a 6, .inr (0, [.ref (a 7), .ref (a 8), .ref (a 9), .int (K 7 0)])), (a 7, .inl (cI, ro, .inl (K 8))), (a 8, .inl (cI, ro, .inl (K 9))), (a 9, .inl (cI, ro, .inl (K 10))), (b 0, .inr (2, [.ref (b 1), .ref (b 2), .ref (b 3)])), (b 1, .inl (cI, 32, .inl ((st_wr M ((K 9 k).toNatClampNeg) (K 10 k)) 0))), (b 2, .inl (cI, 32, .inl ((st_wr M ((K 9 k).toNatClampNeg) (K 10 k)) 1))), (b 3, .inl (cZ, 8, .inl ((st_wr M ((K 9 k).toNatClampNeg) (K 10 k)) 2)))] H := hP
    have hD : va_D A [(a 6, .inr (0, [.ref (a 7), .ref (a 8), .ref (a 9), .int (K 7 0)])), (a 7, .inl (cI, ro, .inl (K 8))), (a 8, .inl (cI, ro, .inl (K 9))), (a 9, .inl (cI, ro, .inl (K 10))), (b 0, .inr (2, [.ref (b 1), .ref (b 2), .ref (b 3)])), (b 1, .inl (cI, 32, .inl ((st_wr M ((K 9 k).toNatClampNeg) (K 10 k)) 0))), (b 2, .inl (cI, 32, .inl ((st_wr M ((K 9 k).toNatClampNeg) (K 10 k)) 1))), (b 3, .inl (cZ, 8, .inl ((st_wr M ((K 9 k).toNatClampNeg) (K 10 k)) 2)))] := hD
    refine lv_goto (tgt := 48) hx hb dX0_letOut_25 (by decide) ?_
    refine lv_aload_n hx hb dX0_letOut_48 rfl (lv_at hl 0 rfl) ?_
    refine lv_iload_n hx hb dX0_letOut_49 rfl (lv_at hl 1 rfl) ?_
    refine me_goV (wr := [(b 0, .inr (2, [.ref (b 1), .ref (b 2), .ref (b 3)])), (b 1, .inl (cI, 32, .inl ((st_wr M ((K 9 k).toNatClampNeg) (K 10 k)) 0))), (b 2, .inl (cI, 32, .inl ((st_wr M ((K 9 k).toNatClampNeg) (K 10 k)) 1))), (b 3, .inl (cZ, 8, .inl ((st_wr M ((K 9 k).toNatClampNeg) (K 10 k)) 2)))]) (wc := [(a 6, .inr (0, [.ref (a 7), .ref (a 8), .ref (a 9), .int (K 7 0)])), (a 7, .inl (cI, ro, .inl (K 8))), (a 8, .inl (cI, ro, .inl (K 9))), (a 9, .inl (cI, ro, .inl (K 10)))]) (w1 := [(a 6, .inr (0, [.ref (a 7), .ref (a 8), .ref (a 9), .int ((st_rm K k) 7 0)])), (a 7, .inl (cI, ro, .inl ((st_rm K k) 8))), (a 8, .inl (cI, ro, .inl ((st_rm K k) 9))), (a 9, .inl (cI, ro, .inl ((st_rm K k) 10)))]) (va_runV (C := RX0) (b := a 6) (As := [.int (nI (k))]) (rest := []) ⟨hx, hb, hml, hown, hg⟩ (c_bu_remove l D cI cZ cR a ro K k hh hk hb1 hro H.size) (cwV 1 hg (bg_gV (fun _ h => h) bw_1_199 bw_1_201 bw_s_17 bw_1_4 bw_1_202) rfl rfl rfl (by decide +kernel) ⟨Nat.le_of_ble_eq_true rfl, Nat.le_of_ble_eq_true rfl⟩) (me_preV (wc := [(a 6, .inr (0, [.ref (a 7), .ref (a 8), .ref (a 9), .int (K 7 0)])), (a 7, .inl (cI, ro, .inl (K 8))), (a 8, .inl (cI, ro, .inl (K 9))), (a 9, .inl (cI, ro, .inl (K 10)))]) hP hD hK hN [0, 1, 2, 3] rfl (by decide) (va_recv (q0 := 0) (ci := 0) hK hP rfl rfl)) rfl rfl hl.1 rfl (lv_room (Nat.le_of_ble_eq_true rfl)) dX0_letOut_50 ⟨Nat.zero_le _, Nat.zero_le _⟩) hP hD hS hA [0, 1, 2, 3] [4, 5, 6, 7] rfl rfl (by decide) (by decide) (fun H locs hP hD hS => ?_)
    have hP : va_P D vwCl [(b 0, .inr (2, [.ref (b 1), .ref (b 2), .ref (b 3)])), (b 1, .inl (cI, 32, .inl ((st_wr M ((K 9 k).toNatClampNeg) (K 10 k)) 0))), (b 2, .inl (cI, 32, .inl ((st_wr M ((K 9 k).toNatClampNeg) (K 10 k)) 1))), (b 3, .inl (cZ, 8, .inl ((st_wr M ((K 9 k).toNatClampNeg) (K 10 k)) 2))), (a 6, .inr (0, [.ref (a 7), .ref (a 8), .ref (a 9), .int ((st_rm K k) 7 0)])), (a 7, .inl (cI, ro, .inl ((st_rm K k) 8))), (a 8, .inl (cI, ro, .inl ((st_rm K k) 9))), (a 9, .inl (cI, ro, .inl ((st_rm K k) 10)))] H := hP
    have hD : va_D A [(b 0, .inr (2, [.ref (b 1), .ref (b 2), .ref (b 3)])), (b 1, .inl (cI, 32, .inl ((st_wr M ((K 9 k).toNatClampNeg) (K 10 k)) 0))), (b 2, .inl (cI, 32, .inl ((st_wr M ((K 9 k).toNatClampNeg) (K 10 k)) 1))), (b 3, .inl (cZ, 8, .inl ((st_wr M ((K 9 k).toNatClampNeg) (K 10 k)) 2))), (a 6, .inr (0, [.ref (a 7), .ref (a 8), .ref (a 9), .int ((st_rm K k) 7 0)])), (a 7, .inl (cI, ro, .inl ((st_rm K k) 8))), (a 8, .inl (cI, ro, .inl ((st_rm K k) 9))), (a 9, .inl (cI, ro, .inl ((st_rm K k) 10)))] := hD
    rw [show st_out M K k = st_wr M (K 9 k).toNatClampNeg (K 10 k) from me_swt b6]
    have hP9 := me_subP (ws' := [(a 6, .inr (0, [.ref (a 7), .ref (a 8), .ref (a 9), .int ((st_rm K k) 7 0)])), (a 7, .inl (cI, ro, .inl ((st_rm K k) 8))), (a 8, .inl (cI, ro, .inl ((st_rm K k) 9))), (a 9, .inl (cI, ro, .inl ((st_rm K k) 10))), (b 0, .inr (2, [.ref (b 1), .ref (b 2), .ref (b 3)])), (b 1, .inl (cI, 32, .inl ((st_wr M (K 9 k).toNatClampNeg (K 10 k)) 0))), (b 2, .inl (cI, 32, .inl ((st_wr M (K 9 k).toNatClampNeg (K 10 k)) 1))), (b 3, .inl (cZ, 8, .inl ((st_wr M (K 9 k).toNatClampNeg (K 10 k)) 2)))]) hP [4, 5, 6, 7, 0, 1, 2, 3] rfl
    have hD9 := hD.sub (ws' := [(a 6, .inr (0, [.ref (a 7), .ref (a 8), .ref (a 9), .int ((st_rm K k) 7 0)])), (a 7, .inl (cI, ro, .inl ((st_rm K k) 8))), (a 8, .inl (cI, ro, .inl ((st_rm K k) 9))), (a 9, .inl (cI, ro, .inl ((st_rm K k) 10))), (b 0, .inr (2, [.ref (b 1), .ref (b 2), .ref (b 3)])), (b 1, .inl (cI, 32, .inl ((st_wr M (K 9 k).toNatClampNeg (K 10 k)) 0))), (b 2, .inl (cI, 32, .inl ((st_wr M (K 9 k).toNatClampNeg (K 10 k)) 1))), (b 3, .inl (cZ, 8, .inl ((st_wr M (K 9 k).toNatClampNeg (K 10 k)) 2)))]) [4, 5, 6, 7, 0, 1, 2, 3] (by decide) rfl
    exact me_retV hx hb hr hlk hK hS dX0_letOut_53 hP9 hD9
