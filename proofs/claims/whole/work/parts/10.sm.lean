set_option maxHeartbeats 4000000 in
set_option maxRecDepth 100000 in
theorem c_sm_write (l : Launch) (D : va_G) (cI cZ cR : ClassId) (b : Nat → Nat) (M : st_T) (w : Nat) (v : Int32) (hw : w < 32) : me_V l yX2_write wsX2_write ({ frames := 0, cells := 0, slots := 0, locals := 0 } : Room) D (me_TYS cI cZ cR) ([.ref (b 0), .int (nI (w)), .int (v)] : List Value) (w_sh b cI cZ M) (w_sh b cI cZ (st_wr M w v)) := by
  intro sz
  refine me_ent (cc := cX2_write) (maxL := 3) (ret := none) (Qf := me_QV D (me_TYS cI cZ cR) (w_sh b cI cZ (st_wr M w v))) (by decide) rfl (Nat.le_of_ble_eq_true rfl) ?_
  intro p e s m below meth c A ls hx hb hr hml hts hown hlk hin hP hK hD hN hA hS hl
  have hown : s.vm.findClass RX2 = some m.cls := hown
  have hg : ∀ w9 ∈ bg, w9.before ([.ref (b 0), .int (nI (w)), .int (v)] : List Value).toArray s = true := fun w9 h9 => hts w9 (List.mem_cons_of_mem _ h9)
  have hl : lv_has ls 3 [(0, .ref (b 0)), (1, .int (nI (w))), (2, .int (v))] := hl
  have hP : va_P D vwCl [(b 0, .inr (2, [.ref (b 1), .ref (b 2), .ref (b 3)])), (b 1, .inl (cI, 32, .inl (M 0))), (b 2, .inl (cI, 32, .inl (M 1))), (b 3, .inl (cZ, 8, .inl (M 2)))] s.heap := hP
  have hD : va_D A [(b 0, .inr (2, [.ref (b 1), .ref (b 2), .ref (b 3)])), (b 1, .inl (cI, 32, .inl (M 0))), (b 2, .inl (cI, 32, .inl (M 1))), (b 3, .inl (cZ, 8, .inl (M 2)))] := hD
  refine lv_aload_n hx hb dX2_write_0 rfl (lv_at hl 0 rfl) ?_
  refine va_get (D := D) (ci := 2) (v := .ref (b 1)) (C := RX2) (T := TX2) (N := 3) hx hb hg inX2 hown hK hP 0 rfl rfl 0 (by decide) (hg _ bw_1_20) (fun _ h9 => h9) rfl dX2_write_1 ?_
  refine lv_iload_n hx hb dX2_write_4 rfl (lv_at hl 1 rfl) ?_
  refine lv_iload_n hx hb dX2_write_5 rfl (lv_at hl 2 rfl) ?_
  refine me_ist hx hb hK hP hD hS 1 0 rfl rfl (w) (rfl) (by omega) (by omega) dX2_write_6 (fun H locs hP hD hS => ?_)
  have hP : va_P D vwCl [(b 0, .inr (2, [.ref (b 1), .ref (b 2), .ref (b 3)])), (b 1, .inl (cI, 32, .inl (upd (M 0) (w) (v)))), (b 2, .inl (cI, 32, .inl (M 1))), (b 3, .inl (cZ, 8, .inl (M 2)))] H := hP
  have hD : va_D A [(b 0, .inr (2, [.ref (b 1), .ref (b 2), .ref (b 3)])), (b 1, .inl (cI, 32, .inl (upd (M 0) (w) (v)))), (b 2, .inl (cI, 32, .inl (M 1))), (b 3, .inl (cZ, 8, .inl (M 2)))] := hD
  refine lv_aload_n hx hb dX2_write_7 rfl (lv_at hl 0 rfl) ?_
  refine va_get (D := D) (ci := 2) (v := .ref (b 3)) (C := RX2) (T := TX2) (N := 3) hx hb hg inX2 hown hK hP 0 rfl rfl 2 (by decide) (hg _ bw_1_25) (fun _ h9 => h9) rfl dX2_write_8 ?_
  refine lv_iload_n hx hb dX2_write_11 rfl (lv_at hl 1 rfl) ?_
  refine lv_iconst (v := 4) hx hb dX2_write_12 (by decide) ?_
  refine lv_idiv hx hb dX2_write_13 (by decide) ?_
  refine me_t (x := (nI (w)) / 4) (y := nI (w / 4)) (pk_div (a := w) (d := 4) (by omega) (by omega) (by omega)) ?_
  refine lv_iconst (v := 1) hx hb dX2_write_14 (by decide) ?_
  refine me_zst hx hb hK hP hD hS 3 1 rfl rfl (w / 4) (rfl) (by omega) (by omega) (rfl) dX2_write_15 (fun H locs hP hD hS => ?_)
  have hP : va_P D vwCl [(b 0, .inr (2, [.ref (b 1), .ref (b 2), .ref (b 3)])), (b 1, .inl (cI, 32, .inl (upd (M 0) (w) (v)))), (b 2, .inl (cI, 32, .inl (M 1))), (b 3, .inl (cZ, 8, .inl (upd (M 2) (w / 4) (1))))] H := hP
  have hD : va_D A [(b 0, .inr (2, [.ref (b 1), .ref (b 2), .ref (b 3)])), (b 1, .inl (cI, 32, .inl (upd (M 0) (w) (v)))), (b 2, .inl (cI, 32, .inl (M 1))), (b 3, .inl (cZ, 8, .inl (upd (M 2) (w / 4) (1))))] := hD
  have hP9 := me_subP (ws' := [(b 0, .inr (2, [.ref (b 1), .ref (b 2), .ref (b 3)])), (b 1, .inl (cI, 32, .inl ((st_wr M w v) 0))), (b 2, .inl (cI, 32, .inl ((st_wr M w v) 1))), (b 3, .inl (cZ, 8, .inl ((st_wr M w v) 2)))]) hP [0, 1, 2, 3] rfl
  have hD9 := hD.sub (ws' := [(b 0, .inr (2, [.ref (b 1), .ref (b 2), .ref (b 3)])), (b 1, .inl (cI, 32, .inl ((st_wr M w v) 0))), (b 2, .inl (cI, 32, .inl ((st_wr M w v) 1))), (b 3, .inl (cZ, 8, .inl ((st_wr M w v) 2)))]) [0, 1, 2, 3] (by decide) rfl
  exact me_retV hx hb hr hlk hK hS dX2_write_16 hP9 hD9
set_option maxHeartbeats 4000000 in
set_option maxRecDepth 100000 in
theorem c_sm_writeBack (l : Launch) (D : va_G) (cI cZ cR : ClassId) (b : Nat → Nat) (M : st_T) (q : Nat) (hq : q < 8) : me_V l yX2_writeBack wsX2_writeBack ({ frames := 0, cells := 0, slots := 0, locals := 0 } : Room) D (me_TYS cI cZ cR) ([.ref (b 0), .int (nI (q))] : List Value) (w_sh b cI cZ M) (w_sh b cI cZ (st_wb M q)) := by
  intro sz
  refine me_ent (cc := cX2_writeBack) (maxL := 4) (ret := none) (Qf := me_QV D (me_TYS cI cZ cR) (w_sh b cI cZ (st_wb M q))) (by decide) rfl (Nat.le_of_ble_eq_true rfl) ?_
  intro p e s m below meth c A ls hx hb hr hml hts hown hlk hin hP hK hD hN hA hS hl
  have hown : s.vm.findClass RX2 = some m.cls := hown
  have hg : ∀ w9 ∈ bg, w9.before ([.ref (b 0), .int (nI (q))] : List Value).toArray s = true := fun w9 h9 => hts w9 (List.mem_cons_of_mem _ h9)
  have hl : lv_has ls 4 [(0, .ref (b 0)), (1, .int (nI (q)))] := hl
  have hP : va_P D vwCl [(b 0, .inr (2, [.ref (b 1), .ref (b 2), .ref (b 3)])), (b 1, .inl (cI, 32, .inl (M 0))), (b 2, .inl (cI, 32, .inl (M 1))), (b 3, .inl (cZ, 8, .inl (M 2)))] s.heap := hP
  have hD : va_D A [(b 0, .inr (2, [.ref (b 1), .ref (b 2), .ref (b 3)])), (b 1, .inl (cI, 32, .inl (M 0))), (b 2, .inl (cI, 32, .inl (M 1))), (b 3, .inl (cZ, 8, .inl (M 2)))] := hD
  refine lv_iload_n hx hb dX2_writeBack_0 rfl (lv_at hl 1 rfl) ?_
  refine lv_iconst (v := 4) hx hb dX2_writeBack_1 (by decide) ?_
  refine lv_imul hx hb dX2_writeBack_2 ?_
  refine me_t (x := (nI (q)) * 4) (y := nI (4 * q)) ((pk_mul q 4).trans (congrArg nI (Nat.mul_comm q 4))) ?_
  refine lv_istore_n hx hb dX2_writeBack_3 rfl hl (by decide) rfl (fun ls hl => ?_)
  have hl : lv_has ls 4 [(2, .int (nI (4 * q))), (0, .ref (b 0)), (1, .int (nI (q)))] := hl
  refine lv_iload_n hx hb dX2_writeBack_4 rfl (lv_at hl 0 rfl) ?_
  refine lv_istore_n hx hb dX2_writeBack_5 rfl hl (by decide) rfl (fun ls hl => ?_)
  have hl : lv_has ls 4 [(3, .int (nI (4 * q))), (2, .int (nI (4 * q))), (0, .ref (b 0)), (1, .int (nI (q)))] := hl
  have loop6 : ∀ (d : Nat) (j : Nat) (H : Heap) (locs : List Loc) (ls : Array Slot), d = 4 * q + 4 - j → 4 * q ≤ j → j ≤ 4 * q + 4 → va_P D vwCl [(b 0, .inr (2, [.ref (b 1), .ref (b 2), .ref (b 3)])), (b 1, .inl (cI, 32, .inl (M 0))), (b 2, .inl (cI, 32, .inl (st_cp (M 0) (M 1) (4 * q) (j)))), (b 3, .inl (cZ, 8, .inl (M 2)))] H → va_D A [(b 0, .inr (2, [.ref (b 1), .ref (b 2), .ref (b 3)])), (b 1, .inl (cI, 32, .inl (M 0))), (b 2, .inl (cI, 32, .inl (st_cp (M 0) (M 1) (4 * q) (j)))), (b 3, .inl (cZ, 8, .inl (M 2)))] → va_S A s.heap H locs → lv_has ls 4 [(0, .ref (b 0)), (1, .int (nI (q))), (2, .int (nI (4 * q))), (3, .int (nI (j)))] → W p l e ({ frames := 0, cells := 0, slots := 0, locals := 0 } : Room) s m ([.ref (b 0), .int (nI (q))] : List Value).toArray below meth c H locs 0 0 (MQ below (me_QV D (me_TYS cI cZ cR) (w_sh b cI cZ (st_wb M q)) A) ([.ref (b 0), .int (nI (q))] : List Value).toArray s 0 0 A) (F0 m 6 ls []) := by
    intro d
    induction d with
    | zero =>
      intro j H locs ls hd h1 h2 hP hD hS hl
      refine lv_iload_n hx hb dX2_writeBack_6 rfl (lv_at hl 3 rfl) ?_
      refine lv_iload_n hx hb dX2_writeBack_7 rfl (lv_at hl 2 rfl) ?_
      refine lv_iconst (v := 4) hx hb dX2_writeBack_8 (by decide) ?_
      refine lv_iadd hx hb dX2_writeBack_9 ?_
      refine me_t (x := (nI (4 * q)) + 4) (y := nI (4 * q + 4)) (nI_add (4 * q) (4)) ?_
      refine lv_icmp_ge (tgt := 31) hx hb dX2_writeBack_10 (by decide) (fun b10 => ?_) (fun b10 => ?_)
      · have b10 := me_le (a := 4 * q + 4) (b := j) (by omega) (by omega) b10
        have hj : j = 4 * q + 4 := by omega
        have hP : va_P D vwCl [(b 0, .inr (2, [.ref (b 1), .ref (b 2), .ref (b 3)])), (b 1, .inl (cI, 32, .inl (M 0))), (b 2, .inl (cI, 32, .inl (st_cp (M 0) (M 1) (4 * q) (4 * q + 4)))), (b 3, .inl (cZ, 8, .inl (M 2)))] H := by rw [← hj]; exact hP
        have hD : va_D A [(b 0, .inr (2, [.ref (b 1), .ref (b 2), .ref (b 3)])), (b 1, .inl (cI, 32, .inl (M 0))), (b 2, .inl (cI, 32, .inl (st_cp (M 0) (M 1) (4 * q) (4 * q + 4)))), (b 3, .inl (cZ, 8, .inl (M 2)))] := by rw [← hj]; exact hD
        refine lv_aload_n hx hb dX2_writeBack_31 rfl (lv_at hl 0 rfl) ?_
        refine va_get (D := D) (ci := 2) (v := .ref (b 3)) (C := RX2) (T := TX2) (N := 3) hx hb hg inX2 hown hK hP 0 rfl rfl 2 (by decide) (hg _ bw_1_25) (fun _ h9 => h9) rfl dX2_writeBack_32 ?_
        refine lv_iload_n hx hb dX2_writeBack_35 rfl (lv_at hl 1 rfl) ?_
        refine lv_iconst (v := 0) hx hb dX2_writeBack_36 (by decide) ?_
        refine me_zst hx hb hK hP hD hS 3 1 rfl rfl (q) (rfl) (by omega) (by omega) (rfl) dX2_writeBack_37 (fun H locs hP hD hS => ?_)
        have hP : va_P D vwCl [(b 0, .inr (2, [.ref (b 1), .ref (b 2), .ref (b 3)])), (b 1, .inl (cI, 32, .inl (M 0))), (b 2, .inl (cI, 32, .inl (st_cp (M 0) (M 1) (4 * q) (4 * q + 4)))), (b 3, .inl (cZ, 8, .inl (upd (M 2) (q) (0))))] H := hP
        have hD : va_D A [(b 0, .inr (2, [.ref (b 1), .ref (b 2), .ref (b 3)])), (b 1, .inl (cI, 32, .inl (M 0))), (b 2, .inl (cI, 32, .inl (st_cp (M 0) (M 1) (4 * q) (4 * q + 4)))), (b 3, .inl (cZ, 8, .inl (upd (M 2) (q) (0))))] := hD
        have hP9 := me_subP (ws' := [(b 0, .inr (2, [.ref (b 1), .ref (b 2), .ref (b 3)])), (b 1, .inl (cI, 32, .inl ((st_wb M q) 0))), (b 2, .inl (cI, 32, .inl ((st_wb M q) 1))), (b 3, .inl (cZ, 8, .inl ((st_wb M q) 2)))]) hP [0, 1, 2, 3] rfl
        have hD9 := hD.sub (ws' := [(b 0, .inr (2, [.ref (b 1), .ref (b 2), .ref (b 3)])), (b 1, .inl (cI, 32, .inl ((st_wb M q) 0))), (b 2, .inl (cI, 32, .inl ((st_wb M q) 1))), (b 3, .inl (cZ, 8, .inl ((st_wb M q) 2)))]) [0, 1, 2, 3] (by decide) rfl
        exact me_retV hx hb hr hlk hK hS dX2_writeBack_38 hP9 hD9
      · have b10 := me_nle (a := 4 * q + 4) (b := j) (by omega) (by omega) b10
        exfalso
        omega
    | succ d ih =>
      intro j H locs ls hd h1 h2 hP hD hS hl
      refine lv_iload_n hx hb dX2_writeBack_6 rfl (lv_at hl 3 rfl) ?_
      refine lv_iload_n hx hb dX2_writeBack_7 rfl (lv_at hl 2 rfl) ?_
      refine lv_iconst (v := 4) hx hb dX2_writeBack_8 (by decide) ?_
      refine lv_iadd hx hb dX2_writeBack_9 ?_
      refine me_t (x := (nI (4 * q)) + 4) (y := nI (4 * q + 4)) (nI_add (4 * q) (4)) ?_
      refine lv_icmp_ge (tgt := 31) hx hb dX2_writeBack_10 (by decide) (fun b10 => ?_) (fun b10 => ?_)
      · have b10 := me_le (a := 4 * q + 4) (b := j) (by omega) (by omega) b10
        exfalso
        omega
      · have b10 := me_nle (a := 4 * q + 4) (b := j) (by omega) (by omega) b10
        refine lv_aload_n hx hb dX2_writeBack_13 rfl (lv_at hl 0 rfl) ?_
        refine va_get (D := D) (ci := 2) (v := .ref (b 2)) (C := RX2) (T := TX2) (N := 3) hx hb hg inX2 hown hK hP 0 rfl rfl 1 (by decide) (hg _ bw_1_23) (fun _ h9 => h9) rfl dX2_writeBack_14 ?_
        refine lv_iload_n hx hb dX2_writeBack_17 rfl (lv_at hl 3 rfl) ?_
        refine lv_aload_n hx hb dX2_writeBack_18 rfl (lv_at hl 0 rfl) ?_
        refine va_get (D := D) (ci := 2) (v := .ref (b 1)) (C := RX2) (T := TX2) (N := 3) hx hb hg inX2 hown hK hP 0 rfl rfl 0 (by decide) (hg _ bw_1_20) (fun _ h9 => h9) rfl dX2_writeBack_19 ?_
        refine lv_iload_n hx hb dX2_writeBack_22 rfl (lv_at hl 3 rfl) ?_
        refine me_ild hx hb hK hP 1 0 rfl rfl (j) (rfl) (by omega) (by omega) dX2_writeBack_23 ?_
        refine me_ist hx hb hK hP hD hS 2 0 rfl rfl (j) (rfl) (by omega) (by omega) dX2_writeBack_24 (fun H locs hP hD hS => ?_)
        have hP : va_P D vwCl [(b 0, .inr (2, [.ref (b 1), .ref (b 2), .ref (b 3)])), (b 1, .inl (cI, 32, .inl (M 0))), (b 2, .inl (cI, 32, .inl (upd (st_cp (M 0) (M 1) (4 * q) (j)) (j) (M 0 j)))), (b 3, .inl (cZ, 8, .inl (M 2)))] H := hP
        have hD : va_D A [(b 0, .inr (2, [.ref (b 1), .ref (b 2), .ref (b 3)])), (b 1, .inl (cI, 32, .inl (M 0))), (b 2, .inl (cI, 32, .inl (upd (st_cp (M 0) (M 1) (4 * q) (j)) (j) (M 0 j)))), (b 3, .inl (cZ, 8, .inl (M 2)))] := hD
        refine lv_iinc (k := 3) (v := nI (j + 1)) hx hb dX2_writeBack_25 hl rfl (me_inc (j)) (by decide) rfl (fun ls hl => ?_)
        have hl : lv_has ls 4 [(3, .int (nI (j + 1))), (0, .ref (b 0)), (1, .int (nI (q))), (2, .int (nI (4 * q)))] := hl
        refine lv_goto (tgt := 6) hx hb dX2_writeBack_28 (by decide) ?_
        have hP := me_subP (ws' := [(b 0, .inr (2, [.ref (b 1), .ref (b 2), .ref (b 3)])), (b 1, .inl (cI, 32, .inl (M 0))), (b 2, .inl (cI, 32, .inl (upd (st_cp (M 0) (M 1) (4 * q) (j)) (j) (M 0 j)))), (b 3, .inl (cZ, 8, .inl (M 2)))]) hP [0, 1, 2, 3] rfl
        have hD := hD.sub (ws' := [(b 0, .inr (2, [.ref (b 1), .ref (b 2), .ref (b 3)])), (b 1, .inl (cI, 32, .inl (M 0))), (b 2, .inl (cI, 32, .inl (upd (st_cp (M 0) (M 1) (4 * q) (j)) (j) (M 0 j)))), (b 3, .inl (cZ, 8, .inl (M 2)))]) [0, 1, 2, 3] (by decide) rfl
        have hP : va_P D vwCl [(b 0, .inr (2, [.ref (b 1), .ref (b 2), .ref (b 3)])), (b 1, .inl (cI, 32, .inl (M 0))), (b 2, .inl (cI, 32, .inl (st_cp (M 0) (M 1) (4 * q) (j + 1)))), (b 3, .inl (cZ, 8, .inl (M 2)))] H := by rw [← st_cpS h1]; exact hP
        have hD : va_D A [(b 0, .inr (2, [.ref (b 1), .ref (b 2), .ref (b 3)])), (b 1, .inl (cI, 32, .inl (M 0))), (b 2, .inl (cI, 32, .inl (st_cp (M 0) (M 1) (4 * q) (j + 1)))), (b 3, .inl (cZ, 8, .inl (M 2)))] := by rw [← st_cpS h1]; exact hD
        have hl := lv_sub (l' := [(0, .ref (b 0)), (1, .int (nI (q))), (2, .int (nI (4 * q))), (3, .int (nI (j + 1)))]) hl [1, 2, 3, 0] rfl
        exact ih (j + 1) _ _ _ (by omega) (by omega) (by omega) hP hD hS hl
  have hP := me_subP (ws' := [(b 0, .inr (2, [.ref (b 1), .ref (b 2), .ref (b 3)])), (b 1, .inl (cI, 32, .inl (M 0))), (b 2, .inl (cI, 32, .inl (M 1))), (b 3, .inl (cZ, 8, .inl (M 2)))]) hP [0, 1, 2, 3] rfl
  have hD := hD.sub (ws' := [(b 0, .inr (2, [.ref (b 1), .ref (b 2), .ref (b 3)])), (b 1, .inl (cI, 32, .inl (M 0))), (b 2, .inl (cI, 32, .inl (M 1))), (b 3, .inl (cZ, 8, .inl (M 2)))]) [0, 1, 2, 3] (by decide) rfl
  have hP : va_P D vwCl [(b 0, .inr (2, [.ref (b 1), .ref (b 2), .ref (b 3)])), (b 1, .inl (cI, 32, .inl (M 0))), (b 2, .inl (cI, 32, .inl (st_cp (M 0) (M 1) (4 * q) (4 * q)))), (b 3, .inl (cZ, 8, .inl (M 2)))] s.heap := by rw [st_cp0]; exact hP
  have hD : va_D A [(b 0, .inr (2, [.ref (b 1), .ref (b 2), .ref (b 3)])), (b 1, .inl (cI, 32, .inl (M 0))), (b 2, .inl (cI, 32, .inl (st_cp (M 0) (M 1) (4 * q) (4 * q)))), (b 3, .inl (cZ, 8, .inl (M 2)))] := by rw [st_cp0]; exact hD
  have hl := lv_sub (l' := [(0, .ref (b 0)), (1, .int (nI (q))), (2, .int (nI (4 * q))), (3, .int (nI (4 * q)))]) hl [2, 3, 1, 0] rfl
  exact loop6 _ (4 * q) _ _ _ rfl (Nat.le_refl _) (by omega) hP hD hS hl
set_option maxHeartbeats 4000000 in
set_option maxRecDepth 100000 in
theorem c_sm_fallBack (l : Launch) (D : va_G) (cI cZ cR : ClassId) (b : Nat → Nat) (M : st_T) : me_V l yX2_fallBackToStorage wsX2_fallBackToStorage ({ frames := 0, cells := 0, slots := 0, locals := 0 } : Room) D (me_TYS cI cZ cR) ([.ref (b 0)] : List Value) (w_sh b cI cZ M) (w_sh b cI cZ (st_fb M)) := by
  intro sz
  refine me_ent (cc := cX2_fallBackToStorage) (maxL := 2) (ret := none) (Qf := me_QV D (me_TYS cI cZ cR) (w_sh b cI cZ (st_fb M))) (by decide) rfl (Nat.le_of_ble_eq_true rfl) ?_
  intro p e s m below meth c A ls hx hb hr hml hts hown hlk hin hP hK hD hN hA hS hl
  have hown : s.vm.findClass RX2 = some m.cls := hown
  have hg : ∀ w9 ∈ bg, w9.before ([.ref (b 0)] : List Value).toArray s = true := fun w9 h9 => hts w9 (List.mem_cons_of_mem _ h9)
  have hl : lv_has ls 2 [(0, .ref (b 0))] := hl
  have hP : va_P D vwCl [(b 0, .inr (2, [.ref (b 1), .ref (b 2), .ref (b 3)])), (b 1, .inl (cI, 32, .inl (M 0))), (b 2, .inl (cI, 32, .inl (M 1))), (b 3, .inl (cZ, 8, .inl (M 2)))] s.heap := hP
  have hD : va_D A [(b 0, .inr (2, [.ref (b 1), .ref (b 2), .ref (b 3)])), (b 1, .inl (cI, 32, .inl (M 0))), (b 2, .inl (cI, 32, .inl (M 1))), (b 3, .inl (cZ, 8, .inl (M 2)))] := hD
  refine lv_iconst (v := 0) hx hb dX2_fallBackToStorage_0 (by decide) ?_
  refine lv_istore_n hx hb dX2_fallBackToStorage_1 rfl hl (by decide) rfl (fun ls hl => ?_)
  have hl : lv_has ls 2 [(1, .int (0)), (0, .ref (b 0))] := hl
  have loop2 : ∀ (d : Nat) (j : Nat) (H : Heap) (locs : List Loc) (ls : Array Slot), d = 32 - j → j ≤ 32 → va_P D vwCl [(b 0, .inr (2, [.ref (b 1), .ref (b 2), .ref (b 3)])), (b 1, .inl (cI, 32, .inl (st_cp (M 1) (M 0) 0 (j)))), (b 2, .inl (cI, 32, .inl (M 1))), (b 3, .inl (cZ, 8, .inl (M 2)))] H → va_D A [(b 0, .inr (2, [.ref (b 1), .ref (b 2), .ref (b 3)])), (b 1, .inl (cI, 32, .inl (st_cp (M 1) (M 0) 0 (j)))), (b 2, .inl (cI, 32, .inl (M 1))), (b 3, .inl (cZ, 8, .inl (M 2)))] → va_S A s.heap H locs → lv_has ls 2 [(0, .ref (b 0)), (1, .int (nI (j)))] → W p l e ({ frames := 0, cells := 0, slots := 0, locals := 0 } : Room) s m ([.ref (b 0)] : List Value).toArray below meth c H locs 0 0 (MQ below (me_QV D (me_TYS cI cZ cR) (w_sh b cI cZ (st_fb M)) A) ([.ref (b 0)] : List Value).toArray s 0 0 A) (F0 m 2 ls []) := by
    intro d
    induction d with
    | zero =>
      intro j H locs ls hd h2 hP hD hS hl
      refine lv_iload_n hx hb dX2_fallBackToStorage_2 rfl (lv_at hl 1 rfl) ?_
      refine lv_bipush (v := 32) hx hb dX2_fallBackToStorage_3 (by decide) ?_
      refine lv_icmp_ge (tgt := 26) hx hb dX2_fallBackToStorage_5 (by decide) (fun b5 => ?_) (fun b5 => ?_)
      · have b5 := me_le (a := 32) (b := j) (by omega) (by omega) b5
        have hj : j = 32 := by omega
        rw [hj] at hP hD
        have hP : va_P D vwCl [(b 0, .inr (2, [.ref (b 1), .ref (b 2), .ref (b 3)])), (b 1, .inl (cI, 32, .inl (st_cp (M 1) (M 0) 0 (32)))), (b 2, .inl (cI, 32, .inl (M 1))), (b 3, .inl (cZ, 8, .inl (M 2)))] H := hP
        have hD : va_D A [(b 0, .inr (2, [.ref (b 1), .ref (b 2), .ref (b 3)])), (b 1, .inl (cI, 32, .inl (st_cp (M 1) (M 0) 0 (32)))), (b 2, .inl (cI, 32, .inl (M 1))), (b 3, .inl (cZ, 8, .inl (M 2)))] := hD
        refine lv_iconst (v := 0) hx hb dX2_fallBackToStorage_26 (by decide) ?_
        refine lv_istore_n hx hb dX2_fallBackToStorage_27 rfl hl (by decide) rfl (fun ls hl => ?_)
        have hl : lv_has ls 2 [(1, .int (0)), (0, .ref (b 0))] := hl
        have loop28 : ∀ (d : Nat) (j : Nat) (H : Heap) (locs : List Loc) (ls : Array Slot), d = 8 - j → j ≤ 8 → va_P D vwCl [(b 0, .inr (2, [.ref (b 1), .ref (b 2), .ref (b 3)])), (b 1, .inl (cI, 32, .inl (st_cp (M 1) (M 0) 0 (32)))), (b 2, .inl (cI, 32, .inl (M 1))), (b 3, .inl (cZ, 8, .inl (st_ze (M 2) (j))))] H → va_D A [(b 0, .inr (2, [.ref (b 1), .ref (b 2), .ref (b 3)])), (b 1, .inl (cI, 32, .inl (st_cp (M 1) (M 0) 0 (32)))), (b 2, .inl (cI, 32, .inl (M 1))), (b 3, .inl (cZ, 8, .inl (st_ze (M 2) (j))))] → va_S A s.heap H locs → lv_has ls 2 [(0, .ref (b 0)), (1, .int (nI (j)))] → W p l e ({ frames := 0, cells := 0, slots := 0, locals := 0 } : Room) s m ([.ref (b 0)] : List Value).toArray below meth c H locs 0 0 (MQ below (me_QV D (me_TYS cI cZ cR) (w_sh b cI cZ (st_fb M)) A) ([.ref (b 0)] : List Value).toArray s 0 0 A) (F0 m 28 ls []) := by
          intro d
          induction d with
          | zero =>
            intro j H locs ls hd h2 hP hD hS hl
            refine lv_iload_n hx hb dX2_fallBackToStorage_28 rfl (lv_at hl 1 rfl) ?_
            refine lv_bipush (v := 8) hx hb dX2_fallBackToStorage_29 (by decide) ?_
            refine lv_icmp_ge (tgt := 47) hx hb dX2_fallBackToStorage_31 (by decide) (fun b31 => ?_) (fun b31 => ?_)
            · have b31 := me_le (a := 8) (b := j) (by omega) (by omega) b31
              have hj : j = 8 := by omega
              rw [hj] at hP hD
              have hP : va_P D vwCl [(b 0, .inr (2, [.ref (b 1), .ref (b 2), .ref (b 3)])), (b 1, .inl (cI, 32, .inl (st_cp (M 1) (M 0) 0 (32)))), (b 2, .inl (cI, 32, .inl (M 1))), (b 3, .inl (cZ, 8, .inl (st_ze (M 2) (8))))] H := hP
              have hD : va_D A [(b 0, .inr (2, [.ref (b 1), .ref (b 2), .ref (b 3)])), (b 1, .inl (cI, 32, .inl (st_cp (M 1) (M 0) 0 (32)))), (b 2, .inl (cI, 32, .inl (M 1))), (b 3, .inl (cZ, 8, .inl (st_ze (M 2) (8))))] := hD
              have hP9 := me_subP (ws' := [(b 0, .inr (2, [.ref (b 1), .ref (b 2), .ref (b 3)])), (b 1, .inl (cI, 32, .inl ((st_fb M) 0))), (b 2, .inl (cI, 32, .inl ((st_fb M) 1))), (b 3, .inl (cZ, 8, .inl ((st_fb M) 2)))]) hP [0, 1, 2, 3] rfl
              have hD9 := hD.sub (ws' := [(b 0, .inr (2, [.ref (b 1), .ref (b 2), .ref (b 3)])), (b 1, .inl (cI, 32, .inl ((st_fb M) 0))), (b 2, .inl (cI, 32, .inl ((st_fb M) 1))), (b 3, .inl (cZ, 8, .inl ((st_fb M) 2)))]) [0, 1, 2, 3] (by decide) rfl
              exact me_retV hx hb hr hlk hK hS dX2_fallBackToStorage_47 hP9 hD9
            · have b31 := me_nle (a := 8) (b := j) (by omega) (by omega) b31
              exfalso
              omega
          | succ d ih =>
            intro j H locs ls hd h2 hP hD hS hl
            refine lv_iload_n hx hb dX2_fallBackToStorage_28 rfl (lv_at hl 1 rfl) ?_
            refine lv_bipush (v := 8) hx hb dX2_fallBackToStorage_29 (by decide) ?_
            refine lv_icmp_ge (tgt := 47) hx hb dX2_fallBackToStorage_31 (by decide) (fun b31 => ?_) (fun b31 => ?_)
            · have b31 := me_le (a := 8) (b := j) (by omega) (by omega) b31
              exfalso
              omega
            · have b31 := me_nle (a := 8) (b := j) (by omega) (by omega) b31
              refine lv_aload_n hx hb dX2_fallBackToStorage_34 rfl (lv_at hl 0 rfl) ?_
              refine va_get (D := D) (ci := 2) (v := .ref (b 3)) (C := RX2) (T := TX2) (N := 3) hx hb hg inX2 hown hK hP 0 rfl rfl 2 (by decide) (hg _ bw_1_25) (fun _ h9 => h9) rfl dX2_fallBackToStorage_35 ?_
              refine lv_iload_n hx hb dX2_fallBackToStorage_38 rfl (lv_at hl 1 rfl) ?_
              refine lv_iconst (v := 0) hx hb dX2_fallBackToStorage_39 (by decide) ?_
              refine me_zst hx hb hK hP hD hS 3 1 rfl rfl (j) (rfl) (by omega) (by omega) (rfl) dX2_fallBackToStorage_40 (fun H locs hP hD hS => ?_)
              have hP : va_P D vwCl [(b 0, .inr (2, [.ref (b 1), .ref (b 2), .ref (b 3)])), (b 1, .inl (cI, 32, .inl (st_cp (M 1) (M 0) 0 (32)))), (b 2, .inl (cI, 32, .inl (M 1))), (b 3, .inl (cZ, 8, .inl (upd (st_ze (M 2) (j)) (j) (0))))] H := hP
              have hD : va_D A [(b 0, .inr (2, [.ref (b 1), .ref (b 2), .ref (b 3)])), (b 1, .inl (cI, 32, .inl (st_cp (M 1) (M 0) 0 (32)))), (b 2, .inl (cI, 32, .inl (M 1))), (b 3, .inl (cZ, 8, .inl (upd (st_ze (M 2) (j)) (j) (0))))] := hD
              refine lv_iinc (k := 1) (v := nI (j + 1)) hx hb dX2_fallBackToStorage_41 hl rfl (me_inc (j)) (by decide) rfl (fun ls hl => ?_)
              have hl : lv_has ls 2 [(1, .int (nI (j + 1))), (0, .ref (b 0))] := hl
              refine lv_goto (tgt := 28) hx hb dX2_fallBackToStorage_44 (by decide) ?_
              have hP := me_subP (ws' := [(b 0, .inr (2, [.ref (b 1), .ref (b 2), .ref (b 3)])), (b 1, .inl (cI, 32, .inl (st_cp (M 1) (M 0) 0 (32)))), (b 2, .inl (cI, 32, .inl (M 1))), (b 3, .inl (cZ, 8, .inl (upd (st_ze (M 2) (j)) (j) (0))))]) hP [0, 1, 2, 3] rfl
              have hD := hD.sub (ws' := [(b 0, .inr (2, [.ref (b 1), .ref (b 2), .ref (b 3)])), (b 1, .inl (cI, 32, .inl (st_cp (M 1) (M 0) 0 (32)))), (b 2, .inl (cI, 32, .inl (M 1))), (b 3, .inl (cZ, 8, .inl (upd (st_ze (M 2) (j)) (j) (0))))]) [0, 1, 2, 3] (by decide) rfl
              have hP : va_P D vwCl [(b 0, .inr (2, [.ref (b 1), .ref (b 2), .ref (b 3)])), (b 1, .inl (cI, 32, .inl (st_cp (M 1) (M 0) 0 (32)))), (b 2, .inl (cI, 32, .inl (M 1))), (b 3, .inl (cZ, 8, .inl (st_ze (M 2) (j + 1))))] H := by rw [← st_zeS]; exact hP
              have hD : va_D A [(b 0, .inr (2, [.ref (b 1), .ref (b 2), .ref (b 3)])), (b 1, .inl (cI, 32, .inl (st_cp (M 1) (M 0) 0 (32)))), (b 2, .inl (cI, 32, .inl (M 1))), (b 3, .inl (cZ, 8, .inl (st_ze (M 2) (j + 1))))] := by rw [← st_zeS]; exact hD
              have hl := lv_sub (l' := [(0, .ref (b 0)), (1, .int (nI (j + 1)))]) hl [1, 0] rfl
              exact ih (j + 1) _ _ _ (by omega) (by omega) hP hD hS hl
        have hP := me_subP (ws' := [(b 0, .inr (2, [.ref (b 1), .ref (b 2), .ref (b 3)])), (b 1, .inl (cI, 32, .inl (st_cp (M 1) (M 0) 0 (32)))), (b 2, .inl (cI, 32, .inl (M 1))), (b 3, .inl (cZ, 8, .inl (M 2)))]) hP [0, 1, 2, 3] rfl
        have hD := hD.sub (ws' := [(b 0, .inr (2, [.ref (b 1), .ref (b 2), .ref (b 3)])), (b 1, .inl (cI, 32, .inl (st_cp (M 1) (M 0) 0 (32)))), (b 2, .inl (cI, 32, .inl (M 1))), (b 3, .inl (cZ, 8, .inl (M 2)))]) [0, 1, 2, 3] (by decide) rfl
        have hP : va_P D vwCl [(b 0, .inr (2, [.ref (b 1), .ref (b 2), .ref (b 3)])), (b 1, .inl (cI, 32, .inl (st_cp (M 1) (M 0) 0 (32)))), (b 2, .inl (cI, 32, .inl (M 1))), (b 3, .inl (cZ, 8, .inl (st_ze (M 2) (0))))] H := by rw [st_ze0]; exact hP
        have hD : va_D A [(b 0, .inr (2, [.ref (b 1), .ref (b 2), .ref (b 3)])), (b 1, .inl (cI, 32, .inl (st_cp (M 1) (M 0) 0 (32)))), (b 2, .inl (cI, 32, .inl (M 1))), (b 3, .inl (cZ, 8, .inl (st_ze (M 2) (0))))] := by rw [st_ze0]; exact hD
        have hl := lv_sub (l' := [(0, .ref (b 0)), (1, .int (nI (0)))]) hl [1, 0] rfl
        exact loop28 _ 0 _ _ _ rfl (by omega) hP hD hS hl
      · have b5 := me_nle (a := 32) (b := j) (by omega) (by omega) b5
        exfalso
        omega
    | succ d ih =>
      intro j H locs ls hd h2 hP hD hS hl
      refine lv_iload_n hx hb dX2_fallBackToStorage_2 rfl (lv_at hl 1 rfl) ?_
      refine lv_bipush (v := 32) hx hb dX2_fallBackToStorage_3 (by decide) ?_
      refine lv_icmp_ge (tgt := 26) hx hb dX2_fallBackToStorage_5 (by decide) (fun b5 => ?_) (fun b5 => ?_)
      · have b5 := me_le (a := 32) (b := j) (by omega) (by omega) b5
        exfalso
        omega
      · have b5 := me_nle (a := 32) (b := j) (by omega) (by omega) b5
        refine lv_aload_n hx hb dX2_fallBackToStorage_8 rfl (lv_at hl 0 rfl) ?_
        refine va_get (D := D) (ci := 2) (v := .ref (b 1)) (C := RX2) (T := TX2) (N := 3) hx hb hg inX2 hown hK hP 0 rfl rfl 0 (by decide) (hg _ bw_1_20) (fun _ h9 => h9) rfl dX2_fallBackToStorage_9 ?_
        refine lv_iload_n hx hb dX2_fallBackToStorage_12 rfl (lv_at hl 1 rfl) ?_
        refine lv_aload_n hx hb dX2_fallBackToStorage_13 rfl (lv_at hl 0 rfl) ?_
        refine va_get (D := D) (ci := 2) (v := .ref (b 2)) (C := RX2) (T := TX2) (N := 3) hx hb hg inX2 hown hK hP 0 rfl rfl 1 (by decide) (hg _ bw_1_23) (fun _ h9 => h9) rfl dX2_fallBackToStorage_14 ?_
        refine lv_iload_n hx hb dX2_fallBackToStorage_17 rfl (lv_at hl 1 rfl) ?_
        refine me_ild hx hb hK hP 2 0 rfl rfl (j) (rfl) (by omega) (by omega) dX2_fallBackToStorage_18 ?_
        refine me_ist hx hb hK hP hD hS 1 0 rfl rfl (j) (rfl) (by omega) (by omega) dX2_fallBackToStorage_19 (fun H locs hP hD hS => ?_)
        have hP : va_P D vwCl [(b 0, .inr (2, [.ref (b 1), .ref (b 2), .ref (b 3)])), (b 1, .inl (cI, 32, .inl (upd (st_cp (M 1) (M 0) 0 (j)) (j) (M 1 j)))), (b 2, .inl (cI, 32, .inl (M 1))), (b 3, .inl (cZ, 8, .inl (M 2)))] H := hP
        have hD : va_D A [(b 0, .inr (2, [.ref (b 1), .ref (b 2), .ref (b 3)])), (b 1, .inl (cI, 32, .inl (upd (st_cp (M 1) (M 0) 0 (j)) (j) (M 1 j)))), (b 2, .inl (cI, 32, .inl (M 1))), (b 3, .inl (cZ, 8, .inl (M 2)))] := hD
        refine lv_iinc (k := 1) (v := nI (j + 1)) hx hb dX2_fallBackToStorage_20 hl rfl (me_inc (j)) (by decide) rfl (fun ls hl => ?_)
        have hl : lv_has ls 2 [(1, .int (nI (j + 1))), (0, .ref (b 0))] := hl
        refine lv_goto (tgt := 2) hx hb dX2_fallBackToStorage_23 (by decide) ?_
        have hP := me_subP (ws' := [(b 0, .inr (2, [.ref (b 1), .ref (b 2), .ref (b 3)])), (b 1, .inl (cI, 32, .inl (upd (st_cp (M 1) (M 0) 0 (j)) (j) (M 1 j)))), (b 2, .inl (cI, 32, .inl (M 1))), (b 3, .inl (cZ, 8, .inl (M 2)))]) hP [0, 1, 2, 3] rfl
        have hD := hD.sub (ws' := [(b 0, .inr (2, [.ref (b 1), .ref (b 2), .ref (b 3)])), (b 1, .inl (cI, 32, .inl (upd (st_cp (M 1) (M 0) 0 (j)) (j) (M 1 j)))), (b 2, .inl (cI, 32, .inl (M 1))), (b 3, .inl (cZ, 8, .inl (M 2)))]) [0, 1, 2, 3] (by decide) rfl
        have hP : va_P D vwCl [(b 0, .inr (2, [.ref (b 1), .ref (b 2), .ref (b 3)])), (b 1, .inl (cI, 32, .inl (st_cp (M 1) (M 0) 0 (j + 1)))), (b 2, .inl (cI, 32, .inl (M 1))), (b 3, .inl (cZ, 8, .inl (M 2)))] H := by rw [← st_cpS (Nat.zero_le j)]; exact hP
        have hD : va_D A [(b 0, .inr (2, [.ref (b 1), .ref (b 2), .ref (b 3)])), (b 1, .inl (cI, 32, .inl (st_cp (M 1) (M 0) 0 (j + 1)))), (b 2, .inl (cI, 32, .inl (M 1))), (b 3, .inl (cZ, 8, .inl (M 2)))] := by rw [← st_cpS (Nat.zero_le j)]; exact hD
        have hl := lv_sub (l' := [(0, .ref (b 0)), (1, .int (nI (j + 1)))]) hl [1, 0] rfl
        exact ih (j + 1) _ _ _ (by omega) (by omega) hP hD hS hl
  have hP := me_subP (ws' := [(b 0, .inr (2, [.ref (b 1), .ref (b 2), .ref (b 3)])), (b 1, .inl (cI, 32, .inl (M 0))), (b 2, .inl (cI, 32, .inl (M 1))), (b 3, .inl (cZ, 8, .inl (M 2)))]) hP [0, 1, 2, 3] rfl
  have hD := hD.sub (ws' := [(b 0, .inr (2, [.ref (b 1), .ref (b 2), .ref (b 3)])), (b 1, .inl (cI, 32, .inl (M 0))), (b 2, .inl (cI, 32, .inl (M 1))), (b 3, .inl (cZ, 8, .inl (M 2)))]) [0, 1, 2, 3] (by decide) rfl
  have hP : va_P D vwCl [(b 0, .inr (2, [.ref (b 1), .ref (b 2), .ref (b 3)])), (b 1, .inl (cI, 32, .inl (st_cp (M 1) (M 0) 0 (0)))), (b 2, .inl (cI, 32, .inl (M 1))), (b 3, .inl (cZ, 8, .inl (M 2)))] s.heap := by rw [st_cp0]; exact hP
  have hD : va_D A [(b 0, .inr (2, [.ref (b 1), .ref (b 2), .ref (b 3)])), (b 1, .inl (cI, 32, .inl (st_cp (M 1) (M 0) 0 (0)))), (b 2, .inl (cI, 32, .inl (M 1))), (b 3, .inl (cZ, 8, .inl (M 2)))] := by rw [st_cp0]; exact hD
  have hl := lv_sub (l' := [(0, .ref (b 0)), (1, .int (nI (0)))]) hl [1, 0] rfl
  exact loop2 _ 0 _ _ _ rfl (by omega) hP hD hS hl
