/-! calls over a world that stands as rest and callee -/
section LK
variable {p : Program} {l : Launch} {e : Env} {R : Room} {s : State} {m : MethodId} {args : Array Value} {below : List Frame} {meth : Method} {c : Code} {H : Heap} {locs : List Loc} {cells slots : Nat} {Q : State → Prop}
variable {D : va_G} {tys : me_TY} {A : Nat → Prop} {cc : ByteArray} {pc : Nat} {ls : Array Slot} {rest st0 : List Value} {H0 : Heap}
theorem me_dis {α : Type} (l1 l2 : List α) : ∀ i ∈ List.range l1.length, i ∉ List.range' l1.length l2.length := by
  intro i h h2
  rw [List.mem_range] at h
  rw [List.mem_range'_1] at h2
  omega
theorem me_goIp {r : Int32} {w1 wc wr : va_W} {av : Array Value} (hr : va_Run p l e R s m args below meth c H locs cells slots 0 0 (F0 m pc ls st0) rest (me_QI D tys r w1 (va_A wc H.size) av) (va_A wc H.size)) (hP : va_P D vwCl (wr ++ wc) H) (hD : va_D A (wr ++ wc)) (hS : va_S A H0 H locs) (hA : ∀ q, H0.size ≤ q → A q)
    (kk : ∀ (H1 : Heap) (locs1 : List Loc), va_P D vwCl (wr ++ w1) H1 → va_D A (wr ++ w1) → va_S A H0 H1 locs1 → W p l e R s m args below meth c H1 locs1 cells slots Q (F0 m (pc + 3) ls (.int r :: rest))) : W p l e R s m args below meth c H locs cells slots Q (F0 m pc ls st0) :=
  me_goI hr hP hD hS hA (List.range' wr.length wc.length) (List.range wr.length) (me_rg2 wr wc) (me_rg wr wc) (va_nd_of List.nodup_range) (me_dis wr wc) kk
theorem me_goVp {w1 wc wr : va_W} {av : Array Value} {mc ms : Nat} (hr : va_Run p l e R s m args below meth c H locs cells slots mc ms (F0 m pc ls st0) rest (me_QV D tys w1 (va_A wc H.size) av) (va_A wc H.size)) (hP : va_P D vwCl (wr ++ wc) H) (hD : va_D A (wr ++ wc)) (hS : va_S A H0 H locs) (hA : ∀ q, H0.size ≤ q → A q)
    (kk : ∀ (H1 : Heap) (locs1 : List Loc), va_P D vwCl (wr ++ w1) H1 → va_D A (wr ++ w1) → va_S A H0 H1 locs1 → W p l e R s m args below meth c H1 locs1 (cells + mc) (slots + ms) Q (F0 m (pc + 3) ls rest)) : W p l e R s m args below meth c H locs cells slots Q (F0 m pc ls st0) :=
  me_goV hr hP hD hS hA (List.range' wr.length wc.length) (List.range wr.length) (me_rg2 wr wc) (me_rg wr wc) (va_nd_of List.nodup_range) (me_dis wr wc) kk
theorem me_goXp {P : va_W → Prop} {wc wr : va_W} {av : Array Value} {mc ms : Nat} (hr : va_Run p l e R s m args below meth c H locs cells slots mc ms (F0 m pc ls st0) rest (me_QX D tys P (va_A wc H.size) av) (va_A wc H.size)) (hP : va_P D vwCl (wr ++ wc) H) (hD : va_D A (wr ++ wc)) (hS : va_S A H0 H locs) (hA : ∀ q, H0.size ≤ q → A q)
    (kk : ∀ (w1 : va_W) (H1 : Heap) (locs1 : List Loc), P w1 → va_P D vwCl (wr ++ w1) H1 → va_D A (wr ++ w1) → va_S A H0 H1 locs1 → W p l e R s m args below meth c H1 locs1 (cells + mc) (slots + ms) Q (F0 m (pc + 3) ls rest)) : W p l e R s m args below meth c H locs cells slots Q (F0 m pc ls st0) :=
  me_goX hr hP hD hS hA (List.range' wr.length wc.length) (List.range wr.length) (me_rg2 wr wc) (me_rg wr wc) (va_nd_of List.nodup_range) (me_dis wr wc) kk
theorem me_ndr {α : Type} (l1 l2 : List α) : va_nd (List.range' l1.length l2.length) = true := va_nd_of (List.nodup_range' (step := 1))
theorem me_preVp {C : String} {b : Addr} {As : List Value} {wr wc : va_W} (hP : va_P D vwCl (wr ++ wc) H) (hD : va_D A (wr ++ wc)) (hK : va_K D vwCl tys s) (hN : ne_E s) (hrec : ∃ cellB : Cell, H[b]? = some cellB ∧ cellB.vm.isStatics = false ∧ s.vm.findClass C = some cellB.cls) : PreV s H C b (va_Pc (.ref b :: As) (me_Pre D tys wc H.size)) As :=
  me_preV hP hD hK hN (List.range' wr.length wc.length) (me_rg2 wr wc) (me_ndr wr wc) hrec
theorem me_preSp {As : List Value} {wr wc : va_W} (hP : va_P D vwCl (wr ++ wc) H) (hD : va_D A (wr ++ wc)) (hK : va_K D vwCl tys s) (hN : ne_E s) : PreS s H (va_Pc As (me_Pre D tys wc H.size)) As :=
  me_preS hP hD hK hN (List.range' wr.length wc.length) (me_rg2 wr wc) (me_ndr wr wc)
theorem me_sld (hx : p.tables.exec = Jvm.exec) (hb : c.code = cc) {b L : Nat} {xs : Nat → Int32} (hX : va_X b L xs s H0) (hbl : b < H0.size) (hbA : ¬ A b) (hS : va_S A H0 H locs) (j : Nat) {i : Int32} (hi : i = nI j) (hj : j < L) (hL : L < 2 ^ 31) (hdg : decode cc pc = .ok (.iaload, 1))
    (kk : W p l e R s m args below meth c H locs cells slots Q (F0 m (pc + 1) ls (.int (xs j) :: rest))) : W p l e R s m args below meth c H locs cells slots Q (F0 m pc ls (.int i :: .ref b :: rest)) := by
  subst hi
  refine va_sld hx hb hX hbl hbA hS (vp_in_nI hj hL) hdg ?_
  rw [nI_clamp (Nat.lt_trans hj hL)]
  exact kk
end LK
/-! the law's world -/
def la_W (o rw n : Nat) (gq : Nat → Option Nat) (bb : Nat → Nat) (ad : Nat → Nat → Nat) (ro mo : Nat) (r : Nat → Nat) (cI cZ cR : ClassId) (C1 : Nat → st_T) (M1 : st_T) (C2 : Nat → st_T) (M2 : st_T) (tm : tm_T) : va_W := w_ba o rw cR n gq bb ++ w_sh bb cI cZ M1 ++ w_cr ad cI ro C1 (List.range n) ++ w_re mo r cI n ro C2 M2 tm
theorem me_pp {α : Type} {X Y Z R W : List α} (h : W.Perm (Y ++ Z)) : ((X ++ W) ++ R).Perm ((Z ++ R) ++ (X ++ Y)) := by
  have h1 : ((X ++ W) ++ R).Perm ((X ++ (Y ++ Z)) ++ R) := (h.append_left X).append_right R
  refine h1.trans ?_
  have e : (X ++ (Y ++ Z)) ++ R = (X ++ Y) ++ (Z ++ R) := by simp only [List.append_assoc]
  rw [e]
  exact List.perm_append_comm
theorem w_crP {ad : Nat → Nat → Nat} {cI : ClassId} {ro : Nat} {C : Nat → st_T} {l : List Nat} {kc : Nat} (h : kc ∈ l) : (w_cr ad cI ro C l).Perm ((w_co (ad kc) cI (C kc) ++ w_bu (ad kc) cI ro (C kc)) ++ w_cr ad cI ro C (l.erase kc)) := (List.perm_cons_erase h).flatMap_right (fun d => w_co (ad d) cI (C d) ++ w_bu (ad d) cI ro (C d))
theorem w_crE {ad : Nat → Nat → Nat} {cI : ClassId} {ro : Nat} {C C' : Nat → st_T} : ∀ {l : List Nat}, (∀ d ∈ l, C d = C' d) → w_cr ad cI ro C l = w_cr ad cI ro C' l
  | [], _ => rfl
  | d :: l, h => by
    have ih := w_crE (ad := ad) (cI := cI) (ro := ro) (l := l) (fun x hx => h x (List.mem_cons_of_mem _ hx))
    show (w_co (ad d) cI (C d) ++ w_bu (ad d) cI ro (C d)) ++ w_cr ad cI ro C l = (w_co (ad d) cI (C' d) ++ w_bu (ad d) cI ro (C' d)) ++ w_cr ad cI ro C' l
    rw [ih, h d List.mem_cons_self]
section LP
variable {o rw n : Nat} {gq : Nat → Option Nat} {bb : Nat → Nat} {ad : Nat → Nat → Nat} {ro mo : Nat} {r : Nat → Nat} {cI cZ cR : ClassId} {C C2 : Nat → st_T} {M M2 : st_T} {tm : tm_T} {kc : Nat}
theorem la_p1 (hkc : kc < n) : (la_W o rw n gq bb ad ro mo r cI cZ cR C M C2 M2 tm).Perm ((w_cr ad cI ro C ((List.range n).erase kc) ++ w_re mo r cI n ro C2 M2 tm) ++ (w_ba o rw cR n gq bb ++ w_sh bb cI cZ M ++ w_co (ad kc) cI (C kc) ++ w_bu (ad kc) cI ro (C kc))) := by
  unfold la_W
  have h := me_pp (X := w_ba o rw cR n gq bb ++ w_sh bb cI cZ M) (R := w_re mo r cI n ro C2 M2 tm) (w_crP (ad := ad) (cI := cI) (ro := ro) (C := C) (List.mem_range.mpr hkc))
  rw [List.append_assoc (w_ba o rw cR n gq bb ++ w_sh bb cI cZ M)]
  exact h
theorem la_p2 (hkc : kc < n) (K2 : st_T) : ((w_cr ad cI ro C ((List.range n).erase kc) ++ w_re mo r cI n ro C2 M2 tm) ++ (w_ba o rw cR n gq bb ++ w_sh bb cI cZ M ++ w_co (ad kc) cI K2 ++ w_bu (ad kc) cI ro K2)).Perm (la_W o rw n gq bb ad ro mo r cI cZ cR (va_up C kc K2) M C2 M2 tm) := by
  have h := (la_p1 (o := o) (rw := rw) (gq := gq) (bb := bb) (ad := ad) (ro := ro) (mo := mo) (r := r) (cI := cI) (cZ := cZ) (cR := cR) (C := va_up C kc K2) (C2 := C2) (M := M) (M2 := M2) (tm := tm) hkc).symm
  rw [show va_up C kc K2 kc = K2 from st_upC] at h
  rw [w_crE (C := va_up C kc K2) (C' := C) (l := (List.range n).erase kc)] at h
  · exact h
  · intro d hd
    exact if_neg (fun e => List.Nodup.not_mem_erase List.nodup_range (e ▸ hd))
end LP
/-- what stands fast in the law: the machine, the script, the tables -/
def la_C (p : Program) (s : State) (m : MethodId) (c : Code) (bs L : Nat) (xs : Nat → Int32) (D : va_G) (cI cZ cR : ClassId) : Prop :=
  p.tables.exec = Jvm.exec ∧ c.code = code ∧ c.maxLocals = 4 ∧ s.vm.findClass RL = some m.cls ∧ (∀ w ∈ bg, w.before #[Value.ref bs] s = true) ∧ va_X bs L xs s s.heap ∧ bs < s.heap.size ∧ va_K D vwCl (me_TYS cI cZ cR) s ∧ ne_E s ∧ L ≤ 3586
abbrev la_A (s : State) : Nat → Prop := fun q => s.heap.size ≤ q
def la_G (n ro : Nat) (gq : Nat → Option Nat) (ad : Nat → Nat → Nat) : Prop := (n = 2 ∨ n = 3 ∨ n = 4) ∧ ro ≤ 8 ∧ ∀ i : Nat, i < n → gq i = some (ad i 0)
theorem la_Isw {n ro i kc : Nat} {P : Prop} {C : Nat → st_T} {M M1 K K1 : st_T} {t t1 : tm_T} (h1 : P → la_I n ro (va_up C kc K1) M1 t1 i) (h0 : ¬ P → la_I n ro (va_up C kc K) M t i) : la_I n ro (va_up C kc (me_sw P K1 K)) (me_sw P M1 M) (me_sw P t1 t) i := by
  rcases Classical.em P with q | q
  · rw [me_swt q, me_swt q, me_swt q]; exact h1 q
  · rw [me_swf q, me_swf q, me_swf q]; exact h0 q
theorem me_lp {i L : Nat} (hi : i < 2 ^ 29) (hL : L < 2 ^ 29) : nI L - 7 < nI i ↔ L < i + 7 := by
  have e : (nI L - 7 : Int32) = nI L - nI 7 := rfl
  rw [e, Int32.lt_iff_toInt_lt, pk_sub_toInt (by omega) (by decide), nI_toInt (by omega)]
  omega
