/-! the reference's flat arrays, and its times -/
def st_fl (w : Nat) (C : Nat → st_T) (f : Nat) : Nat → Int32 := fun q => C (q / w) f (q % w)
def st_f1 (C : Nat → st_T) (f : Nat) : Nat → Int32 := fun q => C q f 0
abbrev tm_T : Type := Nat × (Nat → Int32) × (Nat → Int32)
def tm_wr (t : tm_T) (a : Nat) : tm_T := (t.1 + 1, upd t.2.1 a (nI (t.1 + 1)), t.2.2)
def tm_wb (t : tm_T) (q : Nat) : tm_T := (t.1 + 1, t.2.1, upd t.2.2 q (nI (t.1 + 1)))
def tm_al (t : Int32) (g : Nat → Int32) (e : Nat) : Nat → Int32 := fun j => if j < e then t else g j
def tm_fb (t : tm_T) : tm_T := (t.1 + 1, t.2.1, tm_al (nI (t.1 + 1)) t.2.2 8)
noncomputable def tm_out (t : tm_T) (K : st_T) (k : Nat) : tm_T := me_sw (K 8 k = 0) (tm_wr t (K 9 k).toNatClampNeg) (me_sw (K 8 k = 3) t (tm_wb t (K 9 k).toNatClampNeg))
noncomputable def tm_sw (t : tm_T) (K M : st_T) (w : Nat) : tm_T := me_sw (M 0 w = K 4 0) (tm_wr t w) t
noncomputable def tm_pe (t : tm_T) (K M : st_T) : tm_T := me_sw (st_z K = 5) (tm_sw t K M (st_a K)) t
noncomputable def tm_do (ro : Nat) (t : tm_T) (K M : st_T) : tm_T := me_sw (st_ha K ∨ st_wt ro K) t (tm_pe t K M)
noncomputable def tm_set : Nat → tm_T → st_T → tm_T
  | 0, t, _ => t
  | n + 1, t, K => tm_set n (tm_out t K 0) (st_rm K 0)
noncomputable def tm_run (ro : Nat) : Nat → tm_T → st_T → st_T → tm_T
  | 0, t, _, _ => t
  | n + 1, t, K, M => me_sw (st_doA ro K = 0) (tm_run ro n (tm_do ro t K M) (st_doK ro K M) (st_doM ro K M)) (tm_do ro t K M)
theorem st_flA {w kc i f : Nat} {C : Nat → st_T} {K : st_T} (hCK : C kc = K) (hi : i < w) : st_fl w C f (w * kc + i) = K f i := by
  unfold st_fl
  rw [Nat.mul_add_div (by omega), Nat.div_eq_of_lt hi, Nat.add_zero, Nat.mul_add_mod, Nat.mod_eq_of_lt hi, hCK]
theorem st_flA0 {w kc f : Nat} {C : Nat → st_T} {K : st_T} (hCK : C kc = K) (hi : 0 < w) : st_fl w C f (w * kc) = K f 0 := st_flA (i := 0) hCK hi
theorem st_f1A {kc f : Nat} {C : Nat → st_T} {K : st_T} (hCK : C kc = K) : st_f1 C f kc = K f 0 := by
  unfold st_f1
  rw [hCK]
theorem st_upK {kc : Nat} {C : Nat → st_T} {K : st_T} (hCK : C kc = K) : va_up C kc K = C := by
  funext j
  unfold va_up
  by_cases h : j = kc
  · rw [if_pos h, h, hCK]
  · rw [if_neg h]
theorem st_upC {kc : Nat} {C : Nat → st_T} {K : st_T} : va_up C kc K kc = K := if_pos rfl
theorem st_flN {w kc f : Nat} {C : Nat → st_T} {K K2 : st_T} (hCK : C kc = K) (h : K2 f = K f) : st_fl w (va_up C kc K2) f = st_fl w C f := by
  funext q
  unfold st_fl va_up
  by_cases c : q / w = kc
  · rw [if_pos c, h, c, hCK]
  · rw [if_neg c]
theorem st_f1N {kc f : Nat} {C : Nat → st_T} {K K2 : st_T} (hCK : C kc = K) (h : K2 f = K f) : st_f1 (va_up C kc K2) f = st_f1 C f := by
  funext q
  unfold st_f1 va_up
  by_cases c : q = kc
  · rw [if_pos c, h, c, hCK]
  · rw [if_neg c]
theorem st_flP {w kc f i : Nat} {C : Nat → st_T} {K K2 : st_T} {v : Int32} (hCK : C kc = K) (hi : i < w) (h : K2 f = upd (K f) i v) : st_fl w (va_up C kc K2) f = upd (st_fl w C f) (w * kc + i) v := by
  funext q
  have hq : q = w * (q / w) + q % w := (Nat.div_add_mod q w).symm
  have hm : q % w < w := Nat.mod_lt _ (by omega)
  by_cases c : q / w = kc
  · by_cases d : q % w = i
    · have e : q = w * kc + i := by rw [← c, ← d]; exact hq
      unfold upd
      rw [if_pos e]
      unfold st_fl va_up
      rw [if_pos c, h, d]
      exact if_pos rfl
    · have e : ¬ q = w * kc + i := fun z => d (by rw [z, Nat.mul_add_mod, Nat.mod_eq_of_lt hi])
      unfold upd
      rw [if_neg e]
      unfold st_fl va_up
      rw [if_pos c, h, c, hCK]
      exact if_neg d
  · have e : ¬ q = w * kc + i := fun z => c (by rw [z, Nat.mul_add_div (by omega), Nat.div_eq_of_lt hi, Nat.add_zero])
    unfold upd
    rw [if_neg e]
    unfold st_fl va_up
    rw [if_neg c]
theorem st_flP0 {w kc f : Nat} {C : Nat → st_T} {K K2 : st_T} {v : Int32} (hCK : C kc = K) (hi : 0 < w) (h : K2 f = upd (K f) 0 v) : st_fl w (va_up C kc K2) f = upd (st_fl w C f) (w * kc) v := st_flP (i := 0) hCK hi h
theorem st_f1P {kc f : Nat} {C : Nat → st_T} {K K2 : st_T} {v : Int32} (hCK : C kc = K) (h : K2 f = upd (K f) 0 v) : st_f1 (va_up C kc K2) f = upd (st_f1 C f) kc v := by
  funext q
  unfold st_f1 va_up upd
  by_cases c : q = kc
  · rw [if_pos c, if_pos c, h]
    exact if_pos rfl
  · rw [if_neg c, if_neg c]
theorem st_flH {w kc f k e : Nat} {C : Nat → st_T} {K K2 : st_T} (hCK : C kc = K) (he : e < w) (h : K2 f = st_shl (K f) k e) : st_fl w (va_up C kc K2) f = st_shl (st_fl w C f) (w * kc + k) (w * kc + e) := by
  funext q
  have hq : q = w * (q / w) + q % w := (Nat.div_add_mod q w).symm
  have hm : q % w < w := Nat.mod_lt _ (by omega)
  by_cases c : q / w = kc
  · have hq2 : q = w * kc + q % w := by rw [← c]; exact hq
    generalize hj : q % w = j at hq2 hm
    unfold st_shl
    by_cases d : k ≤ j ∧ j < e
    · rw [if_pos (by omega)]
      have e1 : st_fl w C f (q + 1) = K f (j + 1) := by rw [hq2]; exact st_flA (i := j + 1) hCK (by omega)
      rw [e1]
      unfold st_fl va_up
      rw [if_pos c, h, hj]
      exact if_pos d
    · rw [if_neg (by omega)]
      unfold st_fl va_up
      rw [if_pos c, h, c, hCK, hj]
      exact if_neg d
  · have e2 : ¬ (w * kc + k ≤ q ∧ q < w * kc + e) := fun z => c (by
      have h1 : q < w * kc + w := by omega
      have h2 : w * kc ≤ q := by omega
      obtain ⟨j, rfl⟩ : ∃ j, q = w * kc + j := ⟨q - w * kc, by omega⟩
      rw [Nat.mul_add_div (by omega), Nat.div_eq_of_lt (by omega), Nat.add_zero])
    unfold st_shl
    rw [if_neg e2]
    unfold st_fl va_up
    rw [if_neg c]
theorem tm_al0 {t : Int32} {g : Nat → Int32} : tm_al t g 0 = g := by
  funext j
  unfold tm_al
  rw [if_neg (by omega)]
theorem tm_alS {t : Int32} {g : Nat → Int32} {j : Nat} : upd (tm_al t g j) j t = tm_al t g (j + 1) := by
  funext q
  unfold upd tm_al
  by_cases h1 : q = j
  · subst h1
    rw [if_pos rfl, if_pos (by omega)]
  · rw [if_neg h1]
    by_cases h2 : q < j
    · rw [if_pos h2, if_pos (by omega)]
    · rw [if_neg h2, if_neg (by omega)]
/-- what ties the times to the dirty lines -/
def tm_I (M : st_T) (t : tm_T) : Prop := (∀ a, a < 32 → ∃ p, p ≤ t.1 ∧ t.2.1 a = nI p) ∧ (∀ q, q < 8 → ∃ p, p ≤ t.1 ∧ t.2.2 q = nI p) ∧ ∀ q, q < 8 → (¬ M 2 q = 0 ↔ ∃ a, 4 * q ≤ a ∧ a < 4 * q + 4 ∧ ¬ t.2.1 a ≤ t.2.2 q)
theorem st_upU {kc : Nat} {C : Nat → st_T} {K K2 : st_T} : va_up (va_up C kc K) kc K2 = va_up C kc K2 := bx_uu C kc K K2
theorem st_uu {f : Nat → Int32} {k : Nat} {v w : Int32} : upd (upd f k v) k w = upd f k w := by
  funext j
  unfold upd
  by_cases h : j = k
  · rw [if_pos h, if_pos h]
  · rw [if_neg h, if_neg h, if_neg h]
noncomputable def st_aqK (ro : Nat) (K : st_T) (k t v : Int32) : st_T := me_sw (ro ≤ st_h K) K (st_ks (st_ap K k t v) 5 0 (nI (st_p K + 1)))
theorem st_drG0 {n kc : Nat} {K : st_T} (hkc : kc < n) (h : 0 < st_h K) : st_drG n (nI kc) K 0 := ⟨me_inI hkc, ⟨0, h, rfl⟩, fun o ho => by rw [sb_cl0] at ho; omega⟩
theorem st_drG1 {n : Nat} {core : Int32} {K : st_T} (h : st_h K = 0) : ¬ st_drG n core K 0 := fun q => by
  obtain ⟨j, hj, -⟩ := q.2.1
  omega
theorem tm_setS {m m' : Nat} {t : tm_T} {K : st_T} (h : m = m' + 1) : tm_set m t K = tm_set m' (tm_out t K 0) (st_rm K 0) := by subst h; rfl
theorem tm_runS {ro v j : Nat} {t t1 : tm_T} {K M K1 M1 : st_T} (hj : j < v) (h : tm_run ro v t K M = tm_run ro (v - j) t1 K1 M1) (hb : st_doA ro K1 = 0) : tm_run ro v t K M = tm_run ro (v - (j + 1)) (tm_do ro t1 K1 M1) (st_doK ro K1 M1) (st_doM ro K1 M1) := by
  obtain ⟨i, hi⟩ : ∃ i, v - j = i + 1 := ⟨v - j - 1, by omega⟩
  rw [show v - (j + 1) = i by omega]
  rw [h, hi]
  exact me_swt hb
theorem tm_runX {ro v j : Nat} {t t1 : tm_T} {K M K1 M1 : st_T} (hj : j < v) (h : tm_run ro v t K M = tm_run ro (v - j) t1 K1 M1) (hb : ¬ st_doA ro K1 = 0) : tm_run ro v t K M = tm_do ro t1 K1 M1 := by
  obtain ⟨i, hi⟩ : ∃ i, v - j = i + 1 := ⟨v - j - 1, by omega⟩
  rw [h, hi]
  exact me_swf hb
theorem tm_runY {ro v j : Nat} {t t1 : tm_T} {K M K1 M1 : st_T} (hj : v ≤ j) (h : tm_run ro v t K M = tm_run ro (v - j) t1 K1 M1) : tm_run ro v t K M = t1 := by
  rw [h, show v - j = 0 by omega]
  rfl
/-- the reference's step, code by code -/
theorem st_nh {K : st_T} {z : Nat} (hp : st_p K < 24) (hz : K 0 (st_p K) = nI z) (h0 : ¬ nI z = 0) : ¬ st_ha K := fun q => q.elim (fun q => absurd q (by omega)) (fun q => h0 (hz.symm.trans q))
theorem st_wtz {ro z : Nat} {K : st_T} (hz : K 0 (st_p K) = nI z) : st_wt ro K ↔ st_wq ro K (nI z) := by
  unfold st_wt st_z
  rw [hz]
theorem st_nx1 {K : st_T} {z : Nat} (hz : K 0 (st_p K) = nI z) (h : ¬ nI z = 10) : st_nx K = nI (st_p K + 1) := me_swf (fun q => h (hz.symm.trans q.1))
theorem st_doW {ro : Nat} {K M : st_T} {t : tm_T} (hh : ¬ st_ha K) (hw : st_wt ro K) : st_doK ro K M = K ∧ st_doM ro K M = M ∧ tm_do ro t K M = t ∧ st_doA ro K = 1 := ⟨me_swt (Or.inr hw), me_swt (Or.inr hw), me_swt (Or.inr hw), (me_swf hh).trans (me_swt hw)⟩
theorem st_doH {ro : Nat} {K M : st_T} {t : tm_T} (hh : st_ha K) : st_doK ro K M = K ∧ st_doM ro K M = M ∧ tm_do ro t K M = t ∧ st_doA ro K = 2 := ⟨me_swt (Or.inl hh), me_swt (Or.inl hh), me_swt (Or.inl hh), me_swt hh⟩
theorem st_doD {ro : Nat} {K M : st_T} {t : tm_T} (hh : ¬ st_ha K) (hw : ¬ st_wt ro K) : st_doK ro K M = st_ks (st_peK K M) 5 0 (st_nx K) ∧ st_doM ro K M = st_peM K M ∧ tm_do ro t K M = tm_pe t K M ∧ st_doA ro K = 0 :=
  have ho : ¬ (st_ha K ∨ st_wt ro K) := fun q => q.elim hh hw
  ⟨me_swf ho, me_swf ho, me_swf ho, (me_swf hh).trans (me_swf hw)⟩
theorem st_doAp {ro z : Nat} {K M : st_T} {t : tm_T} {k w v : Int32} (hp : st_p K < 24) (hz : K 0 (st_p K) = nI z) (h3 : z = 3 ∨ z = 7 ∨ z = 8 ∨ z = 9) (he : st_peK K M = st_ap K k w v) (hm : st_peM K M = M) (ht : tm_pe t K M = t) : st_doK ro K M = st_aqK ro K k w v ∧ st_doM ro K M = M ∧ tm_do ro t K M = t ∧ st_doA ro K = me_b (ro ≤ st_h K) := by
  have h0 : ¬ nI z = 0 := by rcases h3 with rfl | rfl | rfl | rfl <;> decide
  have h10 : ¬ nI z = 10 := by rcases h3 with rfl | rfl | rfl | rfl <;> decide
  have hh := st_nh hp hz h0
  rcases Classical.em (ro ≤ st_h K) with q | q
  · obtain ⟨a, b, c, d⟩ := st_doW (M := M) (t := t) hh ((st_wtz hz).mpr ((st_wq3 h3).mpr q))
    exact ⟨a.trans (me_swt q).symm, b, c, d.trans (me_bt q).symm⟩
  · obtain ⟨a, b, c, d⟩ := st_doD (M := M) (t := t) hh (fun r => q ((st_wq3 h3).mp ((st_wtz hz).mp r)))
    refine ⟨a.trans ?_, b.trans hm, c.trans ht, d.trans (me_bf q).symm⟩
    rw [he, st_nx1 hz h10]
    exact (me_swf q).symm
theorem tm_pen {z : Nat} {K M : st_T} {t : tm_T} (hz : K 0 (st_p K) = nI z) (h : ¬ nI z = 5) : tm_pe t K M = t := me_swf (st_zn hz h)
theorem tm_pe5 {K M : st_T} {t : tm_T} (hz : K 0 (st_p K) = nI 5) : tm_pe t K M = tm_sw t K M (st_a K) := me_swt hz
theorem st_nv5 {K : st_T} {v w o : Int32} : ∀ n : Nat, st_nv (st_ks K 5 0 v) w o n = st_nv K w o n
  | 0 => rfl
  | n + 1 => by
    show me_sw (K 8 n = 0 ∧ K 9 n = w) (K 10 n) (st_nv (st_ks K 5 0 v) w o n) = me_sw (K 8 n = 0 ∧ K 9 n = w) (K 10 n) (st_nv K w o n)
    rw [st_nv5 n]
theorem st_k5 {K : st_T} {v w : Int32} : st_ks K 5 0 w 5 = upd (st_ks K 5 0 v 5) 0 w := (st_uu (f := K 5) (k := 0) (v := v) (w := w)).symm
theorem st_ks45 {K : st_T} {i : Nat} {v w : Int32} : st_ks (st_ks K 4 i w) 5 0 v = st_ks (st_ks K 5 0 v) 4 i w := by
  funext g
  unfold st_ks
  by_cases h5 : g = 5
  · subst h5
    rfl
  · rw [if_neg h5]
    by_cases h4 : g = 4
    · subst h4
      rfl
    · rw [if_neg h4, if_neg h4, if_neg h5]
theorem st_swK5 {K M : st_T} {w : Nat} {v : Int32} : st_ks (st_swK K M w) 5 0 v = st_swK (st_ks K 5 0 v) M w := by
  rcases Classical.em (M 0 w = K 4 0) with q | q
  · rw [show st_swK K M w = K from me_swt q, show st_swK (st_ks K 5 0 v) M w = st_ks K 5 0 v from me_swt q]
  · rw [show st_swK K M w = st_ks K 4 0 (M 0 w) from me_swf q, show st_swK (st_ks K 5 0 v) M w = st_ks (st_ks K 5 0 v) 4 0 (M 0 w) from me_swf q]
    exact st_ks45
/-- a crash on all four cores -/
def st_crC (C : Nat → st_T) : Nat → st_T := fun d => if d < 4 then st_bg (C d) else C d
theorem st_crN {w f : Nat} {C : Nat → st_T} (h : ∀ K : st_T, st_bg K f = K f) : st_fl w (st_crC C) f = st_fl w C f := by
  funext q
  unfold st_fl st_crC
  by_cases c : q / w < 4
  · rw [if_pos c, h]
  · rw [if_neg c]
theorem st_crN1 {f : Nat} {C : Nat → st_T} (h : ∀ K : st_T, st_bg K f = K f) : st_f1 (st_crC C) f = st_f1 C f := by
  funext q
  unfold st_f1 st_crC
  by_cases c : q < 4
  · rw [if_pos c, h]
  · rw [if_neg c]
theorem st_cr4 {C : Nat → st_T} : st_fl 4 (st_crC C) 4 = st_ze (st_fl 4 C 4) 16 := by
  funext q
  unfold st_ze
  by_cases c : q < 16
  · rw [if_pos c]
    unfold st_fl st_crC
    rw [if_pos (show q / 4 < 4 by omega)]
    exact if_pos (Nat.mod_lt _ (by decide))
  · rw [if_neg c]
    unfold st_fl st_crC
    rw [if_neg (show ¬ q / 4 < 4 by omega)]
theorem st_cr7 {C : Nat → st_T} : st_f1 (st_crC C) 7 = st_ze (st_f1 C 7) 4 := by
  funext q
  unfold st_ze st_f1 st_crC
  by_cases c : q < 4
  · rw [if_pos c, if_pos c]
    rfl
  · rw [if_neg c, if_neg c]
theorem st_cr5 {C : Nat → st_T} : st_f1 (st_crC C) 5 = st_cp (st_f1 C 6) (st_f1 C 5) 0 4 := by
  funext q
  unfold st_cp st_f1 st_crC
  by_cases c : q < 4
  · rw [if_pos c, if_pos ⟨Nat.zero_le _, c⟩]
    rfl
  · rw [if_neg c, if_neg (fun z => c z.2)]
abbrev w_re (mo : Nat) (r : Nat → Nat) (cI : ClassId) (n ro : Nat) (C : Nat → st_T) (M : st_T) (tm : tm_T) : va_W := [(mo, .inr (4, [.int (nI (n)), .int (nI (ro)), .ref (r 0), .ref (r 1), .ref (r 2), .ref (r 3), .ref (r 4), .ref (r 5), .ref (r 6), .ref (r 7), .ref (r 8), .ref (r 9), .ref (r 10), .ref (r 11), .ref (r 12), .int (nI (tm.1)), .ref (r 13), .ref (r 14)])), (r 0, .inl (cI, 96, .inl (st_fl 24 C 0))), (r 1, .inl (cI, 96, .inl (st_fl 24 C 1))), (r 2, .inl (cI, 96, .inl (st_fl 24 C 2))), (r 3, .inl (cI, 96, .inl (st_fl 24 C 3))), (r 4, .inl (cI, 16, .inl (st_fl 4 C 4))), (r 5, .inl (cI, 4, .inl (st_f1 C 5))), (r 6, .inl (cI, 4, .inl (st_f1 C 6))), (r 7, .inl (cI, 4, .inl (st_f1 C 7))), (r 8, .inl (cI, 32, .inl (st_fl 8 C 8))), (r 9, .inl (cI, 32, .inl (st_fl 8 C 9))), (r 10, .inl (cI, 32, .inl (st_fl 8 C 10))), (r 11, .inl (cI, 32, .inl (M 0))), (r 12, .inl (cI, 32, .inl (M 1))), (r 13, .inl (cI, 32, .inl (tm.2.1))), (r 14, .inl (cI, 8, .inl (tm.2.2)))]
