/-! the state: st_T of a core (0 codes, 1 xs, 2 ys, 3 numbers, 4 registers, 5 place, 6 recovery entry, 7 count, 8 kinds, 9 targets, 10 values), st_T of the memory (0 words, 1 stored, 2 dirty) -/
abbrev st_T : Type := Nat → Nat → Int32
def st_ks (K : st_T) (f i : Nat) (v : Int32) : st_T := fun g => if g = f then upd (K g) i v else K g
theorem st_kss {K : st_T} {f i : Nat} {v : Int32} : st_ks K f i v f = upd (K f) i v := if_pos rfl
theorem st_ksn {K : st_T} {f i g : Nat} {v : Int32} (h : g ≠ f) : st_ks K f i v g = K g := if_neg h
def st_shl (f : Nat → Int32) (k e : Nat) : Nat → Int32 := fun j => if k ≤ j ∧ j < e then f (j + 1) else f j
def st_cp (f g : Nat → Int32) (lo hi : Nat) : Nat → Int32 := fun j => if lo ≤ j ∧ j < hi then f j else g j
def st_ze (g : Nat → Int32) (hi : Nat) : Nat → Int32 := fun j => if j < hi then 0 else g j
def st_h (K : st_T) : Nat := (K 7 0).toNatClampNeg
def st_p (K : st_T) : Nat := (K 5 0).toNatClampNeg
def st_x (K : st_T) : Nat := (K 1 (st_p K)).toNatClampNeg
def st_y (K : st_T) : Nat := (K 2 (st_p K)).toNatClampNeg
def st_rm (K : st_T) (k : Nat) : st_T := fun g => match g with
  | 7 => upd (K 7) 0 (nI (st_h K - 1))
  | 8 => st_shl (K 8) k (st_h K - 1)
  | 9 => st_shl (K 9) k (st_h K - 1)
  | 10 => st_shl (K 10) k (st_h K - 1)
  | g => K g
def st_ap (K : st_T) (k t v : Int32) : st_T := fun g => match g with
  | 7 => upd (K 7) 0 (nI (st_h K + 1))
  | 8 => upd (K 8) (st_h K) k
  | 9 => upd (K 9) (st_h K) t
  | 10 => upd (K 10) (st_h K) v
  | g => K g
def st_wr (M : st_T) (a : Nat) (v : Int32) : st_T := fun g => match g with
  | 0 => upd (M 0) a v
  | 2 => upd (M 2) (a / 4) 1
  | g => M g
def st_wb (M : st_T) (l : Nat) : st_T := fun g => match g with
  | 1 => st_cp (M 0) (M 1) (4 * l) (4 * l + 4)
  | 2 => upd (M 2) l 0
  | g => M g
noncomputable def st_out (M K : st_T) (k : Nat) : st_T := me_sw (K 8 k = 0) (st_wr M (K 9 k).toNatClampNeg (K 10 k)) (me_sw (K 8 k = 3) M (st_wb M (K 9 k).toNatClampNeg))
noncomputable def st_ln (K : st_T) (k : Nat) : Int32 := me_sw (K 8 k = 0) (K 9 k / 4) (K 9 k)
def st_pa (K : st_T) (o k : Nat) : Prop := ¬ (K 8 o = 3 ∨ K 8 k = 3) ∧ ((K 8 o = 2 ∧ ¬ K 8 k = 1) ∨ ((K 8 o = 2 ∨ K 8 k = 2) ∧ ¬ st_ln K o = st_ln K k))
def st_ml (K : st_T) (k : Nat) : Prop := ∀ o : Nat, o < k → st_pa K o k
noncomputable def st_nv (K : st_T) (w o : Int32) : Nat → Int32
  | 0 => o
  | k + 1 => me_sw (K 8 k = 0 ∧ K 9 k = w) (K 10 k) (st_nv K w o k)
def st_ad (K : st_T) : Int32 := (K 4 (st_y K) + K 3 (st_p K)) &&& 31
def st_a (K : st_T) : Nat := (st_ad K).toNatClampNeg
def st_z (K : st_T) : Int32 := K 0 (st_p K)
def st_wq (room : Nat) (K : st_T) (z : Int32) : Prop := ((z = 3 ∨ z = 7 ∨ z = 8 ∨ z = 9) ∧ room ≤ st_h K) ∨ ((z = 5 ∨ z = 6) ∧ 0 < st_h K)
def st_wt (room : Nat) (K : st_T) : Prop := st_wq room K (st_z K)
def st_ha (K : st_T) : Prop := 24 ≤ st_p K ∨ st_z K = 0
noncomputable def st_nx (K : st_T) : Int32 := me_sw (st_z K = 10 ∧ ¬ K 4 (st_x K) = 0) (K 3 (st_p K)) (nI (st_p K + 1))
noncomputable def st_swK (K M : st_T) (w : Nat) : st_T := me_sw (M 0 w = K 4 0) K (st_ks K 4 0 (M 0 w))
noncomputable def st_swM (K M : st_T) (w x : Nat) : st_T := me_sw (M 0 w = K 4 0) (st_wr M w (K 4 x)) M
theorem st_swKn {K M : st_T} {w : Nat} (g : Nat) (h : g ≠ 4) : st_swK K M w g = K g := by
  unfold st_swK
  rcases Classical.em (M 0 w = K 4 0) with q | q
  · rw [me_swt q]
  · rw [me_swf q, st_ksn h]
noncomputable def st_peK (K M : st_T) : st_T :=
  me_sw (st_z K = 1) (st_ks K 4 (st_x K) (K 3 (st_p K)))
  (me_sw (st_z K = 2) (st_ks K 4 (st_x K) (st_nv K (nI (st_a K)) (M 0 (st_a K)) (st_h K)))
  (me_sw (st_z K = 3) (st_ap K 0 (nI (st_a K)) (K 4 (st_x K)))
  (me_sw (st_z K = 4) (st_ks K 4 (st_x K) (K 4 (st_x K) + K 4 (st_y K)))
  (me_sw (st_z K = 5) (st_swK K M (st_a K))
  (me_sw (st_z K = 7) (st_ap K 3 0 0)
  (me_sw (st_z K = 8) (st_ap K 1 (nI (st_a K / 4)) 0)
  (me_sw (st_z K = 9) (st_ap K 2 (nI (st_a K / 4)) 0) K)))))))
noncomputable def st_peM (K M : st_T) : st_T := me_sw (st_z K = 5) (st_swM K M (st_a K) (st_x K)) M
noncomputable def st_doK (room : Nat) (K M : st_T) : st_T := me_sw (st_ha K ∨ st_wt room K) K (st_ks (st_peK K M) 5 0 (st_nx K))
noncomputable def st_doM (room : Nat) (K M : st_T) : st_T := me_sw (st_ha K ∨ st_wt room K) M (st_peM K M)
noncomputable def st_doA (room : Nat) (K : st_T) : Int32 := me_sw (st_ha K) 2 (me_sw (st_wt room K) 1 0)
def st_bg (K : st_T) : st_T := fun g => match g with
  | 4 => st_ze (K 4) 4
  | 5 => upd (K 5) 0 (K 6 0)
  | 7 => upd (K 7) 0 0
  | g => K g
def st_fb (M : st_T) : st_T := fun g => match g with
  | 0 => st_cp (M 1) (M 0) 0 32
  | 2 => st_ze (M 2) 8
  | g => M g
def st_pu (K : st_T) (i : Nat) (z x y v : Int32) : st_T := fun g => match g with
  | 0 => upd (K 0) i z
  | 1 => upd (K 1) i x
  | 2 => upd (K 2) i y
  | 3 => upd (K 3) i v
  | g => K g
/-- settle: n times the oldest entry leaves -/
noncomputable def st_set : Nat → st_T → st_T → st_T × st_T
  | 0, K, M => (K, M)
  | n + 1, K, M => st_set n (st_rm K 0) (st_out M K 0)
/-- run: up to n steps; how many were done, and what is then -/
noncomputable def st_run (room : Nat) : Nat → st_T → st_T → Nat × st_T × st_T
  | 0, K, M => (0, K, M)
  | n + 1, K, M => me_sw (st_doA room K = 0) ((st_run room n (st_doK room K M) (st_doM room K M)).1 + 1, (st_run room n (st_doK room K M) (st_doM room K M)).2) (0, st_doK room K M, st_doM room K M)
/-- what holds of a core -/
def st_KI (room : Nat) (K : st_T) : Prop :=
  (∃ h, h ≤ room ∧ K 7 0 = nI h) ∧ (∃ q, q ≤ 24 ∧ K 5 0 = nI q) ∧ (∃ r, r < 24 ∧ K 6 0 = nI r) ∧
  (∀ i, i < 24 → (∃ z, z ≤ 10 ∧ K 0 i = nI z) ∧ (∃ x, x < 4 ∧ K 1 i = nI x) ∧ (∃ y, y < 4 ∧ K 2 i = nI y) ∧ (K 0 i = 10 → ∃ q, q < 24 ∧ K 3 i = nI q)) ∧
  (∀ k, k < st_h K → (∃ z, z ≤ 3 ∧ K 8 k = nI z) ∧ (K 8 k = 0 → ∃ a, a < 32 ∧ K 9 k = nI a) ∧ (¬ K 8 k = 0 → ∃ q, q < 8 ∧ K 9 k = nI q))
theorem st_aI (K : st_T) : st_ad K = nI (st_a K) ∧ st_a K < 32 := by
  obtain ⟨j, hj, e⟩ := pk_andE (K 4 (st_y K) + K 3 (st_p K)) (m := 31) 5 (by decide)
  have e1 : st_ad K = nI j := e
  have e2 : st_a K = j := by unfold st_a; rw [e1]; exact nI_clamp (by omega)
  rw [e2]
  exact ⟨e1, hj⟩
theorem st_cp0 {f g : Nat → Int32} {lo : Nat} : st_cp f g lo lo = g := by
  funext j
  unfold st_cp
  rw [if_neg (by omega)]
theorem st_cpS {f g : Nat → Int32} {lo j : Nat} (h : lo ≤ j) : upd (st_cp f g lo j) j (f j) = st_cp f g lo (j + 1) := by
  funext q
  unfold upd st_cp
  by_cases h1 : q = j
  · subst h1
    rw [if_pos rfl, if_pos (by omega)]
  · rw [if_neg h1]
    by_cases h2 : lo ≤ q ∧ q < j
    · rw [if_pos h2, if_pos (by omega)]
    · rw [if_neg h2, if_neg (by omega)]
theorem st_ze0 {g : Nat → Int32} : st_ze g 0 = g := by
  funext j
  unfold st_ze
  rw [if_neg (by omega)]
theorem st_zeS {g : Nat → Int32} {j : Nat} : upd (st_ze g j) j 0 = st_ze g (j + 1) := by
  funext q
  unfold upd st_ze
  by_cases h1 : q = j
  · subst h1
    rw [if_pos rfl, if_pos (by omega)]
  · rw [if_neg h1]
    by_cases h2 : q < j
    · rw [if_pos h2, if_pos (by omega)]
    · rw [if_neg h2, if_neg (by omega)]
theorem st_sh0 {f : Nat → Int32} {k : Nat} : st_shl f k k = f := by
  funext j
  unfold st_shl
  rw [if_neg (by omega)]
theorem st_shS {f : Nat → Int32} {k j : Nat} (h : k ≤ j) : upd (st_shl f k j) j (st_shl f k j (j + 1)) = st_shl f k (j + 1) := by
  funext q
  unfold upd st_shl
  by_cases h1 : q = j
  · subst h1
    rw [if_pos rfl, if_neg (by omega), if_pos (by omega)]
  · rw [if_neg h1]
    by_cases h2 : k ≤ q ∧ q < j
    · rw [if_pos h2, if_pos (by omega)]
    · rw [if_neg h2, if_neg (by omega)]
theorem st_wq3 {ro z : Nat} {K : st_T} (h : z = 3 ∨ z = 7 ∨ z = 8 ∨ z = 9) : st_wq ro K (nI z) ↔ ro ≤ st_h K := by
  unfold st_wq
  rcases h with rfl | rfl | rfl | rfl
  · exact ⟨fun q => q.elim (fun a => a.2) (fun a => absurd a.1 (by decide)), fun q => Or.inl ⟨by decide, q⟩⟩
  · exact ⟨fun q => q.elim (fun a => a.2) (fun a => absurd a.1 (by decide)), fun q => Or.inl ⟨by decide, q⟩⟩
  · exact ⟨fun q => q.elim (fun a => a.2) (fun a => absurd a.1 (by decide)), fun q => Or.inl ⟨by decide, q⟩⟩
  · exact ⟨fun q => q.elim (fun a => a.2) (fun a => absurd a.1 (by decide)), fun q => Or.inl ⟨by decide, q⟩⟩
theorem st_wq5 {ro z : Nat} {K : st_T} (h : z = 5 ∨ z = 6) : st_wq ro K (nI z) ↔ 0 < st_h K := by
  unfold st_wq
  rcases h with rfl | rfl
  · exact ⟨fun q => q.elim (fun a => absurd a.1 (by decide)) (fun a => a.2), fun q => Or.inr ⟨by decide, q⟩⟩
  · exact ⟨fun q => q.elim (fun a => absurd a.1 (by decide)) (fun a => a.2), fun q => Or.inr ⟨by decide, q⟩⟩
theorem st_wq0 {ro z : Nat} {K : st_T} (h : z = 0 ∨ z = 1 ∨ z = 2 ∨ z = 4 ∨ z = 10) : ¬ st_wq ro K (nI z) := by
  unfold st_wq
  rcases h with rfl | rfl | rfl | rfl | rfl <;> exact fun q => q.elim (fun a => absurd a.1 (by decide)) (fun a => absurd a.1 (by decide))
theorem st_zn {K : st_T} {z : Nat} {k : Int32} (h : K 0 (st_p K) = nI z) (hk : ¬ nI z = k) : ¬ st_z K = k := fun q => hk (h.symm.trans q)
theorem st_peK_0 {K M : st_T} (h : K 0 (st_p K) = nI 0) : st_peK K M = K := (me_swf (st_zn h (by decide))).trans ((me_swf (st_zn h (by decide))).trans ((me_swf (st_zn h (by decide))).trans ((me_swf (st_zn h (by decide))).trans ((me_swf (st_zn h (by decide))).trans ((me_swf (st_zn h (by decide))).trans ((me_swf (st_zn h (by decide))).trans (me_swf (st_zn h (by decide)))))))))
theorem st_peM_0 {K M : st_T} (h : K 0 (st_p K) = nI 0) : st_peM K M = M := me_swf (st_zn h (by decide))
theorem st_peK_1 {K M : st_T} (h : K 0 (st_p K) = nI 1) : st_peK K M = st_ks K 4 (st_x K) (K 3 (st_p K)) := me_swt h
theorem st_peM_1 {K M : st_T} (h : K 0 (st_p K) = nI 1) : st_peM K M = M := me_swf (st_zn h (by decide))
theorem st_peK_2 {K M : st_T} (h : K 0 (st_p K) = nI 2) : st_peK K M = st_ks K 4 (st_x K) (st_nv K (nI (st_a K)) (M 0 (st_a K)) (st_h K)) := (me_swf (st_zn h (by decide))).trans (me_swt h)
theorem st_peM_2 {K M : st_T} (h : K 0 (st_p K) = nI 2) : st_peM K M = M := me_swf (st_zn h (by decide))
theorem st_peK_3 {K M : st_T} (h : K 0 (st_p K) = nI 3) : st_peK K M = st_ap K 0 (nI (st_a K)) (K 4 (st_x K)) := (me_swf (st_zn h (by decide))).trans ((me_swf (st_zn h (by decide))).trans (me_swt h))
theorem st_peM_3 {K M : st_T} (h : K 0 (st_p K) = nI 3) : st_peM K M = M := me_swf (st_zn h (by decide))
theorem st_peK_4 {K M : st_T} (h : K 0 (st_p K) = nI 4) : st_peK K M = st_ks K 4 (st_x K) (K 4 (st_x K) + K 4 (st_y K)) := (me_swf (st_zn h (by decide))).trans ((me_swf (st_zn h (by decide))).trans ((me_swf (st_zn h (by decide))).trans (me_swt h)))
theorem st_peM_4 {K M : st_T} (h : K 0 (st_p K) = nI 4) : st_peM K M = M := me_swf (st_zn h (by decide))
theorem st_peK_5 {K M : st_T} (h : K 0 (st_p K) = nI 5) : st_peK K M = st_swK K M (st_a K) := (me_swf (st_zn h (by decide))).trans ((me_swf (st_zn h (by decide))).trans ((me_swf (st_zn h (by decide))).trans ((me_swf (st_zn h (by decide))).trans (me_swt h))))
theorem st_peM_5 {K M : st_T} (h : K 0 (st_p K) = nI 5) : st_peM K M = st_swM K M (st_a K) (st_x K) := me_swt h
theorem st_peK_6 {K M : st_T} (h : K 0 (st_p K) = nI 6) : st_peK K M = K := (me_swf (st_zn h (by decide))).trans ((me_swf (st_zn h (by decide))).trans ((me_swf (st_zn h (by decide))).trans ((me_swf (st_zn h (by decide))).trans ((me_swf (st_zn h (by decide))).trans ((me_swf (st_zn h (by decide))).trans ((me_swf (st_zn h (by decide))).trans (me_swf (st_zn h (by decide)))))))))
theorem st_peM_6 {K M : st_T} (h : K 0 (st_p K) = nI 6) : st_peM K M = M := me_swf (st_zn h (by decide))
theorem st_peK_7 {K M : st_T} (h : K 0 (st_p K) = nI 7) : st_peK K M = st_ap K 3 0 0 := (me_swf (st_zn h (by decide))).trans ((me_swf (st_zn h (by decide))).trans ((me_swf (st_zn h (by decide))).trans ((me_swf (st_zn h (by decide))).trans ((me_swf (st_zn h (by decide))).trans (me_swt h)))))
theorem st_peM_7 {K M : st_T} (h : K 0 (st_p K) = nI 7) : st_peM K M = M := me_swf (st_zn h (by decide))
theorem st_peK_8 {K M : st_T} (h : K 0 (st_p K) = nI 8) : st_peK K M = st_ap K 1 (nI (st_a K / 4)) 0 := (me_swf (st_zn h (by decide))).trans ((me_swf (st_zn h (by decide))).trans ((me_swf (st_zn h (by decide))).trans ((me_swf (st_zn h (by decide))).trans ((me_swf (st_zn h (by decide))).trans ((me_swf (st_zn h (by decide))).trans (me_swt h))))))
theorem st_peM_8 {K M : st_T} (h : K 0 (st_p K) = nI 8) : st_peM K M = M := me_swf (st_zn h (by decide))
theorem st_peK_9 {K M : st_T} (h : K 0 (st_p K) = nI 9) : st_peK K M = st_ap K 2 (nI (st_a K / 4)) 0 := (me_swf (st_zn h (by decide))).trans ((me_swf (st_zn h (by decide))).trans ((me_swf (st_zn h (by decide))).trans ((me_swf (st_zn h (by decide))).trans ((me_swf (st_zn h (by decide))).trans ((me_swf (st_zn h (by decide))).trans ((me_swf (st_zn h (by decide))).trans (me_swt h)))))))
theorem st_peM_9 {K M : st_T} (h : K 0 (st_p K) = nI 9) : st_peM K M = M := me_swf (st_zn h (by decide))
theorem st_peK_10 {K M : st_T} (h : K 0 (st_p K) = nI 10) : st_peK K M = K := (me_swf (st_zn h (by decide))).trans ((me_swf (st_zn h (by decide))).trans ((me_swf (st_zn h (by decide))).trans ((me_swf (st_zn h (by decide))).trans ((me_swf (st_zn h (by decide))).trans ((me_swf (st_zn h (by decide))).trans ((me_swf (st_zn h (by decide))).trans (me_swf (st_zn h (by decide)))))))))
theorem st_peM_10 {K M : st_T} (h : K 0 (st_p K) = nI 10) : st_peM K M = M := me_swf (st_zn h (by decide))
theorem st_hE {K : st_T} {h : Nat} (e : K 7 0 = nI h) (hh : h < 2 ^ 31) : st_h K = h := by unfold st_h; rw [e]; exact nI_clamp hh
theorem st_KIh {ro : Nat} {K : st_T} (h : st_KI ro K) (hro : ro ≤ 8) : K 7 0 = nI (st_h K) ∧ st_h K ≤ ro := by
  obtain ⟨⟨j, hj, e⟩, -⟩ := h
  rw [st_hE e (by omega)]
  exact ⟨e, hj⟩
theorem st_KIp {ro : Nat} {K : st_T} (h : st_KI ro K) : K 5 0 = nI (st_p K) ∧ st_p K ≤ 24 := by
  obtain ⟨-, ⟨j, hj, e⟩, -⟩ := h
  have e2 : st_p K = j := by unfold st_p; rw [e]; exact nI_clamp (by omega)
  rw [e2]
  exact ⟨e, hj⟩
theorem st_KIc {ro : Nat} {K : st_T} (h : st_KI ro K) : st_p K < 24 → ∃ z, z ≤ 10 ∧ K 0 (st_p K) = nI z ∧ K 1 (st_p K) = nI (st_x K) ∧ st_x K < 4 ∧ K 2 (st_p K) = nI (st_y K) ∧ st_y K < 4 := by
  intro hp
  obtain ⟨⟨z, hz, ez⟩, ⟨x, hx, ex⟩, ⟨y, hy, ey⟩, -⟩ := h.2.2.2.1 _ hp
  have e1 : st_x K = x := by unfold st_x; rw [ex]; exact nI_clamp (by omega)
  have e2 : st_y K = y := by unfold st_y; rw [ey]; exact nI_clamp (by omega)
  rw [e1, e2]
  exact ⟨z, hz, ez, ex, hx, ey, hy⟩
theorem st_KI0 {ro : Nat} {K : st_T} (h : st_KI ro K) {k : Nat} (hk : k < st_h K) : K 8 k = 0 → K 9 k = nI (K 9 k).toNatClampNeg ∧ (K 9 k).toNatClampNeg < 32 := by
  intro q
  obtain ⟨a, ha, e⟩ := (h.2.2.2.2 k hk).2.1 q
  rw [e, nI_clamp (by omega)]
  exact ⟨rfl, ha⟩
theorem st_KI1 {ro : Nat} {K : st_T} (h : st_KI ro K) {k : Nat} (hk : k < st_h K) : ¬ K 8 k = 0 → K 9 k = nI (K 9 k).toNatClampNeg ∧ (K 9 k).toNatClampNeg < 8 := by
  intro q
  obtain ⟨a, ha, e⟩ := (h.2.2.2.2 k hk).2.2 q
  rw [e, nI_clamp (by omega)]
  exact ⟨rfl, ha⟩
/-! worlds of the class -/
abbrev me_TYS (cI cZ cR : ClassId) : me_TY := [(cI, .int), (cZ, .boolean), (cR, .object "StoreBufferCores$Core")]
abbrev w_sh (b : Nat → Nat) (cI cZ : ClassId) (M : st_T) : va_W := [(b 0, .inr (2, [.ref (b 1), .ref (b 2), .ref (b 3)])), (b 1, .inl (cI, 32, .inl (M 0))), (b 2, .inl (cI, 32, .inl (M 1))), (b 3, .inl (cZ, 8, .inl (M 2)))]
abbrev w_bu (a : Nat → Nat) (cI : ClassId) (ro : Nat) (K : st_T) : va_W := [(a 6, .inr (0, [.ref (a 7), .ref (a 8), .ref (a 9), .int (K 7 0)])), (a 7, .inl (cI, ro, .inl (K 8))), (a 8, .inl (cI, ro, .inl (K 9))), (a 9, .inl (cI, ro, .inl (K 10)))]
abbrev w_co (a : Nat → Nat) (cI : ClassId) (K : st_T) : va_W := [(a 0, .inr (1, [.ref (a 1), .ref (a 2), .ref (a 3), .ref (a 4), .ref (a 5), .ref (a 6), .int (K 5 0), .int (K 6 0)])), (a 1, .inl (cI, 4, .inl (K 4))), (a 2, .inl (cI, 24, .inl (K 0))), (a 3, .inl (cI, 24, .inl (K 1))), (a 4, .inl (cI, 24, .inl (K 2))), (a 5, .inl (cI, 24, .inl (K 3)))]
abbrev w_ba (o rw : Nat) (cR : ClassId) (n : Nat) (gq : Nat → Option Nat) (b : Nat → Nat) : va_W := [(o, .inr (3, [.ref (b 0), .ref (rw)])), (rw, .inl (cR, n, .inr (.inr (.inr (.inr (gq))))))]
def w_cr (ad : Nat → Nat → Nat) (cI : ClassId) (ro : Nat) (C : Nat → st_T) (l : List Nat) : va_W := l.flatMap (fun d => w_co (ad d) cI (C d) ++ w_bu (ad d) cI ro (C d))
