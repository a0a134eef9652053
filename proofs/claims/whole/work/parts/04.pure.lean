/-! pure rows about the state -/
def st_puG (n : Nat) (core i z x y v : Int32) : Prop := me_in core n ∧ me_in i 24 ∧ me_in z 11 ∧ me_in x 4 ∧ me_in y 4 ∧ (z = 10 → me_in v 24)
noncomputable def st_putK (n : Nat) (core : Int32) (K : st_T) (i z x y v : Int32) : st_T := me_sw (st_puG n core i z x y v) (st_pu K i.toNatClampNeg z x y v) K
def st_drG (n : Nat) (core : Int32) (K : st_T) (k : Int32) : Prop := me_in core n ∧ me_in k (st_h K) ∧ st_ml K k.toNatClampNeg
theorem st_rm_h {K : st_T} {k : Nat} (h : st_h K < 2 ^ 31) : st_h (st_rm K k) = st_h K - 1 := st_hE (K := st_rm K k) rfl (by omega)
theorem st_rm_n {K : st_T} {k g : Nat} (hg : g < 7) : st_rm K k g = K g := by
  rcases (show g = 0 ∨ g = 1 ∨ g = 2 ∨ g = 3 ∨ g = 4 ∨ g = 5 ∨ g = 6 by omega) with rfl | rfl | rfl | rfl | rfl | rfl | rfl <;> rfl
theorem st_ap_h {K : st_T} {k t v : Int32} (h : st_h K + 1 < 2 ^ 31) : st_h (st_ap K k t v) = st_h K + 1 := st_hE (K := st_ap K k t v) rfl h
theorem st_setS {m m' : Nat} {K M : st_T} (h : m = m' + 1) : st_set m K M = st_set m' (st_rm K 0) (st_out M K 0) := by subst h; rfl
theorem st_runS {ro v j : Nat} {K M K1 M1 : st_T} (hj : j < v) (h3 : st_run ro v K M = ((st_run ro (v - j) K1 M1).1 + j, (st_run ro (v - j) K1 M1).2)) (hb : st_doA ro K1 = 0) : st_run ro v K M = ((st_run ro (v - (j + 1)) (st_doK ro K1 M1) (st_doM ro K1 M1)).1 + (j + 1), (st_run ro (v - (j + 1)) (st_doK ro K1 M1) (st_doM ro K1 M1)).2) := by
  obtain ⟨i, hi⟩ : ∃ i, v - j = i + 1 := ⟨v - j - 1, by omega⟩
  rw [show v - (j + 1) = i by omega]
  rw [hi] at h3
  rw [h3]
  have e : st_run ro (i + 1) K1 M1 = ((st_run ro i (st_doK ro K1 M1) (st_doM ro K1 M1)).1 + 1, (st_run ro i (st_doK ro K1 M1) (st_doM ro K1 M1)).2) := me_swt hb
  rw [e]
  simp only [Prod.mk.injEq, and_true]
  omega
theorem st_runX {ro v j : Nat} {K M K1 M1 : st_T} (hj : j < v) (h3 : st_run ro v K M = ((st_run ro (v - j) K1 M1).1 + j, (st_run ro (v - j) K1 M1).2)) (hb : ¬ st_doA ro K1 = 0) : st_run ro v K M = (j, st_doK ro K1 M1, st_doM ro K1 M1) := by
  obtain ⟨i, hi⟩ : ∃ i, v - j = i + 1 := ⟨v - j - 1, by omega⟩
  rw [hi] at h3
  rw [h3]
  have e : st_run ro (i + 1) K1 M1 = (0, st_doK ro K1 M1, st_doM ro K1 M1) := me_swf hb
  rw [e, Nat.zero_add]
theorem st_runY {ro v j : Nat} {K M K1 M1 : st_T} (hj : v ≤ j) (h3 : st_run ro v K M = ((st_run ro (v - j) K1 M1).1 + j, (st_run ro (v - j) K1 M1).2)) : st_run ro v K M = (j, K1, M1) := by
  rw [show v - j = 0 by omega] at h3
  rw [h3]
  show (0 + j, (K1, M1)) = _
  rw [Nat.zero_add]
theorem st_KIrm {ro : Nat} {K : st_T} {k : Nat} (h : st_KI ro K) (hro : ro ≤ 8) (hk : k < st_h K) : st_KI ro (st_rm K k) := by
  obtain ⟨hh, hb⟩ := st_KIh h hro
  obtain ⟨-, h2, h3, h4, h5⟩ := h
  have e : st_h (st_rm K k) = st_h K - 1 := st_rm_h (by omega)
  refine ⟨⟨st_h K - 1, by omega, rfl⟩, h2, h3, h4, ?_⟩
  rw [e]
  intro j hj
  by_cases c : k ≤ j ∧ j < st_h K - 1
  · have e8 : st_rm K k 8 j = K 8 (j + 1) := if_pos c
    have e9 : st_rm K k 9 j = K 9 (j + 1) := if_pos c
    rw [e8, e9]
    exact h5 (j + 1) (by omega)
  · have e8 : st_rm K k 8 j = K 8 j := if_neg c
    have e9 : st_rm K k 9 j = K 9 j := if_neg c
    rw [e8, e9]
    exact h5 j (by omega)
theorem st_KIap {ro : Nat} {K : st_T} {k t v : Int32} (h : st_KI ro K) (hro : ro ≤ 8) (hlt : st_h K < ro) (hz : ∃ z, z ≤ 3 ∧ k = nI z) (h0 : k = 0 → ∃ a, a < 32 ∧ t = nI a) (h1 : ¬ k = 0 → ∃ q, q < 8 ∧ t = nI q) : st_KI ro (st_ap K k t v) := by
  obtain ⟨-, h2, h3, h4, h5⟩ := h
  have e : st_h (st_ap K k t v) = st_h K + 1 := st_ap_h (by omega)
  refine ⟨⟨st_h K + 1, by omega, rfl⟩, h2, h3, h4, ?_⟩
  rw [e]
  intro j hj
  by_cases c : j = st_h K
  · have e8 : st_ap K k t v 8 j = k := if_pos c
    have e9 : st_ap K k t v 9 j = t := if_pos c
    rw [e8, e9]
    exact ⟨hz, h0, h1⟩
  · have e8 : st_ap K k t v 8 j = K 8 j := if_neg c
    have e9 : st_ap K k t v 9 j = K 9 j := if_neg c
    rw [e8, e9]
    exact h5 j (by omega)
theorem st_KI4 {ro i : Nat} {K : st_T} {v : Int32} (h : st_KI ro K) : st_KI ro (st_ks K 4 i v) := h
theorem st_KI5 {ro q : Nat} {K : st_T} {v : Int32} (h : st_KI ro K) (hq : q ≤ 24) (hv : v = nI q) : st_KI ro (st_ks K 5 0 v) := ⟨h.1, ⟨q, hq, hv⟩, h.2.2⟩
theorem st_KI6 {ro q : Nat} {K : st_T} {v : Int32} (h : st_KI ro K) (hq : q < 24) (hv : v = nI q) : st_KI ro (st_ks K 6 0 v) := ⟨h.1, h.2.1, ⟨q, hq, hv⟩, h.2.2.2⟩
theorem st_KIbg {ro : Nat} {K : st_T} (h : st_KI ro K) : st_KI ro (st_bg K) := by
  obtain ⟨h1, h2, ⟨r, hr, e⟩, h4, h5⟩ := h
  refine ⟨⟨0, Nat.zero_le _, rfl⟩, ⟨r, by omega, e⟩, ⟨r, hr, e⟩, h4, ?_⟩
  intro k hk
  rw [st_hE (K := st_bg K) (h := 0) rfl (by decide)] at hk
  omega
theorem st_KIpu {ro i : Nat} {K : st_T} {z x y v : Int32} (h : st_KI ro K) (hz : me_in z 11) (hx : me_in x 4) (hy : me_in y 4) (hv : z = 10 → me_in v 24) : st_KI ro (st_pu K i z x y v) := by
  obtain ⟨h1, h2, h3, h4, h5⟩ := h
  refine ⟨h1, h2, h3, ?_, h5⟩
  intro j hj
  by_cases c : j = i
  · have e0 : st_pu K i z x y v 0 j = z := if_pos c
    have e1 : st_pu K i z x y v 1 j = x := if_pos c
    have e2 : st_pu K i z x y v 2 j = y := if_pos c
    have e3 : st_pu K i z x y v 3 j = v := if_pos c
    rw [e0, e1, e2, e3]
    obtain ⟨a, ha, ea⟩ := hz
    exact ⟨⟨a, by omega, ea⟩, hx, hy, hv⟩
  · have e0 : st_pu K i z x y v 0 j = K 0 j := if_neg c
    have e1 : st_pu K i z x y v 1 j = K 1 j := if_neg c
    have e2 : st_pu K i z x y v 2 j = K 2 j := if_neg c
    have e3 : st_pu K i z x y v 3 j = K 3 j := if_neg c
    rw [e0, e1, e2, e3]
    exact h4 j hj
theorem st_KI00 {ro : Nat} : st_KI ro (fun _ _ => 0) := by
  refine ⟨⟨0, Nat.zero_le _, rfl⟩, ⟨0, by decide, rfl⟩, ⟨0, by decide, rfl⟩, fun i hi => ⟨⟨0, by decide, rfl⟩, ⟨0, by decide, rfl⟩, ⟨0, by decide, rfl⟩, fun q => absurd (show (0 : Int32) = 10 from q) (by decide)⟩, fun k hk => ?_⟩
  rw [st_hE (K := fun _ _ => 0) (h := 0) rfl (by decide)] at hk
  omega
theorem st_KIpe {ro : Nat} {K M : st_T} (h : st_KI ro K) (hro : ro ≤ 8) (hp : st_p K < 24) (hw : ¬ st_wt ro K) : st_KI ro (st_peK K M) := by
  obtain ⟨z, hz, e, -⟩ := st_KIc h hp
  obtain ⟨ha, ha1⟩ := st_aI K
  have hw : ¬ st_wq ro K (nI z) := by
    intro q
    apply hw
    unfold st_wt st_z
    rw [e]
    exact q
  have hlt : (z = 3 ∨ z = 7 ∨ z = 8 ∨ z = 9) → st_h K < ro := fun q => Nat.lt_of_not_le (fun r => hw ((st_wq3 q).mpr r))
  rcases (show z = 0 ∨ z = 1 ∨ z = 2 ∨ z = 3 ∨ z = 4 ∨ z = 5 ∨ z = 6 ∨ z = 7 ∨ z = 8 ∨ z = 9 ∨ z = 10 by omega) with rfl | rfl | rfl | rfl | rfl | rfl | rfl | rfl | rfl | rfl | rfl
  · rw [st_peK_0 e]; exact h
  · rw [st_peK_1 e]; exact st_KI4 h
  · rw [st_peK_2 e]; exact st_KI4 h
  · rw [st_peK_3 e]; exact st_KIap h hro (hlt (by decide)) ⟨0, by decide, rfl⟩ (fun _ => ⟨st_a K, ha1, rfl⟩) (fun q => absurd rfl q)
  · rw [st_peK_4 e]; exact st_KI4 h
  · rw [st_peK_5 e]
    unfold st_swK
    rcases Classical.em (M 0 (st_a K) = K 4 0) with q | q
    · rw [me_swt q]; exact h
    · rw [me_swf q]; exact st_KI4 h
  · rw [st_peK_6 e]; exact h
  · rw [st_peK_7 e]; exact st_KIap h hro (hlt (by decide)) ⟨3, by decide, rfl⟩ (fun q => absurd q (by decide)) (fun _ => ⟨0, by decide, rfl⟩)
  · rw [st_peK_8 e]; exact st_KIap h hro (hlt (by decide)) ⟨1, by decide, rfl⟩ (fun q => absurd q (by decide)) (fun _ => ⟨st_a K / 4, by omega, rfl⟩)
  · rw [st_peK_9 e]; exact st_KIap h hro (hlt (by decide)) ⟨2, by decide, rfl⟩ (fun q => absurd q (by decide)) (fun _ => ⟨st_a K / 4, by omega, rfl⟩)
  · rw [st_peK_10 e]; exact h
theorem st_KIdo {ro : Nat} {K M : st_T} (h : st_KI ro K) (hro : ro ≤ 8) : st_KI ro (st_doK ro K M) := by
  unfold st_doK
  rcases Classical.em (st_ha K ∨ st_wt ro K) with q | q
  · rw [me_swt q]; exact h
  · rw [me_swf q]
    have hp : st_p K < 24 := Nat.lt_of_not_le fun r => q (Or.inl (Or.inl r))
    have hk := st_KIpe (M := M) h hro hp (fun r => q (Or.inr r))
    unfold st_nx
    rcases Classical.em (st_z K = 10 ∧ ¬ K 4 (st_x K) = 0) with r | r
    · rw [me_swt r]
      obtain ⟨j, hj, e⟩ := (h.2.2.2.1 _ hp).2.2.2 r.1
      exact st_KI5 hk (Nat.le_of_lt hj) e
    · rw [me_swf r]
      exact st_KI5 hk (show st_p K + 1 ≤ 24 by omega) rfl
theorem st_KIrun {ro : Nat} (hro : ro ≤ 8) : ∀ (v : Nat) (K M : st_T), st_KI ro K → st_KI ro (st_run ro v K M).2.1
  | 0, _, _, h => h
  | v + 1, K, M, h => by
    have ih := st_KIrun hro v (st_doK ro K M) (st_doM ro K M) (st_KIdo h hro)
    rcases Classical.em (st_doA ro K = 0) with q | q
    · rw [show st_run ro (v + 1) K M = ((st_run ro v (st_doK ro K M) (st_doM ro K M)).1 + 1, (st_run ro v (st_doK ro K M) (st_doM ro K M)).2) from me_swt q]
      exact ih
    · rw [show st_run ro (v + 1) K M = (0, st_doK ro K M, st_doM ro K M) from me_swf q]
      exact st_KIdo h hro
theorem st_KIset {ro : Nat} (hro : ro ≤ 8) : ∀ (v : Nat) (K M : st_T), st_KI ro K → v ≤ st_h K → st_KI ro (st_set v K M).1
  | 0, _, _, h, _ => h
  | v + 1, K, M, h, hv => by
    have hb := (st_KIh h hro).2
    exact st_KIset hro v (st_rm K 0) (st_out M K 0) (st_KIrm h hro (by omega)) (by rw [st_rm_h (by omega)]; omega)
