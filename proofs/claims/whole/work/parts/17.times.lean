/-! the times and the dirty lines, call by call -/
theorem tm_cmp {p q : Nat} (hp : p < 2 ^ 31) (hq : q < 2 ^ 31) : nI p ≤ nI q ↔ p ≤ q := nI_leI hp hq
theorem tm_Iwr {M : st_T} {t : tm_T} {a : Nat} {v : Int32} (h : tm_I M t) (ha : a < 32) (hb : t.1 < 2 ^ 30) : tm_I (st_wr M a v) (tm_wr t a) := by
  obtain ⟨h1, h2, h3⟩ := h
  refine ⟨fun x hx => ?_, fun q hq => ?_, fun q hq => ?_⟩
  · by_cases c : x = a
    · exact ⟨t.1 + 1, Nat.le_refl _, if_pos c⟩
    · obtain ⟨p, hp, e⟩ := h1 x hx
      exact ⟨p, Nat.le_succ_of_le hp, (if_neg c).trans e⟩
  · obtain ⟨p, hp, e⟩ := h2 q hq
    exact ⟨p, Nat.le_succ_of_le hp, e⟩
  · by_cases c : q = a / 4
    · have e1 : st_wr M a v 2 q = 1 := if_pos c
      rw [e1]
      refine ⟨fun _ => ⟨a, by omega, by omega, ?_⟩, fun _ => by decide⟩
      have e2 : (tm_wr t a).2.1 a = nI (t.1 + 1) := if_pos rfl
      obtain ⟨p, hp, e⟩ := h2 q hq
      have e3 : (tm_wr t a).2.2 q = nI p := e
      rw [e2, e3, tm_cmp (by omega) (by omega)]
      omega
    · have e1 : st_wr M a v 2 q = M 2 q := if_neg c
      rw [e1, h3 q hq]
      constructor
      · rintro ⟨x, x1, x2, x3⟩
        have e2 : (tm_wr t a).2.1 x = t.2.1 x := if_neg (by omega)
        exact ⟨x, x1, x2, by rw [e2]; exact x3⟩
      · rintro ⟨x, x1, x2, x3⟩
        have e2 : (tm_wr t a).2.1 x = t.2.1 x := if_neg (by omega)
        rw [e2] at x3
        exact ⟨x, x1, x2, x3⟩
theorem tm_Iwb {M : st_T} {t : tm_T} {l : Nat} (h : tm_I M t) (hl : l < 8) (hb : t.1 < 2 ^ 30) : tm_I (st_wb M l) (tm_wb t l) := by
  obtain ⟨h1, h2, h3⟩ := h
  refine ⟨fun x hx => ?_, fun q hq => ?_, fun q hq => ?_⟩
  · obtain ⟨p, hp, e⟩ := h1 x hx
    exact ⟨p, Nat.le_succ_of_le hp, e⟩
  · by_cases c : q = l
    · exact ⟨t.1 + 1, Nat.le_refl _, if_pos c⟩
    · obtain ⟨p, hp, e⟩ := h2 q hq
      exact ⟨p, Nat.le_succ_of_le hp, (if_neg c).trans e⟩
  · by_cases c : q = l
    · have e1 : st_wb M l 2 q = 0 := if_pos c
      rw [e1]
      refine ⟨fun z => absurd rfl z, ?_⟩
      rintro ⟨x, x1, x2, x3⟩
      exfalso
      apply x3
      obtain ⟨p, hp, e⟩ := h1 x (by omega)
      have e2 : (tm_wb t l).2.1 x = nI p := e
      have e3 : (tm_wb t l).2.2 q = nI (t.1 + 1) := if_pos c
      rw [e2, e3, tm_cmp (by omega) (by omega)]
      omega
    · have e1 : st_wb M l 2 q = M 2 q := if_neg c
      have e3 : (tm_wb t l).2.2 q = t.2.2 q := if_neg c
      rw [e1, e3]
      exact h3 q hq
theorem tm_Ifb {M : st_T} {t : tm_T} (h : tm_I M t) (hb : t.1 < 2 ^ 30) : tm_I (st_fb M) (tm_fb t) := by
  obtain ⟨h1, h2, h3⟩ := h
  refine ⟨fun x hx => ?_, fun q hq => ⟨t.1 + 1, Nat.le_refl _, if_pos hq⟩, fun q hq => ?_⟩
  · obtain ⟨p, hp, e⟩ := h1 x hx
    exact ⟨p, Nat.le_succ_of_le hp, e⟩
  · have e1 : st_fb M 2 q = 0 := if_pos hq
    rw [e1]
    refine ⟨fun z => absurd rfl z, ?_⟩
    rintro ⟨x, x1, x2, x3⟩
    exfalso
    apply x3
    obtain ⟨p, hp, e⟩ := h1 x (by omega)
    have e2 : (tm_fb t).2.1 x = nI p := e
    have e3 : (tm_fb t).2.2 q = nI (t.1 + 1) := if_pos hq
    rw [e2, e3, tm_cmp (by omega) (by omega)]
    omega
theorem tm_Iout {M : st_T} {t : tm_T} {K : st_T} {ro k : Nat} (hI : st_KI ro K) (hk : k < st_h K) (h : tm_I M t) (hb : t.1 < 2 ^ 30) : tm_I (st_out M K k) (tm_out t K k) := by
  unfold st_out tm_out
  rcases Classical.em (K 8 k = 0) with c | c
  · rw [me_swt c, me_swt c]
    exact tm_Iwr h (st_KI0 hI hk c).2 hb
  · rw [me_swf c, me_swf c]
    rcases Classical.em (K 8 k = 3) with d | d
    · rw [me_swt d, me_swt d]
      exact h
    · rw [me_swf d, me_swf d]
      exact tm_Iwb h (st_KI1 hI hk c).2 hb
theorem tm_out1 {t : tm_T} {K : st_T} {k : Nat} : (tm_out t K k).1 ≤ t.1 + 1 := by
  unfold tm_out
  rcases Classical.em (K 8 k = 0) with c | c
  · rw [me_swt c]
    exact Nat.le_refl _
  · rw [me_swf c]
    rcases Classical.em (K 8 k = 3) with d | d
    · rw [me_swt d]
      omega
    · rw [me_swf d]
      exact Nat.le_refl _
theorem tm_Ido {M : st_T} {t : tm_T} {K : st_T} {ro : Nat} (h : tm_I M t) (hb : t.1 < 2 ^ 30) : tm_I (st_doM ro K M) (tm_do ro t K M) ∧ (tm_do ro t K M).1 ≤ t.1 + 1 := by
  unfold st_doM tm_do
  rcases Classical.em (st_ha K ∨ st_wt ro K) with q | q
  · rw [me_swt q, me_swt q]
    exact ⟨h, by omega⟩
  · rw [me_swf q, me_swf q]
    unfold st_peM tm_pe
    rcases Classical.em (st_z K = 5) with c | c
    · rw [me_swt c, me_swt c]
      unfold st_swM tm_sw
      rcases Classical.em (M 0 (st_a K) = K 4 0) with d | d
      · rw [me_swt d, me_swt d]
        exact ⟨tm_Iwr h (st_aI K).2 hb, Nat.le_refl _⟩
      · rw [me_swf d, me_swf d]
        exact ⟨h, by omega⟩
    · rw [me_swf c, me_swf c]
      exact ⟨h, by omega⟩
theorem tm_Iset {ro : Nat} (hro : ro ≤ 8) : ∀ (v : Nat) (K M : st_T) (t : tm_T), st_KI ro K → v ≤ st_h K → tm_I M t → t.1 + v < 2 ^ 30 → tm_I (st_set v K M).2 (tm_set v t K) ∧ (tm_set v t K).1 ≤ t.1 + v
  | 0, _, _, _, _, _, h, _ => ⟨h, Nat.le_refl _⟩
  | v + 1, K, M, t, hI, hv, h, hb => by
    have hk := (st_KIh hI hro).2
    have h1 := tm_out1 (t := t) (K := K) (k := 0)
    obtain ⟨a, b⟩ := tm_Iset hro v (st_rm K 0) (st_out M K 0) (tm_out t K 0) (st_KIrm hI hro (by omega)) (by rw [st_rm_h (by omega)]; omega) (tm_Iout hI (by omega) h (by omega)) (by omega)
    exact ⟨a, Nat.le_trans b (by omega)⟩
theorem tm_Irun {ro : Nat} : ∀ (v : Nat) (K M : st_T) (t : tm_T), tm_I M t → t.1 + v < 2 ^ 30 → tm_I (st_run ro v K M).2.2 (tm_run ro v t K M) ∧ (tm_run ro v t K M).1 ≤ t.1 + v
  | 0, _, _, _, h, _ => ⟨h, Nat.le_refl _⟩
  | v + 1, K, M, t, h, hb => by
    obtain ⟨h1, h2⟩ := tm_Ido (ro := ro) (K := K) h (by omega)
    obtain ⟨a, b⟩ := tm_Irun (ro := ro) v (st_doK ro K M) (st_doM ro K M) (tm_do ro t K M) h1 (by omega)
    rcases Classical.em (st_doA ro K = 0) with q | q
    · rw [show st_run ro (v + 1) K M = ((st_run ro v (st_doK ro K M) (st_doM ro K M)).1 + 1, (st_run ro v (st_doK ro K M) (st_doM ro K M)).2) from me_swt q, show tm_run ro (v + 1) t K M = tm_run ro v (tm_do ro t K M) (st_doK ro K M) (st_doM ro K M) from me_swt q]
      exact ⟨a, Nat.le_trans b (by omega)⟩
    · rw [show st_run ro (v + 1) K M = (0, st_doK ro K M, st_doM ro K M) from me_swf q, show tm_run ro (v + 1) t K M = tm_do ro t K M from me_swf q]
      exact ⟨h1, Nat.le_trans h2 (by omega)⟩
/-- what the law keeps between the calls -/
def la_I (n ro : Nat) (C : Nat → st_T) (M : st_T) (t : tm_T) (i : Nat) : Prop := (∀ d, d < n → st_KI ro (C d)) ∧ tm_I M t ∧ t.1 ≤ 20 * i
theorem la_Iup {n ro kc i : Nat} {C : Nat → st_T} {M M2 K2 : st_T} {t t2 : tm_T} (h : la_I n ro C M t i) (hK : st_KI ro K2) (hT : tm_I M2 t2) (hb : t2.1 ≤ t.1 + 20) : la_I n ro (va_up C kc K2) M2 t2 (i + 7) := by
  obtain ⟨h1, h2, h3⟩ := h
  refine ⟨fun d hd => ?_, hT, by omega⟩
  unfold va_up
  by_cases c : d = kc
  · rw [if_pos c]; exact hK
  · rw [if_neg c]; exact h1 d hd
theorem la_Isame {n ro i : Nat} {C : Nat → st_T} {M M2 : st_T} {t t2 : tm_T} (h : la_I n ro C M t i) (hT : tm_I M2 t2) (hb : t2.1 ≤ t.1 + 20) : la_I n ro C M2 t2 (i + 7) := ⟨h.1, hT, by have := h.2.2; omega⟩
theorem la_Icr {n ro i : Nat} {C : Nat → st_T} {M : st_T} {t : tm_T} (h : la_I n ro C M t i) (hn : n ≤ 4) (hi : i < 10000) : la_I n ro (st_crC C) (st_fb M) (tm_fb t) (i + 7) := by
  obtain ⟨h1, h2, h3⟩ := h
  refine ⟨fun d hd => ?_, tm_Ifb h2 (by omega), ?_⟩
  · unfold st_crC
    rw [if_pos (by omega)]
    exact st_KIbg (h1 d hd)
  · show t.1 + 1 ≤ _
    omega
theorem la_I0 {n ro : Nat} : la_I n ro (fun _ _ _ => 0) (fun _ _ => 0) (0, fun _ => 0, fun _ => 0) 2 := by
  refine ⟨fun d _ => st_KI00, ⟨fun a _ => ⟨0, Nat.le_refl _, rfl⟩, fun q _ => ⟨0, Nat.le_refl _, rfl⟩, fun q _ => ⟨fun z => absurd rfl z, ?_⟩⟩, by decide⟩
  rintro ⟨x, -, -, x3⟩
  exact absurd (Int32.le_refl 0) x3
theorem sw_I {P : Prop} {α : Type} {R : α → Prop} {a b : α} (ha : P → R a) (hb : ¬ P → R b) : R (me_sw P a b) := by
  rcases Classical.em P with q | q
  · rw [me_swt q]; exact ha q
  · rw [me_swf q]; exact hb q
/-- which core a call speaks of: one that is there in any case -/
theorem la_kc {n : Nat} (core : Int32) (hn : 0 < n) (hn4 : n ≤ 4) : ∃ kc, kc < n ∧ ∀ j : Nat, j < n → core = nI j → j = kc := by
  rcases Classical.em (∃ j, j < n ∧ core = nI j) with ⟨j, hj, e⟩ | h
  · exact ⟨j, hj, fun i hi e2 => (nI_eq (by omega) (by omega)).mp (e2.symm.trans e)⟩
  · exact ⟨0, hn, fun i hi e2 => absurd ⟨i, hi, e2⟩ h⟩
