set_option maxHeartbeats 4000000 in
set_option maxRecDepth 100000 in
theorem law_0 (l : Launch) {p : Program} {e : Env} {s : State} {m : MethodId} {below : List Frame} {meth : Method} {c : Code} {bs L : Nat} {xs : Nat → Int32} {D : va_G} {cI cZ cR : ClassId} (X : la_C p s m c bs L xs D cI cZ cR) {o rw n : Nat} {gq : Nat → Option Nat} {bb : Nat → Nat} {ad : Nat → Nat → Nat} {ro mo : Nat} {r : Nat → Nat} (G : la_G n ro gq ad) {C : Nat → st_T} {M : st_T} {tm : tm_T} {ii : Nat} (hI : la_I n ro C M tm ii) (hi : ii + 7 ≤ L) {H : Heap} {locs : List Loc} (hP : va_P D vwCl (la_W o rw n gq bb ad ro mo r cI cZ cR C M C M tm) H) (hD : va_D (la_A s) (la_W o rw n gq bb ad ro mo r cI cZ cR C M C M tm)) (hS : va_S (la_A s) s.heap H locs) {ls : Array Slot} (hl : lv_has ls 4 [(0, .ref bs), (1, .ref o), (2, .ref mo), (3, .int (nI ii))]) {Q : State → Prop} (kk : ∀ (C1 : Nat → st_T) (M1 : st_T) (t1 : tm_T) (H1 : Heap) (locs1 : List Loc), la_I n ro C1 M1 t1 (ii + 7) → va_P D vwCl (la_W o rw n gq bb ad ro mo r cI cZ cR C1 M1 C1 M1 t1) H1 → va_D (la_A s) (la_W o rw n gq bb ad ro mo r cI cZ cR C1 M1 C1 M1 t1) → va_S (la_A s) s.heap H1 locs1 → W p l e room_1 s m #[Value.ref bs] below meth c H1 locs1 62 1255 Q (F0 m 627 ls [])) : W p l e room_1 s m #[Value.ref bs] below meth c H locs 62 1255 Q (F0 m 136 ls []) := by
  obtain ⟨hx, hb, hml, hown, hg, hX, hbl, hK, hN, hL⟩ := X
  obtain ⟨hn, hro, hgq⟩ := G
  have hn4 : n ≤ 4 := by omega
  have hbA : ¬ la_A s bs := fun q => absurd q (by show ¬ s.heap.size ≤ bs; omega)
  have hA : ∀ q, s.heap.size ≤ q → la_A s q := fun q h => h
  obtain ⟨kc, hkc, hcore⟩ := la_kc (n := n) (xs (ii + 1)) (by omega) hn4
  have hIk := hI.1 kc hkc
  have hT := hI.2.1
  have hB := hI.2.2
  refine lv_aload_n hx hb dL_law_136 rfl (lv_at hl 1 rfl) ?_
  refine lv_aload_n hx hb dL_law_137 rfl (lv_at hl 0 rfl) ?_
  refine lv_iload_n hx hb dL_law_138 rfl (lv_at hl 3 rfl) ?_
  refine lv_iconst (v := 1) hx hb dL_law_139 (by decide) ?_
  refine lv_iadd hx hb dL_law_140 ?_
  refine me_t (x := nI (ii) + 1) (y := nI (ii + 1)) (nI_add ii 1) ?_
  refine me_sld hx hb hX hbl hbA hS (ii + 1) rfl (by omega) (by omega) dL_law_141 ?_
  refine lv_aload_n hx hb dL_law_142 rfl (lv_at hl 0 rfl) ?_
  refine lv_iload_n hx hb dL_law_143 rfl (lv_at hl 3 rfl) ?_
  refine lv_iconst (v := 2) hx hb dL_law_144 (by decide) ?_
  refine lv_iadd hx hb dL_law_145 ?_
  refine me_t (x := nI (ii) + 2) (y := nI (ii + 2)) (nI_add ii 2) ?_
  refine me_sld hx hb hX hbl hbA hS (ii + 2) rfl (by omega) (by omega) dL_law_146 ?_
  refine lv_aload_n hx hb dL_law_147 rfl (lv_at hl 0 rfl) ?_
  refine lv_iload_n hx hb dL_law_148 rfl (lv_at hl 3 rfl) ?_
  refine lv_iconst (v := 3) hx hb dL_law_149 (by decide) ?_
  refine lv_iadd hx hb dL_law_150 ?_
  refine me_t (x := nI (ii) + 3) (y := nI (ii + 3)) (nI_add ii 3) ?_
  refine me_sld hx hb hX hbl hbA hS (ii + 3) rfl (by omega) (by omega) dL_law_151 ?_
  refine lv_aload_n hx hb dL_law_152 rfl (lv_at hl 0 rfl) ?_
  refine lv_iload_n hx hb dL_law_153 rfl (lv_at hl 3 rfl) ?_
  refine lv_iconst (v := 4) hx hb dL_law_154 (by decide) ?_
  refine lv_iadd hx hb dL_law_155 ?_
  refine me_t (x := nI (ii) + 4) (y := nI (ii + 4)) (nI_add ii 4) ?_
  refine me_sld hx hb hX hbl hbA hS (ii + 4) rfl (by omega) (by omega) dL_law_156 ?_
  refine lv_aload_n hx hb dL_law_157 rfl (lv_at hl 0 rfl) ?_
  refine lv_iload_n hx hb dL_law_158 rfl (lv_at hl 3 rfl) ?_
  refine lv_iconst (v := 5) hx hb dL_law_159 (by decide) ?_
  refine lv_iadd hx hb dL_law_160 ?_
  refine me_t (x := nI (ii) + 5) (y := nI (ii + 5)) (nI_add ii 5) ?_
  refine me_sld hx hb hX hbl hbA hS (ii + 5) rfl (by omega) (by omega) dL_law_161 ?_
  refine lv_aload_n hx hb dL_law_162 rfl (lv_at hl 0 rfl) ?_
  refine lv_iload_n hx hb dL_law_163 rfl (lv_at hl 3 rfl) ?_
  refine lv_bipush (v := 6) hx hb dL_law_164 (by decide) ?_
  refine lv_iadd hx hb dL_law_166 ?_
  refine me_t (x := nI (ii) + 6) (y := nI (ii + 6)) (nI_add ii 6) ?_
  refine me_sld hx hb hX hbl hbA hS (ii + 6) rfl (by omega) (by omega) dL_law_167 ?_
  have hrec : ∃ cellB : Cell, H[o]? = some cellB ∧ cellB.vm.isStatics = false ∧ s.vm.findClass RX3 = some cellB.cls := va_recv (q0 := 0) (ci := 3) hK hP rfl rfl
  have hP1 := me_permP (la_p1 hkc) hP
  have hD1 := me_permD (la_p1 hkc) hD
  refine me_goIp (wr := w_cr ad cI ro C ((List.range n).erase kc) ++ w_re mo r cI n ro C M tm) (wc := w_ba o rw cR n gq bb ++ w_sh bb cI cZ M ++ w_co (ad kc) cI (C kc) ++ w_bu (ad kc) cI ro (C kc)) (w1 := w_ba o rw cR n gq bb ++ w_sh bb cI cZ M ++ w_co (ad kc) cI (st_putK n (xs (ii + 1)) (C kc) (xs (ii + 2)) (xs (ii + 3)) (xs (ii + 4)) (xs (ii + 5)) (xs (ii + 6))) ++ w_bu (ad kc) cI ro (st_putK n (xs (ii + 1)) (C kc) (xs (ii + 2)) (xs (ii + 3)) (xs (ii + 4)) (xs (ii + 5)) (xs (ii + 6)))) (va_runV (C := RX3) (b := o) (As := [.int (xs (ii + 1)), .int (xs (ii + 2)), .int (xs (ii + 3)), .int (xs (ii + 4)), .int (xs (ii + 5)), .int (xs (ii + 6))]) (rest := []) ⟨hx, hb, hml, hown, hg⟩ (c_sb_put l D cI cZ cR o rw n gq bb (ad kc) ro (C kc) M kc hkc hn4 (hgq kc hkc) hro hIk (xs (ii + 1)) hcore (xs (ii + 2)) (xs (ii + 3)) (xs (ii + 4)) (xs (ii + 5)) (xs (ii + 6)) H.size) (cwV 6 hg (bg_gV (fun _ h => h) bw_1_103 bw_1_104 bw_1_105 bw_1_1 bw_1_106) rfl rfl rfl (by decide +kernel) ⟨Nat.le_of_ble_eq_true rfl, Nat.le_of_ble_eq_true rfl⟩) (me_preVp (wr := w_cr ad cI ro C ((List.range n).erase kc) ++ w_re mo r cI n ro C M tm) (wc := w_ba o rw cR n gq bb ++ w_sh bb cI cZ M ++ w_co (ad kc) cI (C kc) ++ w_bu (ad kc) cI ro (C kc)) hP1 hD1 hK hN hrec) rfl rfl hl.1 rfl (lv_room (Nat.le_of_ble_eq_true rfl)) dL_law_168 ⟨Nat.le_of_ble_eq_true rfl, Nat.le_of_ble_eq_true rfl⟩) hP1 hD1 hS hA (fun H locs hP hD hS => ?_)
  have hP := me_permP (la_p2 hkc (st_putK n (xs (ii + 1)) (C kc) (xs (ii + 2)) (xs (ii + 3)) (xs (ii + 4)) (xs (ii + 5)) (xs (ii + 6)))) hP
  have hD := me_permD (la_p2 hkc (st_putK n (xs (ii + 1)) (C kc) (xs (ii + 2)) (xs (ii + 3)) (xs (ii + 4)) (xs (ii + 5)) (xs (ii + 6)))) hD
  refine lv_aload_n hx hb dL_law_171 rfl (lv_at hl 2 rfl) ?_
  refine lv_aload_n hx hb dL_law_172 rfl (lv_at hl 0 rfl) ?_
  refine lv_iload_n hx hb dL_law_173 rfl (lv_at hl 3 rfl) ?_
  refine lv_iconst (v := 1) hx hb dL_law_174 (by decide) ?_
  refine lv_iadd hx hb dL_law_175 ?_
  refine me_t (x := nI (ii) + 1) (y := nI (ii + 1)) (nI_add ii 1) ?_
  refine me_sld hx hb hX hbl hbA hS (ii + 1) rfl (by omega) (by omega) dL_law_176 ?_
  refine lv_aload_n hx hb dL_law_177 rfl (lv_at hl 0 rfl) ?_
  refine lv_iload_n hx hb dL_law_178 rfl (lv_at hl 3 rfl) ?_
  refine lv_iconst (v := 2) hx hb dL_law_179 (by decide) ?_
  refine lv_iadd hx hb dL_law_180 ?_
  refine me_t (x := nI (ii) + 2) (y := nI (ii + 2)) (nI_add ii 2) ?_
  refine me_sld hx hb hX hbl hbA hS (ii + 2) rfl (by omega) (by omega) dL_law_181 ?_
  refine lv_aload_n hx hb dL_law_182 rfl (lv_at hl 0 rfl) ?_
  refine lv_iload_n hx hb dL_law_183 rfl (lv_at hl 3 rfl) ?_
  refine lv_iconst (v := 3) hx hb dL_law_184 (by decide) ?_
  refine lv_iadd hx hb dL_law_185 ?_
  refine me_t (x := nI (ii) + 3) (y := nI (ii + 3)) (nI_add ii 3) ?_
  refine me_sld hx hb hX hbl hbA hS (ii + 3) rfl (by omega) (by omega) dL_law_186 ?_
  refine lv_aload_n hx hb dL_law_187 rfl (lv_at hl 0 rfl) ?_
  refine lv_iload_n hx hb dL_law_188 rfl (lv_at hl 3 rfl) ?_
  refine lv_iconst (v := 4) hx hb dL_law_189 (by decide) ?_
  refine lv_iadd hx hb dL_law_190 ?_
  refine me_t (x := nI (ii) + 4) (y := nI (ii + 4)) (nI_add ii 4) ?_
  refine me_sld hx hb hX hbl hbA hS (ii + 4) rfl (by omega) (by omega) dL_law_191 ?_
  refine lv_aload_n hx hb dL_law_192 rfl (lv_at hl 0 rfl) ?_
  refine lv_iload_n hx hb dL_law_193 rfl (lv_at hl 3 rfl) ?_
  refine lv_iconst (v := 5) hx hb dL_law_194 (by decide) ?_
  refine lv_iadd hx hb dL_law_195 ?_
  refine me_t (x := nI (ii) + 5) (y := nI (ii + 5)) (nI_add ii 5) ?_
  refine me_sld hx hb hX hbl hbA hS (ii + 5) rfl (by omega) (by omega) dL_law_196 ?_
  refine lv_aload_n hx hb dL_law_197 rfl (lv_at hl 0 rfl) ?_
  refine lv_iload_n hx hb dL_law_198 rfl (lv_at hl 3 rfl) ?_
  refine lv_bipush (v := 6) hx hb dL_law_199 (by decide) ?_
  refine lv_iadd hx hb dL_law_201 ?_
  refine me_t (x := nI (ii) + 6) (y := nI (ii + 6)) (nI_add ii 6) ?_
  refine me_sld hx hb hX hbl hbA hS (ii + 6) rfl (by omega) (by omega) dL_law_202 ?_
  have hrec : ∃ cellB : Cell, H[mo]? = some cellB ∧ cellB.vm.isStatics = false ∧ s.vm.findClass RX4 = some cellB.cls := va_recv (q0 := 0) (ci := 4) hK (me_permP List.perm_append_comm hP) rfl rfl
  refine me_goIp (wr := w_ba o rw cR n gq bb ++ w_sh bb cI cZ M ++ w_cr ad cI ro (va_up C kc (st_putK n (xs (ii + 1)) (C kc) (xs (ii + 2)) (xs (ii + 3)) (xs (ii + 4)) (xs (ii + 5)) (xs (ii + 6)))) (List.range n)) (wc := w_re mo r cI n ro C M tm) (w1 := w_re mo r cI n ro (va_up C kc (st_putK n (xs (ii + 1)) (C kc) (xs (ii + 2)) (xs (ii + 3)) (xs (ii + 4)) (xs (ii + 5)) (xs (ii + 6)))) M tm) (va_runV (C := RX4) (b := mo) (As := [.int (xs (ii + 1)), .int (xs (ii + 2)), .int (xs (ii + 3)), .int (xs (ii + 4)), .int (xs (ii + 5)), .int (xs (ii + 6))]) (rest := [.int (me_b (st_puG n (xs (ii + 1)) (xs (ii + 2)) (xs (ii + 3)) (xs (ii + 4)) (xs (ii + 5)) (xs (ii + 6))))]) ⟨hx, hb, hml, hown, hg⟩ (c_mo_put l D cI cZ cR mo n r ro C (C kc) M tm kc rfl hkc hn4 hro hIk (xs (ii + 1)) hcore (xs (ii + 2)) (xs (ii + 3)) (xs (ii + 4)) (xs (ii + 5)) (xs (ii + 6)) H.size) (cwV 6 hg (bg_gV (fun _ h => h) bw_2_91 bw_2_92 bw_2_93 bw_1_5 bw_2_94) rfl rfl rfl (by decide +kernel) ⟨Nat.le_of_ble_eq_true rfl, Nat.le_of_ble_eq_true rfl⟩) (me_preVp (wr := w_ba o rw cR n gq bb ++ w_sh bb cI cZ M ++ w_cr ad cI ro (va_up C kc (st_putK n (xs (ii + 1)) (C kc) (xs (ii + 2)) (xs (ii + 3)) (xs (ii + 4)) (xs (ii + 5)) (xs (ii + 6)))) (List.range n)) (wc := w_re mo r cI n ro C M tm) hP hD hK hN hrec) rfl rfl hl.1 rfl (lv_room (Nat.le_of_ble_eq_true rfl)) dL_law_203 ⟨Nat.le_of_ble_eq_true rfl, Nat.le_of_ble_eq_true rfl⟩) hP hD hS hA (fun H locs hP hD hS => ?_)
  refine lv_icmp_eq (tgt := 627) hx hb dL_law_206 (by decide) (fun _ => ?_) (fun q => absurd rfl q)
  exact kk (va_up C kc (st_putK n (xs (ii + 1)) (C kc) (xs (ii + 2)) (xs (ii + 3)) (xs (ii + 4)) (xs (ii + 5)) (xs (ii + 6)))) (M) (tm) _ _ (la_Iup hI (sw_I (R := st_KI ro) (fun q => st_KIpu hIk q.2.2.1 q.2.2.2.1 q.2.2.2.2.1 q.2.2.2.2.2) (fun _ => hIk)) hT (by omega)) hP hD hS
set_option maxHeartbeats 4000000 in
set_option maxRecDepth 100000 in
theorem law_1 (l : Launch) {p : Program} {e : Env} {s : State} {m : MethodId} {below : List Frame} {meth : Method} {c : Code} {bs L : Nat} {xs : Nat → Int32} {D : va_G} {cI cZ cR : ClassId} (X : la_C p s m c bs L xs D cI cZ cR) {o rw n : Nat} {gq : Nat → Option Nat} {bb : Nat → Nat} {ad : Nat → Nat → Nat} {ro mo : Nat} {r : Nat → Nat} (G : la_G n ro gq ad) {C : Nat → st_T} {M : st_T} {tm : tm_T} {ii : Nat} (hI : la_I n ro C M tm ii) (hi : ii + 7 ≤ L) {H : Heap} {locs : List Loc} (hP : va_P D vwCl (la_W o rw n gq bb ad ro mo r cI cZ cR C M C M tm) H) (hD : va_D (la_A s) (la_W o rw n gq bb ad ro mo r cI cZ cR C M C M tm)) (hS : va_S (la_A s) s.heap H locs) {ls : Array Slot} (hl : lv_has ls 4 [(0, .ref bs), (1, .ref o), (2, .ref mo), (3, .int (nI ii))]) {Q : State → Prop} (kk : ∀ (C1 : Nat → st_T) (M1 : st_T) (t1 : tm_T) (H1 : Heap) (locs1 : List Loc), la_I n ro C1 M1 t1 (ii + 7) → va_P D vwCl (la_W o rw n gq bb ad ro mo r cI cZ cR C1 M1 C1 M1 t1) H1 → va_D (la_A s) (la_W o rw n gq bb ad ro mo r cI cZ cR C1 M1 C1 M1 t1) → va_S (la_A s) s.heap H1 locs1 → W p l e room_1 s m #[Value.ref bs] below meth c H1 locs1 62 1255 Q (F0 m 627 ls [])) : W p l e room_1 s m #[Value.ref bs] below meth c H locs 62 1255 Q (F0 m 211 ls []) := by
  obtain ⟨hx, hb, hml, hown, hg, hX, hbl, hK, hN, hL⟩ := X
  obtain ⟨hn, hro, hgq⟩ := G
  have hn4 : n ≤ 4 := by omega
  have hbA : ¬ la_A s bs := fun q => absurd q (by show ¬ s.heap.size ≤ bs; omega)
  have hA : ∀ q, s.heap.size ≤ q → la_A s q := fun q h => h
  obtain ⟨kc, hkc, hcore⟩ := la_kc (n := n) (xs (ii + 1)) (by omega) hn4
  have hIk := hI.1 kc hkc
  have hT := hI.2.1
  have hB := hI.2.2
  refine lv_aload_n hx hb dL_law_211 rfl (lv_at hl 1 rfl) ?_
  refine lv_aload_n hx hb dL_law_212 rfl (lv_at hl 0 rfl) ?_
  refine lv_iload_n hx hb dL_law_213 rfl (lv_at hl 3 rfl) ?_
  refine lv_iconst (v := 1) hx hb dL_law_214 (by decide) ?_
  refine lv_iadd hx hb dL_law_215 ?_
  refine me_t (x := nI (ii) + 1) (y := nI (ii + 1)) (nI_add ii 1) ?_
  refine me_sld hx hb hX hbl hbA hS (ii + 1) rfl (by omega) (by omega) dL_law_216 ?_
  refine lv_aload_n hx hb dL_law_217 rfl (lv_at hl 0 rfl) ?_
  refine lv_iload_n hx hb dL_law_218 rfl (lv_at hl 3 rfl) ?_
  refine lv_iconst (v := 2) hx hb dL_law_219 (by decide) ?_
  refine lv_iadd hx hb dL_law_220 ?_
  refine me_t (x := nI (ii) + 2) (y := nI (ii + 2)) (nI_add ii 2) ?_
  refine me_sld hx hb hX hbl hbA hS (ii + 2) rfl (by omega) (by omega) dL_law_221 ?_
  have hrec : ∃ cellB : Cell, H[o]? = some cellB ∧ cellB.vm.isStatics = false ∧ s.vm.findClass RX3 = some cellB.cls := va_recv (q0 := 0) (ci := 3) hK hP rfl rfl
  have hP1 := me_permP (la_p1 hkc) hP
  have hD1 := me_permD (la_p1 hkc) hD
  refine me_goIp (wr := w_cr ad cI ro C ((List.range n).erase kc) ++ w_re mo r cI n ro C M tm) (wc := w_ba o rw cR n gq bb ++ w_sh bb cI cZ M ++ w_co (ad kc) cI (C kc) ++ w_bu (ad kc) cI ro (C kc)) (w1 := w_ba o rw cR n gq bb ++ w_sh bb cI cZ M ++ w_co (ad kc) cI (me_sw (me_in (xs (ii + 1)) n ∧ me_in (xs (ii + 2)) 24) (st_ks (C kc) 6 0 (xs (ii + 2))) (C kc)) ++ w_bu (ad kc) cI ro (me_sw (me_in (xs (ii + 1)) n ∧ me_in (xs (ii + 2)) 24) (st_ks (C kc) 6 0 (xs (ii + 2))) (C kc))) (va_runV (C := RX3) (b := o) (As := [.int (xs (ii + 1)), .int (xs (ii + 2))]) (rest := []) ⟨hx, hb, hml, hown, hg⟩ (c_sb_recovery l D cI cZ cR o rw n gq bb (ad kc) ro (C kc) M kc hkc hn4 (hgq kc hkc) hro hIk (xs (ii + 1)) hcore (xs (ii + 2)) H.size) (cwV 2 hg (bg_gV (fun _ h => h) bw_1_121 bw_1_122 bw_1_123 bw_1_1 bw_1_124) rfl rfl rfl (by decide +kernel) ⟨Nat.le_of_ble_eq_true rfl, Nat.le_of_ble_eq_true rfl⟩) (me_preVp (wr := w_cr ad cI ro C ((List.range n).erase kc) ++ w_re mo r cI n ro C M tm) (wc := w_ba o rw cR n gq bb ++ w_sh bb cI cZ M ++ w_co (ad kc) cI (C kc) ++ w_bu (ad kc) cI ro (C kc)) hP1 hD1 hK hN hrec) rfl rfl hl.1 rfl (lv_room (Nat.le_of_ble_eq_true rfl)) dL_law_222 ⟨Nat.le_of_ble_eq_true rfl, Nat.le_of_ble_eq_true rfl⟩) hP1 hD1 hS hA (fun H locs hP hD hS => ?_)
  have hP := me_permP (la_p2 hkc (me_sw (me_in (xs (ii + 1)) n ∧ me_in (xs (ii + 2)) 24) (st_ks (C kc) 6 0 (xs (ii + 2))) (C kc))) hP
  have hD := me_permD (la_p2 hkc (me_sw (me_in (xs (ii + 1)) n ∧ me_in (xs (ii + 2)) 24) (st_ks (C kc) 6 0 (xs (ii + 2))) (C kc))) hD
  refine lv_aload_n hx hb dL_law_225 rfl (lv_at hl 2 rfl) ?_
  refine lv_aload_n hx hb dL_law_226 rfl (lv_at hl 0 rfl) ?_
  refine lv_iload_n hx hb dL_law_227 rfl (lv_at hl 3 rfl) ?_
  refine lv_iconst (v := 1) hx hb dL_law_228 (by decide) ?_
  refine lv_iadd hx hb dL_law_229 ?_
  refine me_t (x := nI (ii) + 1) (y := nI (ii + 1)) (nI_add ii 1) ?_
  refine me_sld hx hb hX hbl hbA hS (ii + 1) rfl (by omega) (by omega) dL_law_230 ?_
  refine lv_aload_n hx hb dL_law_231 rfl (lv_at hl 0 rfl) ?_
  refine lv_iload_n hx hb dL_law_232 rfl (lv_at hl 3 rfl) ?_
  refine lv_iconst (v := 2) hx hb dL_law_233 (by decide) ?_
  refine lv_iadd hx hb dL_law_234 ?_
  refine me_t (x := nI (ii) + 2) (y := nI (ii + 2)) (nI_add ii 2) ?_
  refine me_sld hx hb hX hbl hbA hS (ii + 2) rfl (by omega) (by omega) dL_law_235 ?_
  have hrec : ∃ cellB : Cell, H[mo]? = some cellB ∧ cellB.vm.isStatics = false ∧ s.vm.findClass RX4 = some cellB.cls := va_recv (q0 := 0) (ci := 4) hK (me_permP List.perm_append_comm hP) rfl rfl
  refine me_goIp (wr := w_ba o rw cR n gq bb ++ w_sh bb cI cZ M ++ w_cr ad cI ro (va_up C kc (me_sw (me_in (xs (ii + 1)) n ∧ me_in (xs (ii + 2)) 24) (st_ks (C kc) 6 0 (xs (ii + 2))) (C kc))) (List.range n)) (wc := w_re mo r cI n ro C M tm) (w1 := w_re mo r cI n ro (va_up C kc (me_sw (me_in (xs (ii + 1)) n ∧ me_in (xs (ii + 2)) 24) (st_ks (C kc) 6 0 (xs (ii + 2))) (C kc))) M tm) (va_runV (C := RX4) (b := mo) (As := [.int (xs (ii + 1)), .int (xs (ii + 2))]) (rest := [.int (me_b (me_in (xs (ii + 1)) n ∧ me_in (xs (ii + 2)) 24))]) ⟨hx, hb, hml, hown, hg⟩ (c_mo_recovery l D cI cZ cR mo n r ro C (C kc) M tm kc rfl hkc hn4 hro hIk (xs (ii + 1)) hcore (xs (ii + 2)) H.size) (cwV 2 hg (bg_gV (fun _ h => h) bw_2_99 bw_2_100 bw_2_101 bw_1_5 bw_2_102) rfl rfl rfl (by decide +kernel) ⟨Nat.le_of_ble_eq_true rfl, Nat.le_of_ble_eq_true rfl⟩) (me_preVp (wr := w_ba o rw cR n gq bb ++ w_sh bb cI cZ M ++ w_cr ad cI ro (va_up C kc (me_sw (me_in (xs (ii + 1)) n ∧ me_in (xs (ii + 2)) 24) (st_ks (C kc) 6 0 (xs (ii + 2))) (C kc))) (List.range n)) (wc := w_re mo r cI n ro C M tm) hP hD hK hN hrec) rfl rfl hl.1 rfl (lv_room (Nat.le_of_ble_eq_true rfl)) dL_law_236 ⟨Nat.le_of_ble_eq_true rfl, Nat.le_of_ble_eq_true rfl⟩) hP hD hS hA (fun H locs hP hD hS => ?_)
  refine lv_icmp_eq (tgt := 627) hx hb dL_law_239 (by decide) (fun _ => ?_) (fun q => absurd rfl q)
  exact kk (va_up C kc (me_sw (me_in (xs (ii + 1)) n ∧ me_in (xs (ii + 2)) 24) (st_ks (C kc) 6 0 (xs (ii + 2))) (C kc))) (M) (tm) _ _ (la_Iup hI (sw_I (R := st_KI ro) (fun q => by obtain ⟨j, hj, e⟩ := q.2; exact st_KI6 hIk hj e) (fun _ => hIk)) hT (by omega)) hP hD hS
set_option maxHeartbeats 4000000 in
set_option maxRecDepth 100000 in
theorem law_2 (l : Launch) {p : Program} {e : Env} {s : State} {m : MethodId} {below : List Frame} {meth : Method} {c : Code} {bs L : Nat} {xs : Nat → Int32} {D : va_G} {cI cZ cR : ClassId} (X : la_C p s m c bs L xs D cI cZ cR) {o rw n : Nat} {gq : Nat → Option Nat} {bb : Nat → Nat} {ad : Nat → Nat → Nat} {ro mo : Nat} {r : Nat → Nat} (G : la_G n ro gq ad) {C : Nat → st_T} {M : st_T} {tm : tm_T} {ii : Nat} (hI : la_I n ro C M tm ii) (hi : ii + 7 ≤ L) {H : Heap} {locs : List Loc} (hP : va_P D vwCl (la_W o rw n gq bb ad ro mo r cI cZ cR C M C M tm) H) (hD : va_D (la_A s) (la_W o rw n gq bb ad ro mo r cI cZ cR C M C M tm)) (hS : va_S (la_A s) s.heap H locs) {ls : Array Slot} (hl : lv_has ls 4 [(0, .ref bs), (1, .ref o), (2, .ref mo), (3, .int (nI ii))]) {Q : State → Prop} (kk : ∀ (C1 : Nat → st_T) (M1 : st_T) (t1 : tm_T) (H1 : Heap) (locs1 : List Loc), la_I n ro C1 M1 t1 (ii + 7) → va_P D vwCl (la_W o rw n gq bb ad ro mo r cI cZ cR C1 M1 C1 M1 t1) H1 → va_D (la_A s) (la_W o rw n gq bb ad ro mo r cI cZ cR C1 M1 C1 M1 t1) → va_S (la_A s) s.heap H1 locs1 → W p l e room_1 s m #[Value.ref bs] below meth c H1 locs1 62 1255 Q (F0 m 627 ls [])) : W p l e room_1 s m #[Value.ref bs] below meth c H locs 62 1255 Q (F0 m 244 ls []) := by
  obtain ⟨hx, hb, hml, hown, hg, hX, hbl, hK, hN, hL⟩ := X
  obtain ⟨hn, hro, hgq⟩ := G
  have hn4 : n ≤ 4 := by omega
  have hbA : ¬ la_A s bs := fun q => absurd q (by show ¬ s.heap.size ≤ bs; omega)
  have hA : ∀ q, s.heap.size ≤ q → la_A s q := fun q h => h
  obtain ⟨kc, hkc, hcore⟩ := la_kc (n := n) (xs (ii + 1)) (by omega) hn4
  have hIk := hI.1 kc hkc
  have hT := hI.2.1
  have hB := hI.2.2
  refine lv_aload_n hx hb dL_law_244 rfl (lv_at hl 1 rfl) ?_
  refine lv_aload_n hx hb dL_law_245 rfl (lv_at hl 0 rfl) ?_
  refine lv_iload_n hx hb dL_law_246 rfl (lv_at hl 3 rfl) ?_
  refine lv_iconst (v := 1) hx hb dL_law_247 (by decide) ?_
  refine lv_iadd hx hb dL_law_248 ?_
  refine me_t (x := nI (ii) + 1) (y := nI (ii + 1)) (nI_add ii 1) ?_
  refine me_sld hx hb hX hbl hbA hS (ii + 1) rfl (by omega) (by omega) dL_law_249 ?_
  have hrec : ∃ cellB : Cell, H[o]? = some cellB ∧ cellB.vm.isStatics = false ∧ s.vm.findClass RX3 = some cellB.cls := va_recv (q0 := 0) (ci := 3) hK hP rfl rfl
  have hP1 := me_permP (la_p1 hkc) hP
  have hD1 := me_permD (la_p1 hkc) hD
  refine me_goIp (wr := w_cr ad cI ro C ((List.range n).erase kc) ++ w_re mo r cI n ro C M tm) (wc := w_ba o rw cR n gq bb ++ w_sh bb cI cZ M ++ w_co (ad kc) cI (C kc) ++ w_bu (ad kc) cI ro (C kc)) (w1 := w_ba o rw cR n gq bb ++ w_sh bb cI cZ (me_sw (me_in (xs (ii + 1)) n) (st_doM ro (C kc) M) M) ++ w_co (ad kc) cI (me_sw (me_in (xs (ii + 1)) n) (st_doK ro (C kc) M) (C kc)) ++ w_bu (ad kc) cI ro (me_sw (me_in (xs (ii + 1)) n) (st_doK ro (C kc) M) (C kc))) (va_runV (C := RX3) (b := o) (As := [.int (xs (ii + 1))]) (rest := []) ⟨hx, hb, hml, hown, hg⟩ (c_sb_step l D cI cZ cR o rw n gq bb (ad kc) ro (C kc) M kc hkc hn4 (hgq kc hkc) hro hIk (xs (ii + 1)) hcore H.size) (cwV 1 hg (bg_gV (fun _ h => h) bw_1_125 bw_1_126 bw_1_127 bw_1_1 bw_1_128) rfl rfl rfl (by decide +kernel) ⟨Nat.le_of_ble_eq_true rfl, Nat.le_of_ble_eq_true rfl⟩) (me_preVp (wr := w_cr ad cI ro C ((List.range n).erase kc) ++ w_re mo r cI n ro C M tm) (wc := w_ba o rw cR n gq bb ++ w_sh bb cI cZ M ++ w_co (ad kc) cI (C kc) ++ w_bu (ad kc) cI ro (C kc)) hP1 hD1 hK hN hrec) rfl rfl hl.1 rfl (lv_room (Nat.le_of_ble_eq_true rfl)) dL_law_250 ⟨Nat.le_of_ble_eq_true rfl, Nat.le_of_ble_eq_true rfl⟩) hP1 hD1 hS hA (fun H locs hP hD hS => ?_)
  have hP := me_permP (la_p2 hkc (me_sw (me_in (xs (ii + 1)) n) (st_doK ro (C kc) M) (C kc))) hP
  have hD := me_permD (la_p2 hkc (me_sw (me_in (xs (ii + 1)) n) (st_doK ro (C kc) M) (C kc))) hD
  refine lv_aload_n hx hb dL_law_253 rfl (lv_at hl 2 rfl) ?_
  refine lv_aload_n hx hb dL_law_254 rfl (lv_at hl 0 rfl) ?_
  refine lv_iload_n hx hb dL_law_255 rfl (lv_at hl 3 rfl) ?_
  refine lv_iconst (v := 1) hx hb dL_law_256 (by decide) ?_
  refine lv_iadd hx hb dL_law_257 ?_
  refine me_t (x := nI (ii) + 1) (y := nI (ii + 1)) (nI_add ii 1) ?_
  refine me_sld hx hb hX hbl hbA hS (ii + 1) rfl (by omega) (by omega) dL_law_258 ?_
  have hrec : ∃ cellB : Cell, H[mo]? = some cellB ∧ cellB.vm.isStatics = false ∧ s.vm.findClass RX4 = some cellB.cls := va_recv (q0 := 0) (ci := 4) hK (me_permP List.perm_append_comm hP) rfl rfl
  refine me_goIp (wr := w_ba o rw cR n gq bb ++ w_sh bb cI cZ (me_sw (me_in (xs (ii + 1)) n) (st_doM ro (C kc) M) M) ++ w_cr ad cI ro (va_up C kc (me_sw (me_in (xs (ii + 1)) n) (st_doK ro (C kc) M) (C kc))) (List.range n)) (wc := w_re mo r cI n ro C M tm) (w1 := w_re mo r cI n ro (va_up C kc (me_sw (me_in (xs (ii + 1)) n) (st_doK ro (C kc) M) (C kc))) (me_sw (me_in (xs (ii + 1)) n) (st_doM ro (C kc) M) M) (me_sw (me_in (xs (ii + 1)) n) (tm_do ro tm (C kc) M) tm)) (va_runV (C := RX4) (b := mo) (As := [.int (xs (ii + 1))]) (rest := [.int (me_sw (me_in (xs (ii + 1)) n) (st_doA ro (C kc)) (-1))]) ⟨hx, hb, hml, hown, hg⟩ (c_mo_step l D cI cZ cR mo n r ro C (C kc) M tm kc rfl hkc hn4 hro hIk (xs (ii + 1)) hcore H.size) (cwV 1 hg (bg_gV (fun _ h => h) bw_2_144 bw_2_145 bw_2_146 bw_1_5 bw_2_147) rfl rfl rfl (by decide +kernel) ⟨Nat.le_of_ble_eq_true rfl, Nat.le_of_ble_eq_true rfl⟩) (me_preVp (wr := w_ba o rw cR n gq bb ++ w_sh bb cI cZ (me_sw (me_in (xs (ii + 1)) n) (st_doM ro (C kc) M) M) ++ w_cr ad cI ro (va_up C kc (me_sw (me_in (xs (ii + 1)) n) (st_doK ro (C kc) M) (C kc))) (List.range n)) (wc := w_re mo r cI n ro C M tm) hP hD hK hN hrec) rfl rfl hl.1 rfl (lv_room (Nat.le_of_ble_eq_true rfl)) dL_law_259 ⟨Nat.le_of_ble_eq_true rfl, Nat.le_of_ble_eq_true rfl⟩) hP hD hS hA (fun H locs hP hD hS => ?_)
  refine lv_icmp_eq (tgt := 627) hx hb dL_law_262 (by decide) (fun _ => ?_) (fun q => absurd rfl q)
  exact kk (va_up C kc (me_sw (me_in (xs (ii + 1)) n) (st_doK ro (C kc) M) (C kc))) (me_sw (me_in (xs (ii + 1)) n) (st_doM ro (C kc) M) M) (me_sw (me_in (xs (ii + 1)) n) (tm_do ro tm (C kc) M) tm) _ _ (la_Isw (fun _ => la_Iup hI (st_KIdo hIk hro) (tm_Ido hT (by omega)).1 (Nat.le_trans (tm_Ido (ro := ro) (K := C kc) hT (by omega)).2 (by omega))) (fun _ => la_Iup hI hIk hT (by omega))) hP hD hS
set_option maxHeartbeats 4000000 in
set_option maxRecDepth 100000 in
theorem law_3 (l : Launch) {p : Program} {e : Env} {s : State} {m : MethodId} {below : List Frame} {meth : Method} {c : Code} {bs L : Nat} {xs : Nat → Int32} {D : va_G} {cI cZ cR : ClassId} (X : la_C p s m c bs L xs D cI cZ cR) {o rw n : Nat} {gq : Nat → Option Nat} {bb : Nat → Nat} {ad : Nat → Nat → Nat} {ro mo : Nat} {r : Nat → Nat} (G : la_G n ro gq ad) {C : Nat → st_T} {M : st_T} {tm : tm_T} {ii : Nat} (hI : la_I n ro C M tm ii) (hi : ii + 7 ≤ L) {H : Heap} {locs : List Loc} (hP : va_P D vwCl (la_W o rw n gq bb ad ro mo r cI cZ cR C M C M tm) H) (hD : va_D (la_A s) (la_W o rw n gq bb ad ro mo r cI cZ cR C M C M tm)) (hS : va_S (la_A s) s.heap H locs) {ls : Array Slot} (hl : lv_has ls 4 [(0, .ref bs), (1, .ref o), (2, .ref mo), (3, .int (nI ii))]) {Q : State → Prop} (kk : ∀ (C1 : Nat → st_T) (M1 : st_T) (t1 : tm_T) (H1 : Heap) (locs1 : List Loc), la_I n ro C1 M1 t1 (ii + 7) → va_P D vwCl (la_W o rw n gq bb ad ro mo r cI cZ cR C1 M1 C1 M1 t1) H1 → va_D (la_A s) (la_W o rw n gq bb ad ro mo r cI cZ cR C1 M1 C1 M1 t1) → va_S (la_A s) s.heap H1 locs1 → W p l e room_1 s m #[Value.ref bs] below meth c H1 locs1 62 1255 Q (F0 m 627 ls [])) : W p l e room_1 s m #[Value.ref bs] below meth c H locs 62 1255 Q (F0 m 267 ls []) := by
  obtain ⟨hx, hb, hml, hown, hg, hX, hbl, hK, hN, hL⟩ := X
  obtain ⟨hn, hro, hgq⟩ := G
  have hn4 : n ≤ 4 := by omega
  have hbA : ¬ la_A s bs := fun q => absurd q (by show ¬ s.heap.size ≤ bs; omega)
  have hA : ∀ q, s.heap.size ≤ q → la_A s q := fun q h => h
  obtain ⟨kc, hkc, hcore⟩ := la_kc (n := n) (xs (ii + 1)) (by omega) hn4
  have hIk := hI.1 kc hkc
  have hT := hI.2.1
  have hB := hI.2.2
  refine lv_aload_n hx hb dL_law_267 rfl (lv_at hl 1 rfl) ?_
  refine lv_aload_n hx hb dL_law_268 rfl (lv_at hl 0 rfl) ?_
  refine lv_iload_n hx hb dL_law_269 rfl (lv_at hl 3 rfl) ?_
  refine lv_iconst (v := 1) hx hb dL_law_270 (by decide) ?_
  refine lv_iadd hx hb dL_law_271 ?_
  refine me_t (x := nI (ii) + 1) (y := nI (ii + 1)) (nI_add ii 1) ?_
  refine me_sld hx hb hX hbl hbA hS (ii + 1) rfl (by omega) (by omega) dL_law_272 ?_
  refine lv_aload_n hx hb dL_law_273 rfl (lv_at hl 0 rfl) ?_
  refine lv_iload_n hx hb dL_law_274 rfl (lv_at hl 3 rfl) ?_
  refine lv_iconst (v := 2) hx hb dL_law_275 (by decide) ?_
  refine lv_iadd hx hb dL_law_276 ?_
  refine me_t (x := nI (ii) + 2) (y := nI (ii + 2)) (nI_add ii 2) ?_
  refine me_sld hx hb hX hbl hbA hS (ii + 2) rfl (by omega) (by omega) dL_law_277 ?_
  have hrec : ∃ cellB : Cell, H[o]? = some cellB ∧ cellB.vm.isStatics = false ∧ s.vm.findClass RX3 = some cellB.cls := va_recv (q0 := 0) (ci := 3) hK hP rfl rfl
  have hP1 := me_permP (la_p1 hkc) hP
  have hD1 := me_permD (la_p1 hkc) hD
  refine me_goIp (wr := w_cr ad cI ro C ((List.range n).erase kc) ++ w_re mo r cI n ro C M tm) (wc := w_ba o rw cR n gq bb ++ w_sh bb cI cZ M ++ w_co (ad kc) cI (C kc) ++ w_bu (ad kc) cI ro (C kc)) (w1 := w_ba o rw cR n gq bb ++ w_sh bb cI cZ (me_sw (me_in (xs (ii + 1)) n ∧ me_in (xs (ii + 2)) 21) (st_run ro (xs (ii + 2)).toNatClampNeg (C kc) M).2.2 M) ++ w_co (ad kc) cI (me_sw (me_in (xs (ii + 1)) n ∧ me_in (xs (ii + 2)) 21) (st_run ro (xs (ii + 2)).toNatClampNeg (C kc) M).2.1 (C kc)) ++ w_bu (ad kc) cI ro (me_sw (me_in (xs (ii + 1)) n ∧ me_in (xs (ii + 2)) 21) (st_run ro (xs (ii + 2)).toNatClampNeg (C kc) M).2.1 (C kc))) (va_runV (C := RX3) (b := o) (As := [.int (xs (ii + 1)), .int (xs (ii + 2))]) (rest := []) ⟨hx, hb, hml, hown, hg⟩ (c_sb_run l D cI cZ cR o rw n gq bb (ad kc) ro (C kc) M kc hkc hn4 (hgq kc hkc) hro hIk (xs (ii + 1)) hcore (xs (ii + 2)) H.size) (cwV 2 hg (bg_gV (fun _ h => h) bw_1_166 bw_1_167 bw_1_168 bw_1_1 bw_1_169) rfl rfl rfl (by decide +kernel) ⟨Nat.le_of_ble_eq_true rfl, Nat.le_of_ble_eq_true rfl⟩) (me_preVp (wr := w_cr ad cI ro C ((List.range n).erase kc) ++ w_re mo r cI n ro C M tm) (wc := w_ba o rw cR n gq bb ++ w_sh bb cI cZ M ++ w_co (ad kc) cI (C kc) ++ w_bu (ad kc) cI ro (C kc)) hP1 hD1 hK hN hrec) rfl rfl hl.1 rfl (lv_room (Nat.le_of_ble_eq_true rfl)) dL_law_278 ⟨Nat.le_of_ble_eq_true rfl, Nat.le_of_ble_eq_true rfl⟩) hP1 hD1 hS hA (fun H locs hP hD hS => ?_)
  have hP := me_permP (la_p2 hkc (me_sw (me_in (xs (ii + 1)) n ∧ me_in (xs (ii + 2)) 21) (st_run ro (xs (ii + 2)).toNatClampNeg (C kc) M).2.1 (C kc))) hP
  have hD := me_permD (la_p2 hkc (me_sw (me_in (xs (ii + 1)) n ∧ me_in (xs (ii + 2)) 21) (st_run ro (xs (ii + 2)).toNatClampNeg (C kc) M).2.1 (C kc))) hD
  refine lv_aload_n hx hb dL_law_281 rfl (lv_at hl 2 rfl) ?_
  refine lv_aload_n hx hb dL_law_282 rfl (lv_at hl 0 rfl) ?_
  refine lv_iload_n hx hb dL_law_283 rfl (lv_at hl 3 rfl) ?_
  refine lv_iconst (v := 1) hx hb dL_law_284 (by decide) ?_
  refine lv_iadd hx hb dL_law_285 ?_
  refine me_t (x := nI (ii) + 1) (y := nI (ii + 1)) (nI_add ii 1) ?_
  refine me_sld hx hb hX hbl hbA hS (ii + 1) rfl (by omega) (by omega) dL_law_286 ?_
  refine lv_aload_n hx hb dL_law_287 rfl (lv_at hl 0 rfl) ?_
  refine lv_iload_n hx hb dL_law_288 rfl (lv_at hl 3 rfl) ?_
  refine lv_iconst (v := 2) hx hb dL_law_289 (by decide) ?_
  refine lv_iadd hx hb dL_law_290 ?_
  refine me_t (x := nI (ii) + 2) (y := nI (ii + 2)) (nI_add ii 2) ?_
  refine me_sld hx hb hX hbl hbA hS (ii + 2) rfl (by omega) (by omega) dL_law_291 ?_
  have hrec : ∃ cellB : Cell, H[mo]? = some cellB ∧ cellB.vm.isStatics = false ∧ s.vm.findClass RX4 = some cellB.cls := va_recv (q0 := 0) (ci := 4) hK (me_permP List.perm_append_comm hP) rfl rfl
  refine me_goIp (wr := w_ba o rw cR n gq bb ++ w_sh bb cI cZ (me_sw (me_in (xs (ii + 1)) n ∧ me_in (xs (ii + 2)) 21) (st_run ro (xs (ii + 2)).toNatClampNeg (C kc) M).2.2 M) ++ w_cr ad cI ro (va_up C kc (me_sw (me_in (xs (ii + 1)) n ∧ me_in (xs (ii + 2)) 21) (st_run ro (xs (ii + 2)).toNatClampNeg (C kc) M).2.1 (C kc))) (List.range n)) (wc := w_re mo r cI n ro C M tm) (w1 := w_re mo r cI n ro (va_up C kc (me_sw (me_in (xs (ii + 1)) n ∧ me_in (xs (ii + 2)) 21) (st_run ro (xs (ii + 2)).toNatClampNeg (C kc) M).2.1 (C kc))) (me_sw (me_in (xs (ii + 1)) n ∧ me_in (xs (ii + 2)) 21) (st_run ro (xs (ii + 2)).toNatClampNeg (C kc) M).2.2 M) (me_sw (me_in (xs (ii + 1)) n ∧ me_in (xs (ii + 2)) 21) (tm_run ro (xs (ii + 2)).toNatClampNeg tm (C kc) M) tm)) (va_runV (C := RX4) (b := mo) (As := [.int (xs (ii + 1)), .int (xs (ii + 2))]) (rest := [.int (me_sw (me_in (xs (ii + 1)) n ∧ me_in (xs (ii + 2)) 21) (nI (st_run ro (xs (ii + 2)).toNatClampNeg (C kc) M).1) (-1))]) ⟨hx, hb, hml, hown, hg⟩ (c_mo_run l D cI cZ cR mo n r ro C (C kc) M tm kc rfl hkc hn4 hro hIk (xs (ii + 1)) hcore (xs (ii + 2)) H.size) (cwV 2 hg (bg_gV (fun _ h => h) bw_2_157 bw_2_158 bw_2_159 bw_1_5 bw_2_160) rfl rfl rfl (by decide +kernel) ⟨Nat.le_of_ble_eq_true rfl, Nat.le_of_ble_eq_true rfl⟩) (me_preVp (wr := w_ba o rw cR n gq bb ++ w_sh bb cI cZ (me_sw (me_in (xs (ii + 1)) n ∧ me_in (xs (ii + 2)) 21) (st_run ro (xs (ii + 2)).toNatClampNeg (C kc) M).2.2 M) ++ w_cr ad cI ro (va_up C kc (me_sw (me_in (xs (ii + 1)) n ∧ me_in (xs (ii + 2)) 21) (st_run ro (xs (ii + 2)).toNatClampNeg (C kc) M).2.1 (C kc))) (List.range n)) (wc := w_re mo r cI n ro C M tm) hP hD hK hN hrec) rfl rfl hl.1 rfl (lv_room (Nat.le_of_ble_eq_true rfl)) dL_law_292 ⟨Nat.le_of_ble_eq_true rfl, Nat.le_of_ble_eq_true rfl⟩) hP hD hS hA (fun H locs hP hD hS => ?_)
  refine lv_icmp_eq (tgt := 627) hx hb dL_law_295 (by decide) (fun _ => ?_) (fun q => absurd rfl q)
  have hinv : la_I n ro (va_up C kc (me_sw (me_in (xs (ii + 1)) n ∧ me_in (xs (ii + 2)) 21) (st_run ro (xs (ii + 2)).toNatClampNeg (C kc) M).2.1 (C kc))) (me_sw (me_in (xs (ii + 1)) n ∧ me_in (xs (ii + 2)) 21) (st_run ro (xs (ii + 2)).toNatClampNeg (C kc) M).2.2 M) (me_sw (me_in (xs (ii + 1)) n ∧ me_in (xs (ii + 2)) 21) (tm_run ro (xs (ii + 2)).toNatClampNeg tm (C kc) M) tm) (ii + 7) := by
    refine la_Isw (fun q => ?_) (fun _ => la_Iup hI hIk hT (by omega))
    obtain ⟨j, hj, ej⟩ := q.2
    have hv : (xs (ii + 2)).toNatClampNeg = j := by rw [ej]; exact nI_clamp (by omega)
    have h2 := tm_Irun (ro := ro) ((xs (ii + 2)).toNatClampNeg) (C kc) M tm hT (by rw [hv]; omega)
    have h3 := h2.2
    rw [hv] at h3
    refine la_Iup hI (st_KIrun hro _ _ _ hIk) h2.1 ?_
    rw [hv]
    omega
  exact kk (va_up C kc (me_sw (me_in (xs (ii + 1)) n ∧ me_in (xs (ii + 2)) 21) (st_run ro (xs (ii + 2)).toNatClampNeg (C kc) M).2.1 (C kc))) (me_sw (me_in (xs (ii + 1)) n ∧ me_in (xs (ii + 2)) 21) (st_run ro (xs (ii + 2)).toNatClampNeg (C kc) M).2.2 M) (me_sw (me_in (xs (ii + 1)) n ∧ me_in (xs (ii + 2)) 21) (tm_run ro (xs (ii + 2)).toNatClampNeg tm (C kc) M) tm) _ _ (hinv) hP hD hS
set_option maxHeartbeats 4000000 in
set_option maxRecDepth 100000 in
theorem law_4 (l : Launch) {p : Program} {e : Env} {s : State} {m : MethodId} {below : List Frame} {meth : Method} {c : Code} {bs L : Nat} {xs : Nat → Int32} {D : va_G} {cI cZ cR : ClassId} (X : la_C p s m c bs L xs D cI cZ cR) {o rw n : Nat} {gq : Nat → Option Nat} {bb : Nat → Nat} {ad : Nat → Nat → Nat} {ro mo : Nat} {r : Nat → Nat} (G : la_G n ro gq ad) {C : Nat → st_T} {M : st_T} {tm : tm_T} {ii : Nat} (hI : la_I n ro C M tm ii) (hi : ii + 7 ≤ L) {H : Heap} {locs : List Loc} (hP : va_P D vwCl (la_W o rw n gq bb ad ro mo r cI cZ cR C M C M tm) H) (hD : va_D (la_A s) (la_W o rw n gq bb ad ro mo r cI cZ cR C M C M tm)) (hS : va_S (la_A s) s.heap H locs) {ls : Array Slot} (hl : lv_has ls 4 [(0, .ref bs), (1, .ref o), (2, .ref mo), (3, .int (nI ii))]) {Q : State → Prop} (kk : ∀ (C1 : Nat → st_T) (M1 : st_T) (t1 : tm_T) (H1 : Heap) (locs1 : List Loc), la_I n ro C1 M1 t1 (ii + 7) → va_P D vwCl (la_W o rw n gq bb ad ro mo r cI cZ cR C1 M1 C1 M1 t1) H1 → va_D (la_A s) (la_W o rw n gq bb ad ro mo r cI cZ cR C1 M1 C1 M1 t1) → va_S (la_A s) s.heap H1 locs1 → W p l e room_1 s m #[Value.ref bs] below meth c H1 locs1 62 1255 Q (F0 m 627 ls [])) : W p l e room_1 s m #[Value.ref bs] below meth c H locs 62 1255 Q (F0 m 300 ls []) := by
  obtain ⟨hx, hb, hml, hown, hg, hX, hbl, hK, hN, hL⟩ := X
  obtain ⟨hn, hro, hgq⟩ := G
  have hn4 : n ≤ 4 := by omega
  have hbA : ¬ la_A s bs := fun q => absurd q (by show ¬ s.heap.size ≤ bs; omega)
  have hA : ∀ q, s.heap.size ≤ q → la_A s q := fun q h => h
  obtain ⟨kc, hkc, hcore⟩ := la_kc (n := n) (xs (ii + 1)) (by omega) hn4
  have hIk := hI.1 kc hkc
  have hT := hI.2.1
  have hB := hI.2.2
  refine lv_aload_n hx hb dL_law_300 rfl (lv_at hl 1 rfl) ?_
  refine lv_aload_n hx hb dL_law_301 rfl (lv_at hl 0 rfl) ?_
  refine lv_iload_n hx hb dL_law_302 rfl (lv_at hl 3 rfl) ?_
  refine lv_iconst (v := 1) hx hb dL_law_303 (by decide) ?_
  refine lv_iadd hx hb dL_law_304 ?_
  refine me_t (x := nI (ii) + 1) (y := nI (ii + 1)) (nI_add ii 1) ?_
  refine me_sld hx hb hX hbl hbA hS (ii + 1) rfl (by omega) (by omega) dL_law_305 ?_
  refine lv_aload_n hx hb dL_law_306 rfl (lv_at hl 0 rfl) ?_
  refine lv_iload_n hx hb dL_law_307 rfl (lv_at hl 3 rfl) ?_
  refine lv_iconst (v := 2) hx hb dL_law_308 (by decide) ?_
  refine lv_iadd hx hb dL_law_309 ?_
  refine me_t (x := nI (ii) + 2) (y := nI (ii + 2)) (nI_add ii 2) ?_
  refine me_sld hx hb hX hbl hbA hS (ii + 2) rfl (by omega) (by omega) dL_law_310 ?_
  have hrec : ∃ cellB : Cell, H[o]? = some cellB ∧ cellB.vm.isStatics = false ∧ s.vm.findClass RX3 = some cellB.cls := va_recv (q0 := 0) (ci := 3) hK hP rfl rfl
  have hP1 := me_permP (la_p1 hkc) hP
  have hD1 := me_permD (la_p1 hkc) hD
  refine me_goIp (wr := w_cr ad cI ro C ((List.range n).erase kc) ++ w_re mo r cI n ro C M tm) (wc := w_ba o rw cR n gq bb ++ w_sh bb cI cZ M ++ w_co (ad kc) cI (C kc) ++ w_bu (ad kc) cI ro (C kc)) (w1 := w_ba o rw cR n gq bb ++ w_sh bb cI cZ (me_sw (st_drG n (xs (ii + 1)) (C kc) (xs (ii + 2))) (st_out M (C kc) (xs (ii + 2)).toNatClampNeg) M) ++ w_co (ad kc) cI (me_sw (st_drG n (xs (ii + 1)) (C kc) (xs (ii + 2))) (st_rm (C kc) (xs (ii + 2)).toNatClampNeg) (C kc)) ++ w_bu (ad kc) cI ro (me_sw (st_drG n (xs (ii + 1)) (C kc) (xs (ii + 2))) (st_rm (C kc) (xs (ii + 2)).toNatClampNeg) (C kc))) (va_runV (C := RX3) (b := o) (As := [.int (xs (ii + 1)), .int (xs (ii + 2))]) (rest := []) ⟨hx, hb, hml, hown, hg⟩ (c_sb_drain l D cI cZ cR o rw n gq bb (ad kc) ro (C kc) M kc hkc hn4 (hgq kc hkc) hro hIk (xs (ii + 1)) hcore (xs (ii + 2)) H.size) (cwV 2 hg (bg_gV (fun _ h => h) bw_1_170 bw_1_171 bw_1_172 bw_1_1 bw_1_173) rfl rfl rfl (by decide +kernel) ⟨Nat.le_of_ble_eq_true rfl, Nat.le_of_ble_eq_true rfl⟩) (me_preVp (wr := w_cr ad cI ro C ((List.range n).erase kc) ++ w_re mo r cI n ro C M tm) (wc := w_ba o rw cR n gq bb ++ w_sh bb cI cZ M ++ w_co (ad kc) cI (C kc) ++ w_bu (ad kc) cI ro (C kc)) hP1 hD1 hK hN hrec) rfl rfl hl.1 rfl (lv_room (Nat.le_of_ble_eq_true rfl)) dL_law_311 ⟨Nat.le_of_ble_eq_true rfl, Nat.le_of_ble_eq_true rfl⟩) hP1 hD1 hS hA (fun H locs hP hD hS => ?_)
  have hP := me_permP (la_p2 hkc (me_sw (st_drG n (xs (ii + 1)) (C kc) (xs (ii + 2))) (st_rm (C kc) (xs (ii + 2)).toNatClampNeg) (C kc))) hP
  have hD := me_permD (la_p2 hkc (me_sw (st_drG n (xs (ii + 1)) (C kc) (xs (ii + 2))) (st_rm (C kc) (xs (ii + 2)).toNatClampNeg) (C kc))) hD
  refine lv_aload_n hx hb dL_law_314 rfl (lv_at hl 2 rfl) ?_
  refine lv_aload_n hx hb dL_law_315 rfl (lv_at hl 0 rfl) ?_
  refine lv_iload_n hx hb dL_law_316 rfl (lv_at hl 3 rfl) ?_
  refine lv_iconst (v := 1) hx hb dL_law_317 (by decide) ?_
  refine lv_iadd hx hb dL_law_318 ?_
  refine me_t (x := nI (ii) + 1) (y := nI (ii + 1)) (nI_add ii 1) ?_
  refine me_sld hx hb hX hbl hbA hS (ii + 1) rfl (by omega) (by omega) dL_law_319 ?_
  refine lv_aload_n hx hb dL_law_320 rfl (lv_at hl 0 rfl) ?_
  refine lv_iload_n hx hb dL_law_321 rfl (lv_at hl 3 rfl) ?_
  refine lv_iconst (v := 2) hx hb dL_law_322 (by decide) ?_
  refine lv_iadd hx hb dL_law_323 ?_
  refine me_t (x := nI (ii) + 2) (y := nI (ii + 2)) (nI_add ii 2) ?_
  refine me_sld hx hb hX hbl hbA hS (ii + 2) rfl (by omega) (by omega) dL_law_324 ?_
  have hrec : ∃ cellB : Cell, H[mo]? = some cellB ∧ cellB.vm.isStatics = false ∧ s.vm.findClass RX4 = some cellB.cls := va_recv (q0 := 0) (ci := 4) hK (me_permP List.perm_append_comm hP) rfl rfl
  refine me_goIp (wr := w_ba o rw cR n gq bb ++ w_sh bb cI cZ (me_sw (st_drG n (xs (ii + 1)) (C kc) (xs (ii + 2))) (st_out M (C kc) (xs (ii + 2)).toNatClampNeg) M) ++ w_cr ad cI ro (va_up C kc (me_sw (st_drG n (xs (ii + 1)) (C kc) (xs (ii + 2))) (st_rm (C kc) (xs (ii + 2)).toNatClampNeg) (C kc))) (List.range n)) (wc := w_re mo r cI n ro C M tm) (w1 := w_re mo r cI n ro (va_up C kc (me_sw (st_drG n (xs (ii + 1)) (C kc) (xs (ii + 2))) (st_rm (C kc) (xs (ii + 2)).toNatClampNeg) (C kc))) (me_sw (st_drG n (xs (ii + 1)) (C kc) (xs (ii + 2))) (st_out M (C kc) (xs (ii + 2)).toNatClampNeg) M) (me_sw (st_drG n (xs (ii + 1)) (C kc) (xs (ii + 2))) (tm_out tm (C kc) (xs (ii + 2)).toNatClampNeg) tm)) (va_runV (C := RX4) (b := mo) (As := [.int (xs (ii + 1)), .int (xs (ii + 2))]) (rest := [.int (me_b (st_drG n (xs (ii + 1)) (C kc) (xs (ii + 2))))]) ⟨hx, hb, hml, hown, hg⟩ (c_mo_drain l D cI cZ cR mo n r ro C (C kc) M tm kc rfl hkc hn4 hro hIk (xs (ii + 1)) hcore (xs (ii + 2)) H.size) (cwV 2 hg (bg_gV (fun _ h => h) bw_2_119 bw_2_120 bw_2_121 bw_1_5 bw_2_122) rfl rfl rfl (by decide +kernel) ⟨Nat.le_of_ble_eq_true rfl, Nat.le_of_ble_eq_true rfl⟩) (me_preVp (wr := w_ba o rw cR n gq bb ++ w_sh bb cI cZ (me_sw (st_drG n (xs (ii + 1)) (C kc) (xs (ii + 2))) (st_out M (C kc) (xs (ii + 2)).toNatClampNeg) M) ++ w_cr ad cI ro (va_up C kc (me_sw (st_drG n (xs (ii + 1)) (C kc) (xs (ii + 2))) (st_rm (C kc) (xs (ii + 2)).toNatClampNeg) (C kc))) (List.range n)) (wc := w_re mo r cI n ro C M tm) hP hD hK hN hrec) rfl rfl hl.1 rfl (lv_room (Nat.le_of_ble_eq_true rfl)) dL_law_325 ⟨Nat.le_of_ble_eq_true rfl, Nat.le_of_ble_eq_true rfl⟩) hP hD hS hA (fun H locs hP hD hS => ?_)
  refine lv_icmp_eq (tgt := 627) hx hb dL_law_328 (by decide) (fun _ => ?_) (fun q => absurd rfl q)
  have hinv : la_I n ro (va_up C kc (me_sw (st_drG n (xs (ii + 1)) (C kc) (xs (ii + 2))) (st_rm (C kc) (xs (ii + 2)).toNatClampNeg) (C kc))) (me_sw (st_drG n (xs (ii + 1)) (C kc) (xs (ii + 2))) (st_out M (C kc) (xs (ii + 2)).toNatClampNeg) M) (me_sw (st_drG n (xs (ii + 1)) (C kc) (xs (ii + 2))) (tm_out tm (C kc) (xs (ii + 2)).toNatClampNeg) tm) (ii + 7) := by
    refine la_Isw (fun q => ?_) (fun _ => la_Iup hI hIk hT (by omega))
    obtain ⟨j, hj, ej⟩ := q.2.1
    have hh8 := (st_KIh hIk hro).2
    have hv : (xs (ii + 2)).toNatClampNeg = j := by rw [ej]; exact nI_clamp (by omega)
    have hk : (xs (ii + 2)).toNatClampNeg < st_h (C kc) := by rw [hv]; exact hj
    exact la_Iup hI (st_KIrm hIk hro hk) (tm_Iout hIk hk hT (by omega)) (Nat.le_trans tm_out1 (by omega))
  exact kk (va_up C kc (me_sw (st_drG n (xs (ii + 1)) (C kc) (xs (ii + 2))) (st_rm (C kc) (xs (ii + 2)).toNatClampNeg) (C kc))) (me_sw (st_drG n (xs (ii + 1)) (C kc) (xs (ii + 2))) (st_out M (C kc) (xs (ii + 2)).toNatClampNeg) M) (me_sw (st_drG n (xs (ii + 1)) (C kc) (xs (ii + 2))) (tm_out tm (C kc) (xs (ii + 2)).toNatClampNeg) tm) _ _ (hinv) hP hD hS
set_option maxHeartbeats 4000000 in
set_option maxRecDepth 100000 in
theorem law_5 (l : Launch) {p : Program} {e : Env} {s : State} {m : MethodId} {below : List Frame} {meth : Method} {c : Code} {bs L : Nat} {xs : Nat → Int32} {D : va_G} {cI cZ cR : ClassId} (X : la_C p s m c bs L xs D cI cZ cR) {o rw n : Nat} {gq : Nat → Option Nat} {bb : Nat → Nat} {ad : Nat → Nat → Nat} {ro mo : Nat} {r : Nat → Nat} (G : la_G n ro gq ad) {C : Nat → st_T} {M : st_T} {tm : tm_T} {ii : Nat} (hI : la_I n ro C M tm ii) (hi : ii + 7 ≤ L) {H : Heap} {locs : List Loc} (hP : va_P D vwCl (la_W o rw n gq bb ad ro mo r cI cZ cR C M C M tm) H) (hD : va_D (la_A s) (la_W o rw n gq bb ad ro mo r cI cZ cR C M C M tm)) (hS : va_S (la_A s) s.heap H locs) {ls : Array Slot} (hl : lv_has ls 4 [(0, .ref bs), (1, .ref o), (2, .ref mo), (3, .int (nI ii))]) {Q : State → Prop} (kk : ∀ (C1 : Nat → st_T) (M1 : st_T) (t1 : tm_T) (H1 : Heap) (locs1 : List Loc), la_I n ro C1 M1 t1 (ii + 7) → va_P D vwCl (la_W o rw n gq bb ad ro mo r cI cZ cR C1 M1 C1 M1 t1) H1 → va_D (la_A s) (la_W o rw n gq bb ad ro mo r cI cZ cR C1 M1 C1 M1 t1) → va_S (la_A s) s.heap H1 locs1 → W p l e room_1 s m #[Value.ref bs] below meth c H1 locs1 62 1255 Q (F0 m 627 ls [])) : W p l e room_1 s m #[Value.ref bs] below meth c H locs 62 1255 Q (F0 m 333 ls []) := by
  obtain ⟨hx, hb, hml, hown, hg, hX, hbl, hK, hN, hL⟩ := X
  obtain ⟨hn, hro, hgq⟩ := G
  have hn4 : n ≤ 4 := by omega
  have hbA : ¬ la_A s bs := fun q => absurd q (by show ¬ s.heap.size ≤ bs; omega)
  have hA : ∀ q, s.heap.size ≤ q → la_A s q := fun q h => h
  obtain ⟨kc, hkc, hcore⟩ := la_kc (n := n) (xs (ii + 1)) (by omega) hn4
  have hIk := hI.1 kc hkc
  have hT := hI.2.1
  have hB := hI.2.2
  refine lv_aload_n hx hb dL_law_333 rfl (lv_at hl 1 rfl) ?_
  refine lv_aload_n hx hb dL_law_334 rfl (lv_at hl 0 rfl) ?_
  refine lv_iload_n hx hb dL_law_335 rfl (lv_at hl 3 rfl) ?_
  refine lv_iconst (v := 1) hx hb dL_law_336 (by decide) ?_
  refine lv_iadd hx hb dL_law_337 ?_
  refine me_t (x := nI (ii) + 1) (y := nI (ii + 1)) (nI_add ii 1) ?_
  refine me_sld hx hb hX hbl hbA hS (ii + 1) rfl (by omega) (by omega) dL_law_338 ?_
  have hrec : ∃ cellB : Cell, H[o]? = some cellB ∧ cellB.vm.isStatics = false ∧ s.vm.findClass RX3 = some cellB.cls := va_recv (q0 := 0) (ci := 3) hK hP rfl rfl
  have hP1 := me_permP (la_p1 hkc) hP
  have hD1 := me_permD (la_p1 hkc) hD
  refine me_goIp (wr := w_cr ad cI ro C ((List.range n).erase kc) ++ w_re mo r cI n ro C M tm) (wc := w_ba o rw cR n gq bb ++ w_sh bb cI cZ M ++ w_co (ad kc) cI (C kc) ++ w_bu (ad kc) cI ro (C kc)) (w1 := w_ba o rw cR n gq bb ++ w_sh bb cI cZ (me_sw (me_in (xs (ii + 1)) n) (st_set (st_h (C kc)) (C kc) M).2 M) ++ w_co (ad kc) cI (me_sw (me_in (xs (ii + 1)) n) (st_set (st_h (C kc)) (C kc) M).1 (C kc)) ++ w_bu (ad kc) cI ro (me_sw (me_in (xs (ii + 1)) n) (st_set (st_h (C kc)) (C kc) M).1 (C kc))) (va_runV (C := RX3) (b := o) (As := [.int (xs (ii + 1))]) (rest := []) ⟨hx, hb, hml, hown, hg⟩ (c_sb_settle l D cI cZ cR o rw n gq bb (ad kc) ro (C kc) M kc hkc hn4 (hgq kc hkc) hro hIk (xs (ii + 1)) hcore H.size) (cwV 1 hg (bg_gV (fun _ h => h) bw_1_203 bw_1_204 bw_1_205 bw_1_1 bw_1_206) rfl rfl rfl (by decide +kernel) ⟨Nat.le_of_ble_eq_true rfl, Nat.le_of_ble_eq_true rfl⟩) (me_preVp (wr := w_cr ad cI ro C ((List.range n).erase kc) ++ w_re mo r cI n ro C M tm) (wc := w_ba o rw cR n gq bb ++ w_sh bb cI cZ M ++ w_co (ad kc) cI (C kc) ++ w_bu (ad kc) cI ro (C kc)) hP1 hD1 hK hN hrec) rfl rfl hl.1 rfl (lv_room (Nat.le_of_ble_eq_true rfl)) dL_law_339 ⟨Nat.le_of_ble_eq_true rfl, Nat.le_of_ble_eq_true rfl⟩) hP1 hD1 hS hA (fun H locs hP hD hS => ?_)
  have hP := me_permP (la_p2 hkc (me_sw (me_in (xs (ii + 1)) n) (st_set (st_h (C kc)) (C kc) M).1 (C kc))) hP
  have hD := me_permD (la_p2 hkc (me_sw (me_in (xs (ii + 1)) n) (st_set (st_h (C kc)) (C kc) M).1 (C kc))) hD
  refine lv_aload_n hx hb dL_law_342 rfl (lv_at hl 2 rfl) ?_
  refine lv_aload_n hx hb dL_law_343 rfl (lv_at hl 0 rfl) ?_
  refine lv_iload_n hx hb dL_law_344 rfl (lv_at hl 3 rfl) ?_
  refine lv_iconst (v := 1) hx hb dL_law_345 (by decide) ?_
  refine lv_iadd hx hb dL_law_346 ?_
  refine me_t (x := nI (ii) + 1) (y := nI (ii + 1)) (nI_add ii 1) ?_
  refine me_sld hx hb hX hbl hbA hS (ii + 1) rfl (by omega) (by omega) dL_law_347 ?_
  have hrec : ∃ cellB : Cell, H[mo]? = some cellB ∧ cellB.vm.isStatics = false ∧ s.vm.findClass RX4 = some cellB.cls := va_recv (q0 := 0) (ci := 4) hK (me_permP List.perm_append_comm hP) rfl rfl
  refine me_goIp (wr := w_ba o rw cR n gq bb ++ w_sh bb cI cZ (me_sw (me_in (xs (ii + 1)) n) (st_set (st_h (C kc)) (C kc) M).2 M) ++ w_cr ad cI ro (va_up C kc (me_sw (me_in (xs (ii + 1)) n) (st_set (st_h (C kc)) (C kc) M).1 (C kc))) (List.range n)) (wc := w_re mo r cI n ro C M tm) (w1 := w_re mo r cI n ro (va_up C kc (me_sw (me_in (xs (ii + 1)) n) (st_set (st_h (C kc)) (C kc) M).1 (C kc))) (me_sw (me_in (xs (ii + 1)) n) (st_set (st_h (C kc)) (C kc) M).2 M) (me_sw (me_in (xs (ii + 1)) n) (tm_set (st_h (C kc)) tm (C kc)) tm)) (va_runV (C := RX4) (b := mo) (As := [.int (xs (ii + 1))]) (rest := [.int (me_sw (me_in (xs (ii + 1)) n) (C kc 7 0) (-1))]) ⟨hx, hb, hml, hown, hg⟩ (c_mo_settle l D cI cZ cR mo n r ro C (C kc) M tm kc rfl hkc hn4 hro hIk (xs (ii + 1)) hcore H.size) (cwV 1 hg (bg_gV (fun _ h => h) bw_2_135 bw_2_136 bw_2_137 bw_1_5 bw_2_138) rfl rfl rfl (by decide +kernel) ⟨Nat.le_of_ble_eq_true rfl, Nat.le_of_ble_eq_true rfl⟩) (me_preVp (wr := w_ba o rw cR n gq bb ++ w_sh bb cI cZ (me_sw (me_in (xs (ii + 1)) n) (st_set (st_h (C kc)) (C kc) M).2 M) ++ w_cr ad cI ro (va_up C kc (me_sw (me_in (xs (ii + 1)) n) (st_set (st_h (C kc)) (C kc) M).1 (C kc))) (List.range n)) (wc := w_re mo r cI n ro C M tm) hP hD hK hN hrec) rfl rfl hl.1 rfl (lv_room (Nat.le_of_ble_eq_true rfl)) dL_law_348 ⟨Nat.le_of_ble_eq_true rfl, Nat.le_of_ble_eq_true rfl⟩) hP hD hS hA (fun H locs hP hD hS => ?_)
  refine lv_icmp_eq (tgt := 627) hx hb dL_law_351 (by decide) (fun _ => ?_) (fun q => absurd rfl q)
  have hinv : la_I n ro (va_up C kc (me_sw (me_in (xs (ii + 1)) n) (st_set (st_h (C kc)) (C kc) M).1 (C kc))) (me_sw (me_in (xs (ii + 1)) n) (st_set (st_h (C kc)) (C kc) M).2 M) (me_sw (me_in (xs (ii + 1)) n) (tm_set (st_h (C kc)) tm (C kc)) tm) (ii + 7) := by
    refine la_Isw (fun q => ?_) (fun _ => la_Iup hI hIk hT (by omega))
    have hh8 := (st_KIh hIk hro).2
    have h2 := tm_Iset hro (st_h (C kc)) (C kc) M tm hIk (Nat.le_refl _) hT (by omega)
    exact la_Iup hI (st_KIset hro _ _ _ hIk (Nat.le_refl _)) h2.1 (Nat.le_trans h2.2 (by omega))
  exact kk (va_up C kc (me_sw (me_in (xs (ii + 1)) n) (st_set (st_h (C kc)) (C kc) M).1 (C kc))) (me_sw (me_in (xs (ii + 1)) n) (st_set (st_h (C kc)) (C kc) M).2 M) (me_sw (me_in (xs (ii + 1)) n) (tm_set (st_h (C kc)) tm (C kc)) tm) _ _ (hinv) hP hD hS
set_option maxHeartbeats 4000000 in
set_option maxRecDepth 100000 in
theorem law_6 (l : Launch) {p : Program} {e : Env} {s : State} {m : MethodId} {below : List Frame} {meth : Method} {c : Code} {bs L : Nat} {xs : Nat → Int32} {D : va_G} {cI cZ cR : ClassId} (X : la_C p s m c bs L xs D cI cZ cR) {o rw n : Nat} {gq : Nat → Option Nat} {bb : Nat → Nat} {ad : Nat → Nat → Nat} {ro mo : Nat} {r : Nat → Nat} (G : la_G n ro gq ad) {C : Nat → st_T} {M : st_T} {tm : tm_T} {ii : Nat} (hI : la_I n ro C M tm ii) (hi : ii + 7 ≤ L) {H : Heap} {locs : List Loc} (hP : va_P D vwCl (la_W o rw n gq bb ad ro mo r cI cZ cR C M C M tm) H) (hD : va_D (la_A s) (la_W o rw n gq bb ad ro mo r cI cZ cR C M C M tm)) (hS : va_S (la_A s) s.heap H locs) {ls : Array Slot} (hl : lv_has ls 4 [(0, .ref bs), (1, .ref o), (2, .ref mo), (3, .int (nI ii))]) {Q : State → Prop} (kk : ∀ (C1 : Nat → st_T) (M1 : st_T) (t1 : tm_T) (H1 : Heap) (locs1 : List Loc), la_I n ro C1 M1 t1 (ii + 7) → va_P D vwCl (la_W o rw n gq bb ad ro mo r cI cZ cR C1 M1 C1 M1 t1) H1 → va_D (la_A s) (la_W o rw n gq bb ad ro mo r cI cZ cR C1 M1 C1 M1 t1) → va_S (la_A s) s.heap H1 locs1 → W p l e room_1 s m #[Value.ref bs] below meth c H1 locs1 62 1255 Q (F0 m 627 ls [])) : W p l e room_1 s m #[Value.ref bs] below meth c H locs 62 1255 Q (F0 m 356 ls []) := by
  obtain ⟨hx, hb, hml, hown, hg, hX, hbl, hK, hN, hL⟩ := X
  obtain ⟨hn, hro, hgq⟩ := G
  have hn4 : n ≤ 4 := by omega
  have hbA : ¬ la_A s bs := fun q => absurd q (by show ¬ s.heap.size ≤ bs; omega)
  have hA : ∀ q, s.heap.size ≤ q → la_A s q := fun q h => h
  obtain ⟨kc, hkc, hcore⟩ := la_kc (n := n) (0) (by omega) hn4
  have hIk := hI.1 kc hkc
  have hT := hI.2.1
  have hB := hI.2.2
  refine lv_aload_n hx hb dL_law_356 rfl (lv_at hl 1 rfl) ?_
  refine lv_aload_n hx hb dL_law_357 rfl (lv_at hl 0 rfl) ?_
  refine lv_iload_n hx hb dL_law_358 rfl (lv_at hl 3 rfl) ?_
  refine lv_iconst (v := 1) hx hb dL_law_359 (by decide) ?_
  refine lv_iadd hx hb dL_law_360 ?_
  refine me_t (x := nI (ii) + 1) (y := nI (ii + 1)) (nI_add ii 1) ?_
  refine me_sld hx hb hX hbl hbA hS (ii + 1) rfl (by omega) (by omega) dL_law_361 ?_
  have hrec : ∃ cellB : Cell, H[o]? = some cellB ∧ cellB.vm.isStatics = false ∧ s.vm.findClass RX3 = some cellB.cls := va_recv (q0 := 0) (ci := 3) hK hP rfl rfl
  have hP1 := me_permP (la_p1 hkc) hP
  have hD1 := me_permD (la_p1 hkc) hD
  refine me_goIp (wr := w_cr ad cI ro C ((List.range n).erase kc) ++ w_re mo r cI n ro C M tm) (wc := w_ba o rw cR n gq bb ++ w_sh bb cI cZ M ++ w_co (ad kc) cI (C kc) ++ w_bu (ad kc) cI ro (C kc)) (w1 := w_ba o rw cR n gq bb ++ w_sh bb cI cZ (me_sw (me_in (xs (ii + 1)) 8) (st_wb M (xs (ii + 1)).toNatClampNeg) M) ++ w_co (ad kc) cI (C kc) ++ w_bu (ad kc) cI ro (C kc)) (va_runV (C := RX3) (b := o) (As := [.int (xs (ii + 1))]) (rest := []) ⟨hx, hb, hml, hown, hg⟩ (c_sb_evict l D cI cZ cR o rw n gq bb (ad kc) ro (C kc) M kc hkc hn4 (hgq kc hkc) hro hIk (xs (ii + 1)) H.size) (cwV 1 hg (bg_gV (fun _ h => h) bw_1_207 bw_1_208 bw_1_209 bw_1_1 bw_1_210) rfl rfl rfl (by decide +kernel) ⟨Nat.le_of_ble_eq_true rfl, Nat.le_of_ble_eq_true rfl⟩) (me_preVp (wr := w_cr ad cI ro C ((List.range n).erase kc) ++ w_re mo r cI n ro C M tm) (wc := w_ba o rw cR n gq bb ++ w_sh bb cI cZ M ++ w_co (ad kc) cI (C kc) ++ w_bu (ad kc) cI ro (C kc)) hP1 hD1 hK hN hrec) rfl rfl hl.1 rfl (lv_room (Nat.le_of_ble_eq_true rfl)) dL_law_362 ⟨Nat.le_of_ble_eq_true rfl, Nat.le_of_ble_eq_true rfl⟩) hP1 hD1 hS hA (fun H locs hP hD hS => ?_)
  have hP := me_permP (la_p2 hkc (C kc)) hP
  have hD := me_permD (la_p2 hkc (C kc)) hD
  rw [st_upK (C := C) (kc := kc) rfl] at hP hD
  refine lv_aload_n hx hb dL_law_365 rfl (lv_at hl 2 rfl) ?_
  refine lv_aload_n hx hb dL_law_366 rfl (lv_at hl 0 rfl) ?_
  refine lv_iload_n hx hb dL_law_367 rfl (lv_at hl 3 rfl) ?_
  refine lv_iconst (v := 1) hx hb dL_law_368 (by decide) ?_
  refine lv_iadd hx hb dL_law_369 ?_
  refine me_t (x := nI (ii) + 1) (y := nI (ii + 1)) (nI_add ii 1) ?_
  refine me_sld hx hb hX hbl hbA hS (ii + 1) rfl (by omega) (by omega) dL_law_370 ?_
  have hrec : ∃ cellB : Cell, H[mo]? = some cellB ∧ cellB.vm.isStatics = false ∧ s.vm.findClass RX4 = some cellB.cls := va_recv (q0 := 0) (ci := 4) hK (me_permP List.perm_append_comm hP) rfl rfl
  refine me_goIp (wr := w_ba o rw cR n gq bb ++ w_sh bb cI cZ (me_sw (me_in (xs (ii + 1)) 8) (st_wb M (xs (ii + 1)).toNatClampNeg) M) ++ w_cr ad cI ro C (List.range n)) (wc := w_re mo r cI n ro C M tm) (w1 := w_re mo r cI n ro C (me_sw (me_in (xs (ii + 1)) 8) (st_wb M (xs (ii + 1)).toNatClampNeg) M) (me_sw (me_in (xs (ii + 1)) 8) (tm_wb tm (xs (ii + 1)).toNatClampNeg) tm)) (va_runV (C := RX4) (b := mo) (As := [.int (xs (ii + 1))]) (rest := [.int (me_b (me_in (xs (ii + 1)) 8))]) ⟨hx, hb, hml, hown, hg⟩ (c_mo_evict l D cI cZ cR mo n r ro C (C kc) M tm kc rfl hkc hn4 hro hIk (xs (ii + 1)) H.size) (cwV 1 hg (bg_gV (fun _ h => h) bw_2_103 bw_2_104 bw_2_105 bw_1_5 bw_2_106) rfl rfl rfl (by decide +kernel) ⟨Nat.le_of_ble_eq_true rfl, Nat.le_of_ble_eq_true rfl⟩) (me_preVp (wr := w_ba o rw cR n gq bb ++ w_sh bb cI cZ (me_sw (me_in (xs (ii + 1)) 8) (st_wb M (xs (ii + 1)).toNatClampNeg) M) ++ w_cr ad cI ro C (List.range n)) (wc := w_re mo r cI n ro C M tm) hP hD hK hN hrec) rfl rfl hl.1 rfl (lv_room (Nat.le_of_ble_eq_true rfl)) dL_law_371 ⟨Nat.le_of_ble_eq_true rfl, Nat.le_of_ble_eq_true rfl⟩) hP hD hS hA (fun H locs hP hD hS => ?_)
  refine lv_icmp_eq (tgt := 627) hx hb dL_law_374 (by decide) (fun _ => ?_) (fun q => absurd rfl q)
  have hinv : la_I n ro (C) (me_sw (me_in (xs (ii + 1)) 8) (st_wb M (xs (ii + 1)).toNatClampNeg) M) (me_sw (me_in (xs (ii + 1)) 8) (tm_wb tm (xs (ii + 1)).toNatClampNeg) tm) (ii + 7) := by
    rcases Classical.em (me_in (xs (ii + 1)) 8) with q | q
    · rw [me_swt q, me_swt q]
      obtain ⟨j, hj, e9⟩ := q
      refine la_Isame hI (tm_Iwb hT (by rw [e9, nI_clamp (by omega)]; exact hj) (by omega)) ?_
      show tm.1 + 1 ≤ tm.1 + 20
      omega
    · rw [me_swf q, me_swf q]
      exact la_Isame hI hT (by omega)
  exact kk (C) (me_sw (me_in (xs (ii + 1)) 8) (st_wb M (xs (ii + 1)).toNatClampNeg) M) (me_sw (me_in (xs (ii + 1)) 8) (tm_wb tm (xs (ii + 1)).toNatClampNeg) tm) _ _ (hinv) hP hD hS
set_option maxHeartbeats 4000000 in
set_option maxRecDepth 100000 in
theorem law_7 (l : Launch) {p : Program} {e : Env} {s : State} {m : MethodId} {below : List Frame} {meth : Method} {c : Code} {bs L : Nat} {xs : Nat → Int32} {D : va_G} {cI cZ cR : ClassId} (X : la_C p s m c bs L xs D cI cZ cR) {o rw n : Nat} {gq : Nat → Option Nat} {bb : Nat → Nat} {ad : Nat → Nat → Nat} {ro mo : Nat} {r : Nat → Nat} (G : la_G n ro gq ad) {C : Nat → st_T} {M : st_T} {tm : tm_T} {ii : Nat} (hI : la_I n ro C M tm ii) (hi : ii + 7 ≤ L) {H : Heap} {locs : List Loc} (hP : va_P D vwCl (la_W o rw n gq bb ad ro mo r cI cZ cR C M C M tm) H) (hD : va_D (la_A s) (la_W o rw n gq bb ad ro mo r cI cZ cR C M C M tm)) (hS : va_S (la_A s) s.heap H locs) {ls : Array Slot} (hl : lv_has ls 4 [(0, .ref bs), (1, .ref o), (2, .ref mo), (3, .int (nI ii))]) {Q : State → Prop} (kk : ∀ (C1 : Nat → st_T) (M1 : st_T) (t1 : tm_T) (H1 : Heap) (locs1 : List Loc), la_I n ro C1 M1 t1 (ii + 7) → va_P D vwCl (la_W o rw n gq bb ad ro mo r cI cZ cR C1 M1 C1 M1 t1) H1 → va_D (la_A s) (la_W o rw n gq bb ad ro mo r cI cZ cR C1 M1 C1 M1 t1) → va_S (la_A s) s.heap H1 locs1 → W p l e room_1 s m #[Value.ref bs] below meth c H1 locs1 62 1255 Q (F0 m 627 ls [])) : W p l e room_1 s m #[Value.ref bs] below meth c H locs 62 1255 Q (F0 m 379 ls []) := by
  obtain ⟨hx, hb, hml, hown, hg, hX, hbl, hK, hN, hL⟩ := X
  obtain ⟨hn, hro, hgq⟩ := G
  have hn4 : n ≤ 4 := by omega
  have hbA : ¬ la_A s bs := fun q => absurd q (by show ¬ s.heap.size ≤ bs; omega)
  have hA : ∀ q, s.heap.size ≤ q → la_A s q := fun q h => h
  obtain ⟨kc, hkc, hcore⟩ := la_kc (n := n) (0) (by omega) hn4
  have hIk := hI.1 kc hkc
  have hT := hI.2.1
  have hB := hI.2.2
  refine lv_aload_n hx hb dL_law_379 rfl (lv_at hl 1 rfl) ?_
  have hrec : ∃ cellB : Cell, H[o]? = some cellB ∧ cellB.vm.isStatics = false ∧ s.vm.findClass RX3 = some cellB.cls := va_recv (q0 := 0) (ci := 3) hK hP rfl rfl
  have hP1 := me_permP (List.perm_append_comm (l₁ := w_ba o rw cR n gq bb ++ w_sh bb cI cZ M ++ w_cr ad cI ro C (List.range n)) (l₂ := w_re mo r cI n ro C M tm)) hP
  have hD1 := me_permD (List.perm_append_comm (l₁ := w_ba o rw cR n gq bb ++ w_sh bb cI cZ M ++ w_cr ad cI ro C (List.range n)) (l₂ := w_re mo r cI n ro C M tm)) hD
  refine me_goVp (wr := w_re mo r cI n ro C M tm) (wc := w_ba o rw cR n gq bb ++ w_sh bb cI cZ M ++ w_cr ad cI ro C (List.range n)) (w1 := w_ba o rw cR n gq bb ++ w_sh bb cI cZ (st_fb M) ++ w_cr ad cI ro (st_crC C) (List.range n)) (va_runV (C := RX3) (b := o) (As := []) (rest := []) ⟨hx, hb, hml, hown, hg⟩ (c_sb_crash l D cI cZ cR o rw n gq bb ad ro C M hn hgq H.size) (cwV 0 hg (bg_gV (fun _ h => h) bw_1_215 bw_1_216 bw_1_217 bw_1_1 bw_1_218) rfl rfl rfl (by decide +kernel) ⟨Nat.le_of_ble_eq_true rfl, Nat.le_of_ble_eq_true rfl⟩) (me_preVp (wr := w_re mo r cI n ro C M tm) (wc := w_ba o rw cR n gq bb ++ w_sh bb cI cZ M ++ w_cr ad cI ro C (List.range n)) hP1 hD1 hK hN hrec) rfl rfl hl.1 rfl (lv_room (Nat.le_of_ble_eq_true rfl)) dL_law_380 ⟨Nat.le_of_ble_eq_true rfl, Nat.le_of_ble_eq_true rfl⟩) hP1 hD1 hS hA (fun H locs hP hD hS => ?_)
  have hP : va_P D vwCl (la_W o rw n gq bb ad ro mo r cI cZ cR (st_crC C) (st_fb M) C M tm) H := me_permP List.perm_append_comm hP
  have hD : va_D (la_A s) (la_W o rw n gq bb ad ro mo r cI cZ cR (st_crC C) (st_fb M) C M tm) := me_permD List.perm_append_comm hD
  refine lv_aload_n hx hb dL_law_383 rfl (lv_at hl 2 rfl) ?_
  have hrec : ∃ cellB : Cell, H[mo]? = some cellB ∧ cellB.vm.isStatics = false ∧ s.vm.findClass RX4 = some cellB.cls := va_recv (q0 := 0) (ci := 4) hK (me_permP List.perm_append_comm hP) rfl rfl
  refine me_goVp (wr := w_ba o rw cR n gq bb ++ w_sh bb cI cZ (st_fb M) ++ w_cr ad cI ro (st_crC C) (List.range n)) (wc := w_re mo r cI n ro C M tm) (w1 := w_re mo r cI n ro (st_crC C) (st_fb M) (tm_fb tm)) (va_runV (C := RX4) (b := mo) (As := []) (rest := []) ⟨hx, hb, hml, hown, hg⟩ (c_mo_crash l D cI cZ cR mo n r ro C (C kc) M tm kc rfl hkc hn4 hro hIk H.size) (cwV 0 hg (bg_gV (fun _ h => h) bw_2_115 bw_2_116 bw_2_117 bw_1_5 bw_2_118) rfl rfl rfl (by decide +kernel) ⟨Nat.le_of_ble_eq_true rfl, Nat.le_of_ble_eq_true rfl⟩) (me_preVp (wr := w_ba o rw cR n gq bb ++ w_sh bb cI cZ (st_fb M) ++ w_cr ad cI ro (st_crC C) (List.range n)) (wc := w_re mo r cI n ro C M tm) hP hD hK hN hrec) rfl rfl hl.1 rfl (lv_room (Nat.le_of_ble_eq_true rfl)) dL_law_384 ⟨Nat.le_of_ble_eq_true rfl, Nat.le_of_ble_eq_true rfl⟩) hP hD hS hA (fun H locs hP hD hS => ?_)
  refine lv_goto (tgt := 627) hx hb dL_law_387 (by decide) ?_
  exact kk (st_crC C) (st_fb M) (tm_fb tm) _ _ (la_Icr hI hn4 (by omega)) hP hD hS
set_option maxHeartbeats 4000000 in
set_option maxRecDepth 100000 in
theorem law_8 (l : Launch) {p : Program} {e : Env} {s : State} {m : MethodId} {below : List Frame} {meth : Method} {c : Code} {bs L : Nat} {xs : Nat → Int32} {D : va_G} {cI cZ cR : ClassId} (X : la_C p s m c bs L xs D cI cZ cR) {o rw n : Nat} {gq : Nat → Option Nat} {bb : Nat → Nat} {ad : Nat → Nat → Nat} {ro mo : Nat} {r : Nat → Nat} (G : la_G n ro gq ad) {C : Nat → st_T} {M : st_T} {tm : tm_T} {ii : Nat} (hI : la_I n ro C M tm ii) (hi : ii + 7 ≤ L) {H : Heap} {locs : List Loc} (hP : va_P D vwCl (la_W o rw n gq bb ad ro mo r cI cZ cR C M C M tm) H) (hD : va_D (la_A s) (la_W o rw n gq bb ad ro mo r cI cZ cR C M C M tm)) (hS : va_S (la_A s) s.heap H locs) {ls : Array Slot} (hl : lv_has ls 4 [(0, .ref bs), (1, .ref o), (2, .ref mo), (3, .int (nI ii))]) {Q : State → Prop} (kk : ∀ (C1 : Nat → st_T) (M1 : st_T) (t1 : tm_T) (H1 : Heap) (locs1 : List Loc), la_I n ro C1 M1 t1 (ii + 7) → va_P D vwCl (la_W o rw n gq bb ad ro mo r cI cZ cR C1 M1 C1 M1 t1) H1 → va_D (la_A s) (la_W o rw n gq bb ad ro mo r cI cZ cR C1 M1 C1 M1 t1) → va_S (la_A s) s.heap H1 locs1 → W p l e room_1 s m #[Value.ref bs] below meth c H1 locs1 62 1255 Q (F0 m 627 ls [])) : W p l e room_1 s m #[Value.ref bs] below meth c H locs 62 1255 Q (F0 m 390 ls []) := by
  obtain ⟨hx, hb, hml, hown, hg, hX, hbl, hK, hN, hL⟩ := X
  obtain ⟨hn, hro, hgq⟩ := G
  have hn4 : n ≤ 4 := by omega
  have hbA : ¬ la_A s bs := fun q => absurd q (by show ¬ s.heap.size ≤ bs; omega)
  have hA : ∀ q, s.heap.size ≤ q → la_A s q := fun q h => h
  obtain ⟨kc, hkc, hcore⟩ := la_kc (n := n) (xs (ii + 1)) (by omega) hn4
  have hIk := hI.1 kc hkc
  have hT := hI.2.1
  have hB := hI.2.2
  refine lv_aload_n hx hb dL_law_390 rfl (lv_at hl 1 rfl) ?_
  refine lv_aload_n hx hb dL_law_391 rfl (lv_at hl 0 rfl) ?_
  refine lv_iload_n hx hb dL_law_392 rfl (lv_at hl 3 rfl) ?_
  refine lv_iconst (v := 1) hx hb dL_law_393 (by decide) ?_
  refine lv_iadd hx hb dL_law_394 ?_
  refine me_t (x := nI (ii) + 1) (y := nI (ii + 1)) (nI_add ii 1) ?_
  refine me_sld hx hb hX hbl hbA hS (ii + 1) rfl (by omega) (by omega) dL_law_395 ?_
  refine lv_aload_n hx hb dL_law_396 rfl (lv_at hl 0 rfl) ?_
  refine lv_iload_n hx hb dL_law_397 rfl (lv_at hl 3 rfl) ?_
  refine lv_iconst (v := 2) hx hb dL_law_398 (by decide) ?_
  refine lv_iadd hx hb dL_law_399 ?_
  refine me_t (x := nI (ii) + 2) (y := nI (ii + 2)) (nI_add ii 2) ?_
  refine me_sld hx hb hX hbl hbA hS (ii + 2) rfl (by omega) (by omega) dL_law_400 ?_
  have hrec : ∃ cellB : Cell, H[o]? = some cellB ∧ cellB.vm.isStatics = false ∧ s.vm.findClass RX3 = some cellB.cls := va_recv (q0 := 0) (ci := 3) hK hP rfl rfl
  have hP1 := me_permP (la_p1 hkc) hP
  have hD1 := me_permD (la_p1 hkc) hD
  refine me_goIp (wr := w_cr ad cI ro C ((List.range n).erase kc) ++ w_re mo r cI n ro C M tm) (wc := w_ba o rw cR n gq bb ++ w_sh bb cI cZ M ++ w_co (ad kc) cI (C kc) ++ w_bu (ad kc) cI ro (C kc)) (w1 := w_ba o rw cR n gq bb ++ w_sh bb cI cZ M ++ w_co (ad kc) cI (C kc) ++ w_bu (ad kc) cI ro (C kc)) (va_runV (C := RX3) (b := o) (As := [.int (xs (ii + 1)), .int (xs (ii + 2))]) (rest := []) ⟨hx, hb, hml, hown, hg⟩ (c_sb_register l D cI cZ cR o rw n gq bb (ad kc) ro (C kc) M kc hkc hn4 (hgq kc hkc) hro hIk (xs (ii + 1)) hcore (xs (ii + 2)) H.size) (cwV 2 hg (bg_gV (fun _ h => h) bw_1_227 bw_1_228 bw_1_229 bw_1_1 bw_1_230) rfl rfl rfl (by decide +kernel) ⟨Nat.le_of_ble_eq_true rfl, Nat.le_of_ble_eq_true rfl⟩) (me_preVp (wr := w_cr ad cI ro C ((List.range n).erase kc) ++ w_re mo r cI n ro C M tm) (wc := w_ba o rw cR n gq bb ++ w_sh bb cI cZ M ++ w_co (ad kc) cI (C kc) ++ w_bu (ad kc) cI ro (C kc)) hP1 hD1 hK hN hrec) rfl rfl hl.1 rfl (lv_room (Nat.le_of_ble_eq_true rfl)) dL_law_401 ⟨Nat.le_of_ble_eq_true rfl, Nat.le_of_ble_eq_true rfl⟩) hP1 hD1 hS hA (fun H locs hP hD hS => ?_)
  have hP := me_permP (la_p2 hkc (C kc)) hP
  have hD := me_permD (la_p2 hkc (C kc)) hD
  rw [st_upK (C := C) (kc := kc) rfl] at hP hD
  refine lv_aload_n hx hb dL_law_404 rfl (lv_at hl 2 rfl) ?_
  refine lv_aload_n hx hb dL_law_405 rfl (lv_at hl 0 rfl) ?_
  refine lv_iload_n hx hb dL_law_406 rfl (lv_at hl 3 rfl) ?_
  refine lv_iconst (v := 1) hx hb dL_law_407 (by decide) ?_
  refine lv_iadd hx hb dL_law_408 ?_
  refine me_t (x := nI (ii) + 1) (y := nI (ii + 1)) (nI_add ii 1) ?_
  refine me_sld hx hb hX hbl hbA hS (ii + 1) rfl (by omega) (by omega) dL_law_409 ?_
  refine lv_aload_n hx hb dL_law_410 rfl (lv_at hl 0 rfl) ?_
  refine lv_iload_n hx hb dL_law_411 rfl (lv_at hl 3 rfl) ?_
  refine lv_iconst (v := 2) hx hb dL_law_412 (by decide) ?_
  refine lv_iadd hx hb dL_law_413 ?_
  refine me_t (x := nI (ii) + 2) (y := nI (ii + 2)) (nI_add ii 2) ?_
  refine me_sld hx hb hX hbl hbA hS (ii + 2) rfl (by omega) (by omega) dL_law_414 ?_
  have hrec : ∃ cellB : Cell, H[mo]? = some cellB ∧ cellB.vm.isStatics = false ∧ s.vm.findClass RX4 = some cellB.cls := va_recv (q0 := 0) (ci := 4) hK (me_permP List.perm_append_comm hP) rfl rfl
  refine me_goIp (wr := w_ba o rw cR n gq bb ++ w_sh bb cI cZ M ++ w_cr ad cI ro C (List.range n)) (wc := w_re mo r cI n ro C M tm) (w1 := w_re mo r cI n ro C M tm) (va_runV (C := RX4) (b := mo) (As := [.int (xs (ii + 1)), .int (xs (ii + 2))]) (rest := [.int (me_sw (me_in (xs (ii + 1)) n ∧ me_in (xs (ii + 2)) 4) (C kc 4 (xs (ii + 2)).toNatClampNeg) 0)]) ⟨hx, hb, hml, hown, hg⟩ (c_mo_register l D cI cZ cR mo n r ro C (C kc) M tm kc rfl hkc hn4 hro hIk (xs (ii + 1)) hcore (xs (ii + 2)) H.size) (cwV 2 hg (bg_gV (fun _ h => h) bw_2_162 bw_2_163 bw_2_164 bw_1_5 bw_2_165) rfl rfl rfl (by decide +kernel) ⟨Nat.le_of_ble_eq_true rfl, Nat.le_of_ble_eq_true rfl⟩) (me_preVp (wr := w_ba o rw cR n gq bb ++ w_sh bb cI cZ M ++ w_cr ad cI ro C (List.range n)) (wc := w_re mo r cI n ro C M tm) hP hD hK hN hrec) rfl rfl hl.1 rfl (lv_room (Nat.le_of_ble_eq_true rfl)) dL_law_415 ⟨Nat.le_of_ble_eq_true rfl, Nat.le_of_ble_eq_true rfl⟩) hP hD hS hA (fun H locs hP hD hS => ?_)
  refine lv_icmp_eq (tgt := 627) hx hb dL_law_418 (by decide) (fun _ => ?_) (fun q => absurd rfl q)
  exact kk (C) (M) (tm) _ _ (la_Isame hI hT (by omega)) hP hD hS
set_option maxHeartbeats 4000000 in
set_option maxRecDepth 100000 in
theorem law_9 (l : Launch) {p : Program} {e : Env} {s : State} {m : MethodId} {below : List Frame} {meth : Method} {c : Code} {bs L : Nat} {xs : Nat → Int32} {D : va_G} {cI cZ cR : ClassId} (X : la_C p s m c bs L xs D cI cZ cR) {o rw n : Nat} {gq : Nat → Option Nat} {bb : Nat → Nat} {ad : Nat → Nat → Nat} {ro mo : Nat} {r : Nat → Nat} (G : la_G n ro gq ad) {C : Nat → st_T} {M : st_T} {tm : tm_T} {ii : Nat} (hI : la_I n ro C M tm ii) (hi : ii + 7 ≤ L) {H : Heap} {locs : List Loc} (hP : va_P D vwCl (la_W o rw n gq bb ad ro mo r cI cZ cR C M C M tm) H) (hD : va_D (la_A s) (la_W o rw n gq bb ad ro mo r cI cZ cR C M C M tm)) (hS : va_S (la_A s) s.heap H locs) {ls : Array Slot} (hl : lv_has ls 4 [(0, .ref bs), (1, .ref o), (2, .ref mo), (3, .int (nI ii))]) {Q : State → Prop} (kk : ∀ (C1 : Nat → st_T) (M1 : st_T) (t1 : tm_T) (H1 : Heap) (locs1 : List Loc), la_I n ro C1 M1 t1 (ii + 7) → va_P D vwCl (la_W o rw n gq bb ad ro mo r cI cZ cR C1 M1 C1 M1 t1) H1 → va_D (la_A s) (la_W o rw n gq bb ad ro mo r cI cZ cR C1 M1 C1 M1 t1) → va_S (la_A s) s.heap H1 locs1 → W p l e room_1 s m #[Value.ref bs] below meth c H1 locs1 62 1255 Q (F0 m 627 ls [])) : W p l e room_1 s m #[Value.ref bs] below meth c H locs 62 1255 Q (F0 m 423 ls []) := by
  obtain ⟨hx, hb, hml, hown, hg, hX, hbl, hK, hN, hL⟩ := X
  obtain ⟨hn, hro, hgq⟩ := G
  have hn4 : n ≤ 4 := by omega
  have hbA : ¬ la_A s bs := fun q => absurd q (by show ¬ s.heap.size ≤ bs; omega)
  have hA : ∀ q, s.heap.size ≤ q → la_A s q := fun q h => h
  obtain ⟨kc, hkc, hcore⟩ := la_kc (n := n) (xs (ii + 1)) (by omega) hn4
  have hIk := hI.1 kc hkc
  have hT := hI.2.1
  have hB := hI.2.2
  refine lv_aload_n hx hb dL_law_423 rfl (lv_at hl 1 rfl) ?_
  refine lv_aload_n hx hb dL_law_424 rfl (lv_at hl 0 rfl) ?_
  refine lv_iload_n hx hb dL_law_425 rfl (lv_at hl 3 rfl) ?_
  refine lv_iconst (v := 1) hx hb dL_law_426 (by decide) ?_
  refine lv_iadd hx hb dL_law_427 ?_
  refine me_t (x := nI (ii) + 1) (y := nI (ii + 1)) (nI_add ii 1) ?_
  refine me_sld hx hb hX hbl hbA hS (ii + 1) rfl (by omega) (by omega) dL_law_428 ?_
  have hrec : ∃ cellB : Cell, H[o]? = some cellB ∧ cellB.vm.isStatics = false ∧ s.vm.findClass RX3 = some cellB.cls := va_recv (q0 := 0) (ci := 3) hK hP rfl rfl
  have hP1 := me_permP (la_p1 hkc) hP
  have hD1 := me_permD (la_p1 hkc) hD
  refine me_goIp (wr := w_cr ad cI ro C ((List.range n).erase kc) ++ w_re mo r cI n ro C M tm) (wc := w_ba o rw cR n gq bb ++ w_sh bb cI cZ M ++ w_co (ad kc) cI (C kc) ++ w_bu (ad kc) cI ro (C kc)) (w1 := w_ba o rw cR n gq bb ++ w_sh bb cI cZ M ++ w_co (ad kc) cI (C kc) ++ w_bu (ad kc) cI ro (C kc)) (va_runV (C := RX3) (b := o) (As := [.int (xs (ii + 1))]) (rest := []) ⟨hx, hb, hml, hown, hg⟩ (c_sb_place l D cI cZ cR o rw n gq bb (ad kc) ro (C kc) M kc hkc hn4 (hgq kc hkc) hro hIk (xs (ii + 1)) hcore H.size) (cwV 1 hg (bg_gV (fun _ h => h) bw_1_231 bw_1_232 bw_1_233 bw_1_1 bw_1_234) rfl rfl rfl (by decide +kernel) ⟨Nat.le_of_ble_eq_true rfl, Nat.le_of_ble_eq_true rfl⟩) (me_preVp (wr := w_cr ad cI ro C ((List.range n).erase kc) ++ w_re mo r cI n ro C M tm) (wc := w_ba o rw cR n gq bb ++ w_sh bb cI cZ M ++ w_co (ad kc) cI (C kc) ++ w_bu (ad kc) cI ro (C kc)) hP1 hD1 hK hN hrec) rfl rfl hl.1 rfl (lv_room (Nat.le_of_ble_eq_true rfl)) dL_law_429 ⟨Nat.le_of_ble_eq_true rfl, Nat.le_of_ble_eq_true rfl⟩) hP1 hD1 hS hA (fun H locs hP hD hS => ?_)
  have hP := me_permP (la_p2 hkc (C kc)) hP
  have hD := me_permD (la_p2 hkc (C kc)) hD
  rw [st_upK (C := C) (kc := kc) rfl] at hP hD
  refine lv_aload_n hx hb dL_law_432 rfl (lv_at hl 2 rfl) ?_
  refine lv_aload_n hx hb dL_law_433 rfl (lv_at hl 0 rfl) ?_
  refine lv_iload_n hx hb dL_law_434 rfl (lv_at hl 3 rfl) ?_
  refine lv_iconst (v := 1) hx hb dL_law_435 (by decide) ?_
  refine lv_iadd hx hb dL_law_436 ?_
  refine me_t (x := nI (ii) + 1) (y := nI (ii + 1)) (nI_add ii 1) ?_
  refine me_sld hx hb hX hbl hbA hS (ii + 1) rfl (by omega) (by omega) dL_law_437 ?_
  have hrec : ∃ cellB : Cell, H[mo]? = some cellB ∧ cellB.vm.isStatics = false ∧ s.vm.findClass RX4 = some cellB.cls := va_recv (q0 := 0) (ci := 4) hK (me_permP List.perm_append_comm hP) rfl rfl
  refine me_goIp (wr := w_ba o rw cR n gq bb ++ w_sh bb cI cZ M ++ w_cr ad cI ro C (List.range n)) (wc := w_re mo r cI n ro C M tm) (w1 := w_re mo r cI n ro C M tm) (va_runV (C := RX4) (b := mo) (As := [.int (xs (ii + 1))]) (rest := [.int (me_sw (me_in (xs (ii + 1)) n) (C kc 5 0) (-1))]) ⟨hx, hb, hml, hown, hg⟩ (c_mo_place l D cI cZ cR mo n r ro C (C kc) M tm kc rfl hkc hn4 hro hIk (xs (ii + 1)) hcore H.size) (cwV 1 hg (bg_gV (fun _ h => h) bw_2_166 bw_2_167 bw_2_168 bw_1_5 bw_2_169) rfl rfl rfl (by decide +kernel) ⟨Nat.le_of_ble_eq_true rfl, Nat.le_of_ble_eq_true rfl⟩) (me_preVp (wr := w_ba o rw cR n gq bb ++ w_sh bb cI cZ M ++ w_cr ad cI ro C (List.range n)) (wc := w_re mo r cI n ro C M tm) hP hD hK hN hrec) rfl rfl hl.1 rfl (lv_room (Nat.le_of_ble_eq_true rfl)) dL_law_438 ⟨Nat.le_of_ble_eq_true rfl, Nat.le_of_ble_eq_true rfl⟩) hP hD hS hA (fun H locs hP hD hS => ?_)
  refine lv_icmp_eq (tgt := 627) hx hb dL_law_441 (by decide) (fun _ => ?_) (fun q => absurd rfl q)
  exact kk (C) (M) (tm) _ _ (la_Isame hI hT (by omega)) hP hD hS
set_option maxHeartbeats 4000000 in
set_option maxRecDepth 100000 in
theorem law_10 (l : Launch) {p : Program} {e : Env} {s : State} {m : MethodId} {below : List Frame} {meth : Method} {c : Code} {bs L : Nat} {xs : Nat → Int32} {D : va_G} {cI cZ cR : ClassId} (X : la_C p s m c bs L xs D cI cZ cR) {o rw n : Nat} {gq : Nat → Option Nat} {bb : Nat → Nat} {ad : Nat → Nat → Nat} {ro mo : Nat} {r : Nat → Nat} (G : la_G n ro gq ad) {C : Nat → st_T} {M : st_T} {tm : tm_T} {ii : Nat} (hI : la_I n ro C M tm ii) (hi : ii + 7 ≤ L) {H : Heap} {locs : List Loc} (hP : va_P D vwCl (la_W o rw n gq bb ad ro mo r cI cZ cR C M C M tm) H) (hD : va_D (la_A s) (la_W o rw n gq bb ad ro mo r cI cZ cR C M C M tm)) (hS : va_S (la_A s) s.heap H locs) {ls : Array Slot} (hl : lv_has ls 4 [(0, .ref bs), (1, .ref o), (2, .ref mo), (3, .int (nI ii))]) {Q : State → Prop} (kk : ∀ (C1 : Nat → st_T) (M1 : st_T) (t1 : tm_T) (H1 : Heap) (locs1 : List Loc), la_I n ro C1 M1 t1 (ii + 7) → va_P D vwCl (la_W o rw n gq bb ad ro mo r cI cZ cR C1 M1 C1 M1 t1) H1 → va_D (la_A s) (la_W o rw n gq bb ad ro mo r cI cZ cR C1 M1 C1 M1 t1) → va_S (la_A s) s.heap H1 locs1 → W p l e room_1 s m #[Value.ref bs] below meth c H1 locs1 62 1255 Q (F0 m 627 ls [])) : W p l e room_1 s m #[Value.ref bs] below meth c H locs 62 1255 Q (F0 m 446 ls []) := by
  obtain ⟨hx, hb, hml, hown, hg, hX, hbl, hK, hN, hL⟩ := X
  obtain ⟨hn, hro, hgq⟩ := G
  have hn4 : n ≤ 4 := by omega
  have hbA : ¬ la_A s bs := fun q => absurd q (by show ¬ s.heap.size ≤ bs; omega)
  have hA : ∀ q, s.heap.size ≤ q → la_A s q := fun q h => h
  obtain ⟨kc, hkc, hcore⟩ := la_kc (n := n) (xs (ii + 1)) (by omega) hn4
  have hIk := hI.1 kc hkc
  have hT := hI.2.1
  have hB := hI.2.2
  refine lv_aload_n hx hb dL_law_446 rfl (lv_at hl 1 rfl) ?_
  refine lv_aload_n hx hb dL_law_447 rfl (lv_at hl 0 rfl) ?_
  refine lv_iload_n hx hb dL_law_448 rfl (lv_at hl 3 rfl) ?_
  refine lv_iconst (v := 1) hx hb dL_law_449 (by decide) ?_
  refine lv_iadd hx hb dL_law_450 ?_
  refine me_t (x := nI (ii) + 1) (y := nI (ii + 1)) (nI_add ii 1) ?_
  refine me_sld hx hb hX hbl hbA hS (ii + 1) rfl (by omega) (by omega) dL_law_451 ?_
  have hrec : ∃ cellB : Cell, H[o]? = some cellB ∧ cellB.vm.isStatics = false ∧ s.vm.findClass RX3 = some cellB.cls := va_recv (q0 := 0) (ci := 3) hK hP rfl rfl
  have hP1 := me_permP (la_p1 hkc) hP
  have hD1 := me_permD (la_p1 hkc) hD
  refine me_goIp (wr := w_cr ad cI ro C ((List.range n).erase kc) ++ w_re mo r cI n ro C M tm) (wc := w_ba o rw cR n gq bb ++ w_sh bb cI cZ M ++ w_co (ad kc) cI (C kc) ++ w_bu (ad kc) cI ro (C kc)) (w1 := w_ba o rw cR n gq bb ++ w_sh bb cI cZ M ++ w_co (ad kc) cI (C kc) ++ w_bu (ad kc) cI ro (C kc)) (va_runV (C := RX3) (b := o) (As := [.int (xs (ii + 1))]) (rest := []) ⟨hx, hb, hml, hown, hg⟩ (c_sb_pending l D cI cZ cR o rw n gq bb (ad kc) ro (C kc) M kc hkc hn4 (hgq kc hkc) hro hIk (xs (ii + 1)) hcore H.size) (cwV 1 hg (bg_gV (fun _ h => h) bw_1_235 bw_1_236 bw_1_237 bw_1_1 bw_1_238) rfl rfl rfl (by decide +kernel) ⟨Nat.le_of_ble_eq_true rfl, Nat.le_of_ble_eq_true rfl⟩) (me_preVp (wr := w_cr ad cI ro C ((List.range n).erase kc) ++ w_re mo r cI n ro C M tm) (wc := w_ba o rw cR n gq bb ++ w_sh bb cI cZ M ++ w_co (ad kc) cI (C kc) ++ w_bu (ad kc) cI ro (C kc)) hP1 hD1 hK hN hrec) rfl rfl hl.1 rfl (lv_room (Nat.le_of_ble_eq_true rfl)) dL_law_452 ⟨Nat.le_of_ble_eq_true rfl, Nat.le_of_ble_eq_true rfl⟩) hP1 hD1 hS hA (fun H locs hP hD hS => ?_)
  have hP := me_permP (la_p2 hkc (C kc)) hP
  have hD := me_permD (la_p2 hkc (C kc)) hD
  rw [st_upK (C := C) (kc := kc) rfl] at hP hD
  refine lv_aload_n hx hb dL_law_455 rfl (lv_at hl 2 rfl) ?_
  refine lv_aload_n hx hb dL_law_456 rfl (lv_at hl 0 rfl) ?_
  refine lv_iload_n hx hb dL_law_457 rfl (lv_at hl 3 rfl) ?_
  refine lv_iconst (v := 1) hx hb dL_law_458 (by decide) ?_
  refine lv_iadd hx hb dL_law_459 ?_
  refine me_t (x := nI (ii) + 1) (y := nI (ii + 1)) (nI_add ii 1) ?_
  refine me_sld hx hb hX hbl hbA hS (ii + 1) rfl (by omega) (by omega) dL_law_460 ?_
  have hrec : ∃ cellB : Cell, H[mo]? = some cellB ∧ cellB.vm.isStatics = false ∧ s.vm.findClass RX4 = some cellB.cls := va_recv (q0 := 0) (ci := 4) hK (me_permP List.perm_append_comm hP) rfl rfl
  refine me_goIp (wr := w_ba o rw cR n gq bb ++ w_sh bb cI cZ M ++ w_cr ad cI ro C (List.range n)) (wc := w_re mo r cI n ro C M tm) (w1 := w_re mo r cI n ro C M tm) (va_runV (C := RX4) (b := mo) (As := [.int (xs (ii + 1))]) (rest := [.int (me_sw (me_in (xs (ii + 1)) n) (C kc 7 0) (-1))]) ⟨hx, hb, hml, hown, hg⟩ (c_mo_pending l D cI cZ cR mo n r ro C (C kc) M tm kc rfl hkc hn4 hro hIk (xs (ii + 1)) hcore H.size) (cwV 1 hg (bg_gV (fun _ h => h) bw_2_170 bw_2_171 bw_2_172 bw_1_5 bw_2_173) rfl rfl rfl (by decide +kernel) ⟨Nat.le_of_ble_eq_true rfl, Nat.le_of_ble_eq_true rfl⟩) (me_preVp (wr := w_ba o rw cR n gq bb ++ w_sh bb cI cZ M ++ w_cr ad cI ro C (List.range n)) (wc := w_re mo r cI n ro C M tm) hP hD hK hN hrec) rfl rfl hl.1 rfl (lv_room (Nat.le_of_ble_eq_true rfl)) dL_law_461 ⟨Nat.le_of_ble_eq_true rfl, Nat.le_of_ble_eq_true rfl⟩) hP hD hS hA (fun H locs hP hD hS => ?_)
  refine lv_icmp_eq (tgt := 627) hx hb dL_law_464 (by decide) (fun _ => ?_) (fun q => absurd rfl q)
  exact kk (C) (M) (tm) _ _ (la_Isame hI hT (by omega)) hP hD hS
set_option maxHeartbeats 4000000 in
set_option maxRecDepth 100000 in
theorem law_11 (l : Launch) {p : Program} {e : Env} {s : State} {m : MethodId} {below : List Frame} {meth : Method} {c : Code} {bs L : Nat} {xs : Nat → Int32} {D : va_G} {cI cZ cR : ClassId} (X : la_C p s m c bs L xs D cI cZ cR) {o rw n : Nat} {gq : Nat → Option Nat} {bb : Nat → Nat} {ad : Nat → Nat → Nat} {ro mo : Nat} {r : Nat → Nat} (G : la_G n ro gq ad) {C : Nat → st_T} {M : st_T} {tm : tm_T} {ii : Nat} (hI : la_I n ro C M tm ii) (hi : ii + 7 ≤ L) {H : Heap} {locs : List Loc} (hP : va_P D vwCl (la_W o rw n gq bb ad ro mo r cI cZ cR C M C M tm) H) (hD : va_D (la_A s) (la_W o rw n gq bb ad ro mo r cI cZ cR C M C M tm)) (hS : va_S (la_A s) s.heap H locs) {ls : Array Slot} (hl : lv_has ls 4 [(0, .ref bs), (1, .ref o), (2, .ref mo), (3, .int (nI ii))]) {Q : State → Prop} (kk : ∀ (C1 : Nat → st_T) (M1 : st_T) (t1 : tm_T) (H1 : Heap) (locs1 : List Loc), la_I n ro C1 M1 t1 (ii + 7) → va_P D vwCl (la_W o rw n gq bb ad ro mo r cI cZ cR C1 M1 C1 M1 t1) H1 → va_D (la_A s) (la_W o rw n gq bb ad ro mo r cI cZ cR C1 M1 C1 M1 t1) → va_S (la_A s) s.heap H1 locs1 → W p l e room_1 s m #[Value.ref bs] below meth c H1 locs1 62 1255 Q (F0 m 627 ls [])) : W p l e room_1 s m #[Value.ref bs] below meth c H locs 62 1255 Q (F0 m 469 ls []) := by
  obtain ⟨hx, hb, hml, hown, hg, hX, hbl, hK, hN, hL⟩ := X
  obtain ⟨hn, hro, hgq⟩ := G
  have hn4 : n ≤ 4 := by omega
  have hbA : ¬ la_A s bs := fun q => absurd q (by show ¬ s.heap.size ≤ bs; omega)
  have hA : ∀ q, s.heap.size ≤ q → la_A s q := fun q h => h
  obtain ⟨kc, hkc, hcore⟩ := la_kc (n := n) (xs (ii + 1)) (by omega) hn4
  have hIk := hI.1 kc hkc
  have hT := hI.2.1
  have hB := hI.2.2
  refine lv_aload_n hx hb dL_law_469 rfl (lv_at hl 1 rfl) ?_
  refine lv_aload_n hx hb dL_law_470 rfl (lv_at hl 0 rfl) ?_
  refine lv_iload_n hx hb dL_law_471 rfl (lv_at hl 3 rfl) ?_
  refine lv_iconst (v := 1) hx hb dL_law_472 (by decide) ?_
  refine lv_iadd hx hb dL_law_473 ?_
  refine me_t (x := nI (ii) + 1) (y := nI (ii + 1)) (nI_add ii 1) ?_
  refine me_sld hx hb hX hbl hbA hS (ii + 1) rfl (by omega) (by omega) dL_law_474 ?_
  refine lv_aload_n hx hb dL_law_475 rfl (lv_at hl 0 rfl) ?_
  refine lv_iload_n hx hb dL_law_476 rfl (lv_at hl 3 rfl) ?_
  refine lv_iconst (v := 2) hx hb dL_law_477 (by decide) ?_
  refine lv_iadd hx hb dL_law_478 ?_
  refine me_t (x := nI (ii) + 2) (y := nI (ii + 2)) (nI_add ii 2) ?_
  refine me_sld hx hb hX hbl hbA hS (ii + 2) rfl (by omega) (by omega) dL_law_479 ?_
  refine lv_aload_n hx hb dL_law_480 rfl (lv_at hl 0 rfl) ?_
  refine lv_iload_n hx hb dL_law_481 rfl (lv_at hl 3 rfl) ?_
  refine lv_iconst (v := 3) hx hb dL_law_482 (by decide) ?_
  refine lv_iadd hx hb dL_law_483 ?_
  refine me_t (x := nI (ii) + 3) (y := nI (ii + 3)) (nI_add ii 3) ?_
  refine me_sld hx hb hX hbl hbA hS (ii + 3) rfl (by omega) (by omega) dL_law_484 ?_
  have hrec : ∃ cellB : Cell, H[o]? = some cellB ∧ cellB.vm.isStatics = false ∧ s.vm.findClass RX3 = some cellB.cls := va_recv (q0 := 0) (ci := 3) hK hP rfl rfl
  have hP1 := me_permP (la_p1 hkc) hP
  have hD1 := me_permD (la_p1 hkc) hD
  refine me_goIp (wr := w_cr ad cI ro C ((List.range n).erase kc) ++ w_re mo r cI n ro C M tm) (wc := w_ba o rw cR n gq bb ++ w_sh bb cI cZ M ++ w_co (ad kc) cI (C kc) ++ w_bu (ad kc) cI ro (C kc)) (w1 := w_ba o rw cR n gq bb ++ w_sh bb cI cZ M ++ w_co (ad kc) cI (C kc) ++ w_bu (ad kc) cI ro (C kc)) (va_runV (C := RX3) (b := o) (As := [.int (xs (ii + 1)), .int (xs (ii + 2)), .int (xs (ii + 3))]) (rest := []) ⟨hx, hb, hml, hown, hg⟩ (c_sb_entry l D cI cZ cR o rw n gq bb (ad kc) ro (C kc) M kc hkc hn4 (hgq kc hkc) hro hIk (xs (ii + 1)) hcore (xs (ii + 2)) (xs (ii + 3)) H.size) (cwV 3 hg (bg_gV (fun _ h => h) bw_1_239 bw_2_0 bw_2_1 bw_1_1 bw_2_2) rfl rfl rfl (by decide +kernel) ⟨Nat.le_of_ble_eq_true rfl, Nat.le_of_ble_eq_true rfl⟩) (me_preVp (wr := w_cr ad cI ro C ((List.range n).erase kc) ++ w_re mo r cI n ro C M tm) (wc := w_ba o rw cR n gq bb ++ w_sh bb cI cZ M ++ w_co (ad kc) cI (C kc) ++ w_bu (ad kc) cI ro (C kc)) hP1 hD1 hK hN hrec) rfl rfl hl.1 rfl (lv_room (Nat.le_of_ble_eq_true rfl)) dL_law_485 ⟨Nat.le_of_ble_eq_true rfl, Nat.le_of_ble_eq_true rfl⟩) hP1 hD1 hS hA (fun H locs hP hD hS => ?_)
  have hP := me_permP (la_p2 hkc (C kc)) hP
  have hD := me_permD (la_p2 hkc (C kc)) hD
  rw [st_upK (C := C) (kc := kc) rfl] at hP hD
  refine lv_aload_n hx hb dL_law_488 rfl (lv_at hl 2 rfl) ?_
  refine lv_aload_n hx hb dL_law_489 rfl (lv_at hl 0 rfl) ?_
  refine lv_iload_n hx hb dL_law_490 rfl (lv_at hl 3 rfl) ?_
  refine lv_iconst (v := 1) hx hb dL_law_491 (by decide) ?_
  refine lv_iadd hx hb dL_law_492 ?_
  refine me_t (x := nI (ii) + 1) (y := nI (ii + 1)) (nI_add ii 1) ?_
  refine me_sld hx hb hX hbl hbA hS (ii + 1) rfl (by omega) (by omega) dL_law_493 ?_
  refine lv_aload_n hx hb dL_law_494 rfl (lv_at hl 0 rfl) ?_
  refine lv_iload_n hx hb dL_law_495 rfl (lv_at hl 3 rfl) ?_
  refine lv_iconst (v := 2) hx hb dL_law_496 (by decide) ?_
  refine lv_iadd hx hb dL_law_497 ?_
  refine me_t (x := nI (ii) + 2) (y := nI (ii + 2)) (nI_add ii 2) ?_
  refine me_sld hx hb hX hbl hbA hS (ii + 2) rfl (by omega) (by omega) dL_law_498 ?_
  refine lv_aload_n hx hb dL_law_499 rfl (lv_at hl 0 rfl) ?_
  refine lv_iload_n hx hb dL_law_500 rfl (lv_at hl 3 rfl) ?_
  refine lv_iconst (v := 3) hx hb dL_law_501 (by decide) ?_
  refine lv_iadd hx hb dL_law_502 ?_
  refine me_t (x := nI (ii) + 3) (y := nI (ii + 3)) (nI_add ii 3) ?_
  refine me_sld hx hb hX hbl hbA hS (ii + 3) rfl (by omega) (by omega) dL_law_503 ?_
  have hrec : ∃ cellB : Cell, H[mo]? = some cellB ∧ cellB.vm.isStatics = false ∧ s.vm.findClass RX4 = some cellB.cls := va_recv (q0 := 0) (ci := 4) hK (me_permP List.perm_append_comm hP) rfl rfl
  refine me_goIp (wr := w_ba o rw cR n gq bb ++ w_sh bb cI cZ M ++ w_cr ad cI ro C (List.range n)) (wc := w_re mo r cI n ro C M tm) (w1 := w_re mo r cI n ro C M tm) (va_runV (C := RX4) (b := mo) (As := [.int (xs (ii + 1)), .int (xs (ii + 2)), .int (xs (ii + 3))]) (rest := [.int (me_sw (me_in (xs (ii + 1)) n ∧ me_in (xs (ii + 2)) (st_h (C kc)) ∧ me_in (xs (ii + 3)) 3) (C kc (8 + (xs (ii + 3)).toNatClampNeg) (xs (ii + 2)).toNatClampNeg) (-1))]) ⟨hx, hb, hml, hown, hg⟩ (c_mo_entry l D cI cZ cR mo n r ro C (C kc) M tm kc rfl hkc hn4 hro hIk (xs (ii + 1)) hcore (xs (ii + 2)) (xs (ii + 3)) H.size) (cwV 3 hg (bg_gV (fun _ h => h) bw_2_174 bw_2_175 bw_2_176 bw_1_5 bw_2_177) rfl rfl rfl (by decide +kernel) ⟨Nat.le_of_ble_eq_true rfl, Nat.le_of_ble_eq_true rfl⟩) (me_preVp (wr := w_ba o rw cR n gq bb ++ w_sh bb cI cZ M ++ w_cr ad cI ro C (List.range n)) (wc := w_re mo r cI n ro C M tm) hP hD hK hN hrec) rfl rfl hl.1 rfl (lv_room (Nat.le_of_ble_eq_true rfl)) dL_law_504 ⟨Nat.le_of_ble_eq_true rfl, Nat.le_of_ble_eq_true rfl⟩) hP hD hS hA (fun H locs hP hD hS => ?_)
  refine lv_icmp_eq (tgt := 627) hx hb dL_law_507 (by decide) (fun _ => ?_) (fun q => absurd rfl q)
  exact kk (C) (M) (tm) _ _ (la_Isame hI hT (by omega)) hP hD hS
set_option maxHeartbeats 4000000 in
set_option maxRecDepth 100000 in
theorem law_12 (l : Launch) {p : Program} {e : Env} {s : State} {m : MethodId} {below : List Frame} {meth : Method} {c : Code} {bs L : Nat} {xs : Nat → Int32} {D : va_G} {cI cZ cR : ClassId} (X : la_C p s m c bs L xs D cI cZ cR) {o rw n : Nat} {gq : Nat → Option Nat} {bb : Nat → Nat} {ad : Nat → Nat → Nat} {ro mo : Nat} {r : Nat → Nat} (G : la_G n ro gq ad) {C : Nat → st_T} {M : st_T} {tm : tm_T} {ii : Nat} (hI : la_I n ro C M tm ii) (hi : ii + 7 ≤ L) {H : Heap} {locs : List Loc} (hP : va_P D vwCl (la_W o rw n gq bb ad ro mo r cI cZ cR C M C M tm) H) (hD : va_D (la_A s) (la_W o rw n gq bb ad ro mo r cI cZ cR C M C M tm)) (hS : va_S (la_A s) s.heap H locs) {ls : Array Slot} (hl : lv_has ls 4 [(0, .ref bs), (1, .ref o), (2, .ref mo), (3, .int (nI ii))]) {Q : State → Prop} (kk : ∀ (C1 : Nat → st_T) (M1 : st_T) (t1 : tm_T) (H1 : Heap) (locs1 : List Loc), la_I n ro C1 M1 t1 (ii + 7) → va_P D vwCl (la_W o rw n gq bb ad ro mo r cI cZ cR C1 M1 C1 M1 t1) H1 → va_D (la_A s) (la_W o rw n gq bb ad ro mo r cI cZ cR C1 M1 C1 M1 t1) → va_S (la_A s) s.heap H1 locs1 → W p l e room_1 s m #[Value.ref bs] below meth c H1 locs1 62 1255 Q (F0 m 627 ls [])) : W p l e room_1 s m #[Value.ref bs] below meth c H locs 62 1255 Q (F0 m 512 ls []) := by
  obtain ⟨hx, hb, hml, hown, hg, hX, hbl, hK, hN, hL⟩ := X
  obtain ⟨hn, hro, hgq⟩ := G
  have hn4 : n ≤ 4 := by omega
  have hbA : ¬ la_A s bs := fun q => absurd q (by show ¬ s.heap.size ≤ bs; omega)
  have hA : ∀ q, s.heap.size ≤ q → la_A s q := fun q h => h
  obtain ⟨kc, hkc, hcore⟩ := la_kc (n := n) (xs (ii + 1)) (by omega) hn4
  have hIk := hI.1 kc hkc
  have hT := hI.2.1
  have hB := hI.2.2
  refine lv_aload_n hx hb dL_law_512 rfl (lv_at hl 1 rfl) ?_
  refine lv_aload_n hx hb dL_law_513 rfl (lv_at hl 0 rfl) ?_
  refine lv_iload_n hx hb dL_law_514 rfl (lv_at hl 3 rfl) ?_
  refine lv_iconst (v := 1) hx hb dL_law_515 (by decide) ?_
  refine lv_iadd hx hb dL_law_516 ?_
  refine me_t (x := nI (ii) + 1) (y := nI (ii + 1)) (nI_add ii 1) ?_
  refine me_sld hx hb hX hbl hbA hS (ii + 1) rfl (by omega) (by omega) dL_law_517 ?_
  refine lv_aload_n hx hb dL_law_518 rfl (lv_at hl 0 rfl) ?_
  refine lv_iload_n hx hb dL_law_519 rfl (lv_at hl 3 rfl) ?_
  refine lv_iconst (v := 2) hx hb dL_law_520 (by decide) ?_
  refine lv_iadd hx hb dL_law_521 ?_
  refine me_t (x := nI (ii) + 2) (y := nI (ii + 2)) (nI_add ii 2) ?_
  refine me_sld hx hb hX hbl hbA hS (ii + 2) rfl (by omega) (by omega) dL_law_522 ?_
  have hrec : ∃ cellB : Cell, H[o]? = some cellB ∧ cellB.vm.isStatics = false ∧ s.vm.findClass RX3 = some cellB.cls := va_recv (q0 := 0) (ci := 3) hK hP rfl rfl
  have hP1 := me_permP (la_p1 hkc) hP
  have hD1 := me_permD (la_p1 hkc) hD
  refine me_goIp (wr := w_cr ad cI ro C ((List.range n).erase kc) ++ w_re mo r cI n ro C M tm) (wc := w_ba o rw cR n gq bb ++ w_sh bb cI cZ M ++ w_co (ad kc) cI (C kc) ++ w_bu (ad kc) cI ro (C kc)) (w1 := w_ba o rw cR n gq bb ++ w_sh bb cI cZ M ++ w_co (ad kc) cI (C kc) ++ w_bu (ad kc) cI ro (C kc)) (va_runV (C := RX3) (b := o) (As := [.int (xs (ii + 1)), .int (xs (ii + 2))]) (rest := []) ⟨hx, hb, hml, hown, hg⟩ (c_sb_sees l D cI cZ cR o rw n gq bb (ad kc) ro (C kc) M kc hkc hn4 (hgq kc hkc) hro hIk (xs (ii + 1)) hcore (xs (ii + 2)) H.size) (cwV 2 hg (bg_gV (fun _ h => h) bw_2_3 bw_2_4 bw_2_5 bw_1_1 bw_2_6) rfl rfl rfl (by decide +kernel) ⟨Nat.le_of_ble_eq_true rfl, Nat.le_of_ble_eq_true rfl⟩) (me_preVp (wr := w_cr ad cI ro C ((List.range n).erase kc) ++ w_re mo r cI n ro C M tm) (wc := w_ba o rw cR n gq bb ++ w_sh bb cI cZ M ++ w_co (ad kc) cI (C kc) ++ w_bu (ad kc) cI ro (C kc)) hP1 hD1 hK hN hrec) rfl rfl hl.1 rfl (lv_room (Nat.le_of_ble_eq_true rfl)) dL_law_523 ⟨Nat.le_of_ble_eq_true rfl, Nat.le_of_ble_eq_true rfl⟩) hP1 hD1 hS hA (fun H locs hP hD hS => ?_)
  have hP := me_permP (la_p2 hkc (C kc)) hP
  have hD := me_permD (la_p2 hkc (C kc)) hD
  rw [st_upK (C := C) (kc := kc) rfl] at hP hD
  refine lv_aload_n hx hb dL_law_526 rfl (lv_at hl 2 rfl) ?_
  refine lv_aload_n hx hb dL_law_527 rfl (lv_at hl 0 rfl) ?_
  refine lv_iload_n hx hb dL_law_528 rfl (lv_at hl 3 rfl) ?_
  refine lv_iconst (v := 1) hx hb dL_law_529 (by decide) ?_
  refine lv_iadd hx hb dL_law_530 ?_
  refine me_t (x := nI (ii) + 1) (y := nI (ii + 1)) (nI_add ii 1) ?_
  refine me_sld hx hb hX hbl hbA hS (ii + 1) rfl (by omega) (by omega) dL_law_531 ?_
  refine lv_aload_n hx hb dL_law_532 rfl (lv_at hl 0 rfl) ?_
  refine lv_iload_n hx hb dL_law_533 rfl (lv_at hl 3 rfl) ?_
  refine lv_iconst (v := 2) hx hb dL_law_534 (by decide) ?_
  refine lv_iadd hx hb dL_law_535 ?_
  refine me_t (x := nI (ii) + 2) (y := nI (ii + 2)) (nI_add ii 2) ?_
  refine me_sld hx hb hX hbl hbA hS (ii + 2) rfl (by omega) (by omega) dL_law_536 ?_
  have hrec : ∃ cellB : Cell, H[mo]? = some cellB ∧ cellB.vm.isStatics = false ∧ s.vm.findClass RX4 = some cellB.cls := va_recv (q0 := 0) (ci := 4) hK (me_permP List.perm_append_comm hP) rfl rfl
  refine me_goIp (wr := w_ba o rw cR n gq bb ++ w_sh bb cI cZ M ++ w_cr ad cI ro C (List.range n)) (wc := w_re mo r cI n ro C M tm) (w1 := w_re mo r cI n ro C M tm) (va_runV (C := RX4) (b := mo) (As := [.int (xs (ii + 1)), .int (xs (ii + 2))]) (rest := [.int (me_sw (me_in (xs (ii + 1)) n ∧ me_in (xs (ii + 2)) 32) (st_nv (C kc) (xs (ii + 2)) (M 0 (xs (ii + 2)).toNatClampNeg) (st_h (C kc))) 0)]) ⟨hx, hb, hml, hown, hg⟩ (c_mo_sees l D cI cZ cR mo n r ro C (C kc) M tm kc rfl hkc hn4 hro hIk (xs (ii + 1)) hcore (xs (ii + 2)) H.size) (cwV 2 hg (bg_gV (fun _ h => h) bw_2_140 bw_2_141 bw_2_142 bw_1_5 bw_2_143) rfl rfl rfl (by decide +kernel) ⟨Nat.le_of_ble_eq_true rfl, Nat.le_of_ble_eq_true rfl⟩) (me_preVp (wr := w_ba o rw cR n gq bb ++ w_sh bb cI cZ M ++ w_cr ad cI ro C (List.range n)) (wc := w_re mo r cI n ro C M tm) hP hD hK hN hrec) rfl rfl hl.1 rfl (lv_room (Nat.le_of_ble_eq_true rfl)) dL_law_537 ⟨Nat.le_of_ble_eq_true rfl, Nat.le_of_ble_eq_true rfl⟩) hP hD hS hA (fun H locs hP hD hS => ?_)
  refine lv_icmp_eq (tgt := 627) hx hb dL_law_540 (by decide) (fun _ => ?_) (fun q => absurd rfl q)
  exact kk (C) (M) (tm) _ _ (la_Isame hI hT (by omega)) hP hD hS
set_option maxHeartbeats 4000000 in
set_option maxRecDepth 100000 in
theorem law_13 (l : Launch) {p : Program} {e : Env} {s : State} {m : MethodId} {below : List Frame} {meth : Method} {c : Code} {bs L : Nat} {xs : Nat → Int32} {D : va_G} {cI cZ cR : ClassId} (X : la_C p s m c bs L xs D cI cZ cR) {o rw n : Nat} {gq : Nat → Option Nat} {bb : Nat → Nat} {ad : Nat → Nat → Nat} {ro mo : Nat} {r : Nat → Nat} (G : la_G n ro gq ad) {C : Nat → st_T} {M : st_T} {tm : tm_T} {ii : Nat} (hI : la_I n ro C M tm ii) (hi : ii + 7 ≤ L) {H : Heap} {locs : List Loc} (hP : va_P D vwCl (la_W o rw n gq bb ad ro mo r cI cZ cR C M C M tm) H) (hD : va_D (la_A s) (la_W o rw n gq bb ad ro mo r cI cZ cR C M C M tm)) (hS : va_S (la_A s) s.heap H locs) {ls : Array Slot} (hl : lv_has ls 4 [(0, .ref bs), (1, .ref o), (2, .ref mo), (3, .int (nI ii))]) {Q : State → Prop} (kk : ∀ (C1 : Nat → st_T) (M1 : st_T) (t1 : tm_T) (H1 : Heap) (locs1 : List Loc), la_I n ro C1 M1 t1 (ii + 7) → va_P D vwCl (la_W o rw n gq bb ad ro mo r cI cZ cR C1 M1 C1 M1 t1) H1 → va_D (la_A s) (la_W o rw n gq bb ad ro mo r cI cZ cR C1 M1 C1 M1 t1) → va_S (la_A s) s.heap H1 locs1 → W p l e room_1 s m #[Value.ref bs] below meth c H1 locs1 62 1255 Q (F0 m 627 ls [])) : W p l e room_1 s m #[Value.ref bs] below meth c H locs 62 1255 Q (F0 m 545 ls []) := by
  obtain ⟨hx, hb, hml, hown, hg, hX, hbl, hK, hN, hL⟩ := X
  obtain ⟨hn, hro, hgq⟩ := G
  have hn4 : n ≤ 4 := by omega
  have hbA : ¬ la_A s bs := fun q => absurd q (by show ¬ s.heap.size ≤ bs; omega)
  have hA : ∀ q, s.heap.size ≤ q → la_A s q := fun q h => h
  obtain ⟨kc, hkc, hcore⟩ := la_kc (n := n) (0) (by omega) hn4
  have hIk := hI.1 kc hkc
  have hT := hI.2.1
  have hB := hI.2.2
  refine lv_aload_n hx hb dL_law_545 rfl (lv_at hl 1 rfl) ?_
  refine lv_aload_n hx hb dL_law_546 rfl (lv_at hl 0 rfl) ?_
  refine lv_iload_n hx hb dL_law_547 rfl (lv_at hl 3 rfl) ?_
  refine lv_iconst (v := 1) hx hb dL_law_548 (by decide) ?_
  refine lv_iadd hx hb dL_law_549 ?_
  refine me_t (x := nI (ii) + 1) (y := nI (ii + 1)) (nI_add ii 1) ?_
  refine me_sld hx hb hX hbl hbA hS (ii + 1) rfl (by omega) (by omega) dL_law_550 ?_
  have hrec : ∃ cellB : Cell, H[o]? = some cellB ∧ cellB.vm.isStatics = false ∧ s.vm.findClass RX3 = some cellB.cls := va_recv (q0 := 0) (ci := 3) hK hP rfl rfl
  have hP1 := me_permP (la_p1 hkc) hP
  have hD1 := me_permD (la_p1 hkc) hD
  refine me_goIp (wr := w_cr ad cI ro C ((List.range n).erase kc) ++ w_re mo r cI n ro C M tm) (wc := w_ba o rw cR n gq bb ++ w_sh bb cI cZ M ++ w_co (ad kc) cI (C kc) ++ w_bu (ad kc) cI ro (C kc)) (w1 := w_ba o rw cR n gq bb ++ w_sh bb cI cZ M ++ w_co (ad kc) cI (C kc) ++ w_bu (ad kc) cI ro (C kc)) (va_runV (C := RX3) (b := o) (As := [.int (xs (ii + 1))]) (rest := []) ⟨hx, hb, hml, hown, hg⟩ (c_sb_memory l D cI cZ cR o rw n gq bb (ad kc) ro (C kc) M kc hkc hn4 (hgq kc hkc) hro hIk (xs (ii + 1)) H.size) (cwV 1 hg (bg_gV (fun _ h => h) bw_2_11 bw_2_12 bw_2_13 bw_1_1 bw_2_14) rfl rfl rfl (by decide +kernel) ⟨Nat.le_of_ble_eq_true rfl, Nat.le_of_ble_eq_true rfl⟩) (me_preVp (wr := w_cr ad cI ro C ((List.range n).erase kc) ++ w_re mo r cI n ro C M tm) (wc := w_ba o rw cR n gq bb ++ w_sh bb cI cZ M ++ w_co (ad kc) cI (C kc) ++ w_bu (ad kc) cI ro (C kc)) hP1 hD1 hK hN hrec) rfl rfl hl.1 rfl (lv_room (Nat.le_of_ble_eq_true rfl)) dL_law_551 ⟨Nat.le_of_ble_eq_true rfl, Nat.le_of_ble_eq_true rfl⟩) hP1 hD1 hS hA (fun H locs hP hD hS => ?_)
  have hP := me_permP (la_p2 hkc (C kc)) hP
  have hD := me_permD (la_p2 hkc (C kc)) hD
  rw [st_upK (C := C) (kc := kc) rfl] at hP hD
  refine lv_aload_n hx hb dL_law_554 rfl (lv_at hl 2 rfl) ?_
  refine lv_aload_n hx hb dL_law_555 rfl (lv_at hl 0 rfl) ?_
  refine lv_iload_n hx hb dL_law_556 rfl (lv_at hl 3 rfl) ?_
  refine lv_iconst (v := 1) hx hb dL_law_557 (by decide) ?_
  refine lv_iadd hx hb dL_law_558 ?_
  refine me_t (x := nI (ii) + 1) (y := nI (ii + 1)) (nI_add ii 1) ?_
  refine me_sld hx hb hX hbl hbA hS (ii + 1) rfl (by omega) (by omega) dL_law_559 ?_
  have hrec : ∃ cellB : Cell, H[mo]? = some cellB ∧ cellB.vm.isStatics = false ∧ s.vm.findClass RX4 = some cellB.cls := va_recv (q0 := 0) (ci := 4) hK (me_permP List.perm_append_comm hP) rfl rfl
  refine me_goIp (wr := w_ba o rw cR n gq bb ++ w_sh bb cI cZ M ++ w_cr ad cI ro C (List.range n)) (wc := w_re mo r cI n ro C M tm) (w1 := w_re mo r cI n ro C M tm) (va_runV (C := RX4) (b := mo) (As := [.int (xs (ii + 1))]) (rest := [.int (me_sw (me_in (xs (ii + 1)) 32) (M 0 (xs (ii + 1)).toNatClampNeg) 0)]) ⟨hx, hb, hml, hown, hg⟩ (c_mo_memory l D cI cZ cR mo n r ro C (C kc) M tm kc rfl hkc hn4 hro hIk (xs (ii + 1)) H.size) (cwV 1 hg (bg_gV (fun _ h => h) bw_2_178 bw_2_179 bw_2_180 bw_1_5 bw_2_181) rfl rfl rfl (by decide +kernel) ⟨Nat.le_of_ble_eq_true rfl, Nat.le_of_ble_eq_true rfl⟩) (me_preVp (wr := w_ba o rw cR n gq bb ++ w_sh bb cI cZ M ++ w_cr ad cI ro C (List.range n)) (wc := w_re mo r cI n ro C M tm) hP hD hK hN hrec) rfl rfl hl.1 rfl (lv_room (Nat.le_of_ble_eq_true rfl)) dL_law_560 ⟨Nat.le_of_ble_eq_true rfl, Nat.le_of_ble_eq_true rfl⟩) hP hD hS hA (fun H locs hP hD hS => ?_)
  refine lv_icmp_eq (tgt := 627) hx hb dL_law_563 (by decide) (fun _ => ?_) (fun q => absurd rfl q)
  exact kk (C) (M) (tm) _ _ (la_Isame hI hT (by omega)) hP hD hS
set_option maxHeartbeats 4000000 in
set_option maxRecDepth 100000 in
theorem law_14 (l : Launch) {p : Program} {e : Env} {s : State} {m : MethodId} {below : List Frame} {meth : Method} {c : Code} {bs L : Nat} {xs : Nat → Int32} {D : va_G} {cI cZ cR : ClassId} (X : la_C p s m c bs L xs D cI cZ cR) {o rw n : Nat} {gq : Nat → Option Nat} {bb : Nat → Nat} {ad : Nat → Nat → Nat} {ro mo : Nat} {r : Nat → Nat} (G : la_G n ro gq ad) {C : Nat → st_T} {M : st_T} {tm : tm_T} {ii : Nat} (hI : la_I n ro C M tm ii) (hi : ii + 7 ≤ L) {H : Heap} {locs : List Loc} (hP : va_P D vwCl (la_W o rw n gq bb ad ro mo r cI cZ cR C M C M tm) H) (hD : va_D (la_A s) (la_W o rw n gq bb ad ro mo r cI cZ cR C M C M tm)) (hS : va_S (la_A s) s.heap H locs) {ls : Array Slot} (hl : lv_has ls 4 [(0, .ref bs), (1, .ref o), (2, .ref mo), (3, .int (nI ii))]) {Q : State → Prop} (kk : ∀ (C1 : Nat → st_T) (M1 : st_T) (t1 : tm_T) (H1 : Heap) (locs1 : List Loc), la_I n ro C1 M1 t1 (ii + 7) → va_P D vwCl (la_W o rw n gq bb ad ro mo r cI cZ cR C1 M1 C1 M1 t1) H1 → va_D (la_A s) (la_W o rw n gq bb ad ro mo r cI cZ cR C1 M1 C1 M1 t1) → va_S (la_A s) s.heap H1 locs1 → W p l e room_1 s m #[Value.ref bs] below meth c H1 locs1 62 1255 Q (F0 m 627 ls [])) : W p l e room_1 s m #[Value.ref bs] below meth c H locs 62 1255 Q (F0 m 568 ls []) := by
  obtain ⟨hx, hb, hml, hown, hg, hX, hbl, hK, hN, hL⟩ := X
  obtain ⟨hn, hro, hgq⟩ := G
  have hn4 : n ≤ 4 := by omega
  have hbA : ¬ la_A s bs := fun q => absurd q (by show ¬ s.heap.size ≤ bs; omega)
  have hA : ∀ q, s.heap.size ≤ q → la_A s q := fun q h => h
  obtain ⟨kc, hkc, hcore⟩ := la_kc (n := n) (0) (by omega) hn4
  have hIk := hI.1 kc hkc
  have hT := hI.2.1
  have hB := hI.2.2
  refine lv_aload_n hx hb dL_law_568 rfl (lv_at hl 1 rfl) ?_
  refine lv_aload_n hx hb dL_law_569 rfl (lv_at hl 0 rfl) ?_
  refine lv_iload_n hx hb dL_law_570 rfl (lv_at hl 3 rfl) ?_
  refine lv_iconst (v := 1) hx hb dL_law_571 (by decide) ?_
  refine lv_iadd hx hb dL_law_572 ?_
  refine me_t (x := nI (ii) + 1) (y := nI (ii + 1)) (nI_add ii 1) ?_
  refine me_sld hx hb hX hbl hbA hS (ii + 1) rfl (by omega) (by omega) dL_law_573 ?_
  have hrec : ∃ cellB : Cell, H[o]? = some cellB ∧ cellB.vm.isStatics = false ∧ s.vm.findClass RX3 = some cellB.cls := va_recv (q0 := 0) (ci := 3) hK hP rfl rfl
  have hP1 := me_permP (la_p1 hkc) hP
  have hD1 := me_permD (la_p1 hkc) hD
  refine me_goIp (wr := w_cr ad cI ro C ((List.range n).erase kc) ++ w_re mo r cI n ro C M tm) (wc := w_ba o rw cR n gq bb ++ w_sh bb cI cZ M ++ w_co (ad kc) cI (C kc) ++ w_bu (ad kc) cI ro (C kc)) (w1 := w_ba o rw cR n gq bb ++ w_sh bb cI cZ M ++ w_co (ad kc) cI (C kc) ++ w_bu (ad kc) cI ro (C kc)) (va_runV (C := RX3) (b := o) (As := [.int (xs (ii + 1))]) (rest := []) ⟨hx, hb, hml, hown, hg⟩ (c_sb_storage l D cI cZ cR o rw n gq bb (ad kc) ro (C kc) M kc hkc hn4 (hgq kc hkc) hro hIk (xs (ii + 1)) H.size) (cwV 1 hg (bg_gV (fun _ h => h) bw_2_15 bw_2_16 bw_2_17 bw_1_1 bw_2_18) rfl rfl rfl (by decide +kernel) ⟨Nat.le_of_ble_eq_true rfl, Nat.le_of_ble_eq_true rfl⟩) (me_preVp (wr := w_cr ad cI ro C ((List.range n).erase kc) ++ w_re mo r cI n ro C M tm) (wc := w_ba o rw cR n gq bb ++ w_sh bb cI cZ M ++ w_co (ad kc) cI (C kc) ++ w_bu (ad kc) cI ro (C kc)) hP1 hD1 hK hN hrec) rfl rfl hl.1 rfl (lv_room (Nat.le_of_ble_eq_true rfl)) dL_law_574 ⟨Nat.le_of_ble_eq_true rfl, Nat.le_of_ble_eq_true rfl⟩) hP1 hD1 hS hA (fun H locs hP hD hS => ?_)
  have hP := me_permP (la_p2 hkc (C kc)) hP
  have hD := me_permD (la_p2 hkc (C kc)) hD
  rw [st_upK (C := C) (kc := kc) rfl] at hP hD
  refine lv_aload_n hx hb dL_law_577 rfl (lv_at hl 2 rfl) ?_
  refine lv_aload_n hx hb dL_law_578 rfl (lv_at hl 0 rfl) ?_
  refine lv_iload_n hx hb dL_law_579 rfl (lv_at hl 3 rfl) ?_
  refine lv_iconst (v := 1) hx hb dL_law_580 (by decide) ?_
  refine lv_iadd hx hb dL_law_581 ?_
  refine me_t (x := nI (ii) + 1) (y := nI (ii + 1)) (nI_add ii 1) ?_
  refine me_sld hx hb hX hbl hbA hS (ii + 1) rfl (by omega) (by omega) dL_law_582 ?_
  have hrec : ∃ cellB : Cell, H[mo]? = some cellB ∧ cellB.vm.isStatics = false ∧ s.vm.findClass RX4 = some cellB.cls := va_recv (q0 := 0) (ci := 4) hK (me_permP List.perm_append_comm hP) rfl rfl
  refine me_goIp (wr := w_ba o rw cR n gq bb ++ w_sh bb cI cZ M ++ w_cr ad cI ro C (List.range n)) (wc := w_re mo r cI n ro C M tm) (w1 := w_re mo r cI n ro C M tm) (va_runV (C := RX4) (b := mo) (As := [.int (xs (ii + 1))]) (rest := [.int (me_sw (me_in (xs (ii + 1)) 32) (M 1 (xs (ii + 1)).toNatClampNeg) 0)]) ⟨hx, hb, hml, hown, hg⟩ (c_mo_storage l D cI cZ cR mo n r ro C (C kc) M tm kc rfl hkc hn4 hro hIk (xs (ii + 1)) H.size) (cwV 1 hg (bg_gV (fun _ h => h) bw_2_182 bw_2_183 bw_2_184 bw_1_5 bw_2_185) rfl rfl rfl (by decide +kernel) ⟨Nat.le_of_ble_eq_true rfl, Nat.le_of_ble_eq_true rfl⟩) (me_preVp (wr := w_ba o rw cR n gq bb ++ w_sh bb cI cZ M ++ w_cr ad cI ro C (List.range n)) (wc := w_re mo r cI n ro C M tm) hP hD hK hN hrec) rfl rfl hl.1 rfl (lv_room (Nat.le_of_ble_eq_true rfl)) dL_law_583 ⟨Nat.le_of_ble_eq_true rfl, Nat.le_of_ble_eq_true rfl⟩) hP hD hS hA (fun H locs hP hD hS => ?_)
  refine lv_icmp_eq (tgt := 627) hx hb dL_law_586 (by decide) (fun _ => ?_) (fun q => absurd rfl q)
  exact kk (C) (M) (tm) _ _ (la_Isame hI hT (by omega)) hP hD hS
set_option maxHeartbeats 4000000 in
set_option maxRecDepth 100000 in
theorem law_15 (l : Launch) {p : Program} {e : Env} {s : State} {m : MethodId} {below : List Frame} {meth : Method} {c : Code} {bs L : Nat} {xs : Nat → Int32} {D : va_G} {cI cZ cR : ClassId} (X : la_C p s m c bs L xs D cI cZ cR) {o rw n : Nat} {gq : Nat → Option Nat} {bb : Nat → Nat} {ad : Nat → Nat → Nat} {ro mo : Nat} {r : Nat → Nat} (G : la_G n ro gq ad) {C : Nat → st_T} {M : st_T} {tm : tm_T} {ii : Nat} (hI : la_I n ro C M tm ii) (hi : ii + 7 ≤ L) {H : Heap} {locs : List Loc} (hP : va_P D vwCl (la_W o rw n gq bb ad ro mo r cI cZ cR C M C M tm) H) (hD : va_D (la_A s) (la_W o rw n gq bb ad ro mo r cI cZ cR C M C M tm)) (hS : va_S (la_A s) s.heap H locs) {ls : Array Slot} (hl : lv_has ls 4 [(0, .ref bs), (1, .ref o), (2, .ref mo), (3, .int (nI ii))]) {Q : State → Prop} (kk : ∀ (C1 : Nat → st_T) (M1 : st_T) (t1 : tm_T) (H1 : Heap) (locs1 : List Loc), la_I n ro C1 M1 t1 (ii + 7) → va_P D vwCl (la_W o rw n gq bb ad ro mo r cI cZ cR C1 M1 C1 M1 t1) H1 → va_D (la_A s) (la_W o rw n gq bb ad ro mo r cI cZ cR C1 M1 C1 M1 t1) → va_S (la_A s) s.heap H1 locs1 → W p l e room_1 s m #[Value.ref bs] below meth c H1 locs1 62 1255 Q (F0 m 627 ls [])) : W p l e room_1 s m #[Value.ref bs] below meth c H locs 62 1255 Q (F0 m 591 ls []) := by
  obtain ⟨hx, hb, hml, hown, hg, hX, hbl, hK, hN, hL⟩ := X
  obtain ⟨hn, hro, hgq⟩ := G
  have hn4 : n ≤ 4 := by omega
  have hbA : ¬ la_A s bs := fun q => absurd q (by show ¬ s.heap.size ≤ bs; omega)
  have hA : ∀ q, s.heap.size ≤ q → la_A s q := fun q h => h
  obtain ⟨kc, hkc, hcore⟩ := la_kc (n := n) (0) (by omega) hn4
  have hIk := hI.1 kc hkc
  have hT := hI.2.1
  have hB := hI.2.2
  refine lv_aload_n hx hb dL_law_591 rfl (lv_at hl 1 rfl) ?_
  refine lv_aload_n hx hb dL_law_592 rfl (lv_at hl 0 rfl) ?_
  refine lv_iload_n hx hb dL_law_593 rfl (lv_at hl 3 rfl) ?_
  refine lv_iconst (v := 1) hx hb dL_law_594 (by decide) ?_
  refine lv_iadd hx hb dL_law_595 ?_
  refine me_t (x := nI (ii) + 1) (y := nI (ii + 1)) (nI_add ii 1) ?_
  refine me_sld hx hb hX hbl hbA hS (ii + 1) rfl (by omega) (by omega) dL_law_596 ?_
  have hrec : ∃ cellB : Cell, H[o]? = some cellB ∧ cellB.vm.isStatics = false ∧ s.vm.findClass RX3 = some cellB.cls := va_recv (q0 := 0) (ci := 3) hK hP rfl rfl
  have hP1 := me_permP (la_p1 hkc) hP
  have hD1 := me_permD (la_p1 hkc) hD
  refine me_goIp (wr := w_cr ad cI ro C ((List.range n).erase kc) ++ w_re mo r cI n ro C M tm) (wc := w_ba o rw cR n gq bb ++ w_sh bb cI cZ M ++ w_co (ad kc) cI (C kc) ++ w_bu (ad kc) cI ro (C kc)) (w1 := w_ba o rw cR n gq bb ++ w_sh bb cI cZ M ++ w_co (ad kc) cI (C kc) ++ w_bu (ad kc) cI ro (C kc)) (va_runV (C := RX3) (b := o) (As := [.int (xs (ii + 1))]) (rest := []) ⟨hx, hb, hml, hown, hg⟩ (c_sb_dirty l D cI cZ cR o rw n gq bb (ad kc) ro (C kc) M kc hkc hn4 (hgq kc hkc) hro hIk (xs (ii + 1)) H.size) (cwV 1 hg (bg_gV (fun _ h => h) bw_2_19 bw_2_20 bw_2_21 bw_1_1 bw_2_22) rfl rfl rfl (by decide +kernel) ⟨Nat.le_of_ble_eq_true rfl, Nat.le_of_ble_eq_true rfl⟩) (me_preVp (wr := w_cr ad cI ro C ((List.range n).erase kc) ++ w_re mo r cI n ro C M tm) (wc := w_ba o rw cR n gq bb ++ w_sh bb cI cZ M ++ w_co (ad kc) cI (C kc) ++ w_bu (ad kc) cI ro (C kc)) hP1 hD1 hK hN hrec) rfl rfl hl.1 rfl (lv_room (Nat.le_of_ble_eq_true rfl)) dL_law_597 ⟨Nat.le_of_ble_eq_true rfl, Nat.le_of_ble_eq_true rfl⟩) hP1 hD1 hS hA (fun H locs hP hD hS => ?_)
  have hP := me_permP (la_p2 hkc (C kc)) hP
  have hD := me_permD (la_p2 hkc (C kc)) hD
  rw [st_upK (C := C) (kc := kc) rfl] at hP hD
  refine lv_aload_n hx hb dL_law_600 rfl (lv_at hl 2 rfl) ?_
  refine lv_aload_n hx hb dL_law_601 rfl (lv_at hl 0 rfl) ?_
  refine lv_iload_n hx hb dL_law_602 rfl (lv_at hl 3 rfl) ?_
  refine lv_iconst (v := 1) hx hb dL_law_603 (by decide) ?_
  refine lv_iadd hx hb dL_law_604 ?_
  refine me_t (x := nI (ii) + 1) (y := nI (ii + 1)) (nI_add ii 1) ?_
  refine me_sld hx hb hX hbl hbA hS (ii + 1) rfl (by omega) (by omega) dL_law_605 ?_
  have hrec : ∃ cellB : Cell, H[mo]? = some cellB ∧ cellB.vm.isStatics = false ∧ s.vm.findClass RX4 = some cellB.cls := va_recv (q0 := 0) (ci := 4) hK (me_permP List.perm_append_comm hP) rfl rfl
  refine me_goIp (wr := w_ba o rw cR n gq bb ++ w_sh bb cI cZ M ++ w_cr ad cI ro C (List.range n)) (wc := w_re mo r cI n ro C M tm) (w1 := w_re mo r cI n ro C M tm) (va_runV (C := RX4) (b := mo) (As := [.int (xs (ii + 1))]) (rest := [.int (me_b (me_in (xs (ii + 1)) 8 ∧ ¬ M 2 (xs (ii + 1)).toNatClampNeg = 0))]) ⟨hx, hb, hml, hown, hg⟩ (c_mo_dirty l D cI cZ cR mo n r ro C (C kc) M tm kc rfl hkc hn4 hro hIk (xs (ii + 1)) hT H.size) (cwV 1 hg (bg_gV (fun _ h => h) bw_2_111 bw_2_112 bw_2_113 bw_1_5 bw_2_114) rfl rfl rfl (by decide +kernel) ⟨Nat.le_of_ble_eq_true rfl, Nat.le_of_ble_eq_true rfl⟩) (me_preVp (wr := w_ba o rw cR n gq bb ++ w_sh bb cI cZ M ++ w_cr ad cI ro C (List.range n)) (wc := w_re mo r cI n ro C M tm) hP hD hK hN hrec) rfl rfl hl.1 rfl (lv_room (Nat.le_of_ble_eq_true rfl)) dL_law_606 ⟨Nat.le_of_ble_eq_true rfl, Nat.le_of_ble_eq_true rfl⟩) hP hD hS hA (fun H locs hP hD hS => ?_)
  refine lv_icmp_eq (tgt := 627) hx hb dL_law_609 (by decide) (fun _ => ?_) (fun q => absurd rfl q)
  exact kk (C) (M) (tm) _ _ (la_Isame hI hT (by omega)) hP hD hS
set_option maxHeartbeats 4000000 in
set_option maxRecDepth 100000 in
theorem law_16 (l : Launch) {p : Program} {e : Env} {s : State} {m : MethodId} {below : List Frame} {meth : Method} {c : Code} {bs L : Nat} {xs : Nat → Int32} {D : va_G} {cI cZ cR : ClassId} (X : la_C p s m c bs L xs D cI cZ cR) {o rw n : Nat} {gq : Nat → Option Nat} {bb : Nat → Nat} {ad : Nat → Nat → Nat} {ro mo : Nat} {r : Nat → Nat} (G : la_G n ro gq ad) {C : Nat → st_T} {M : st_T} {tm : tm_T} {ii : Nat} (hI : la_I n ro C M tm ii) (hi : ii + 7 ≤ L) {H : Heap} {locs : List Loc} (hP : va_P D vwCl (la_W o rw n gq bb ad ro mo r cI cZ cR C M C M tm) H) (hD : va_D (la_A s) (la_W o rw n gq bb ad ro mo r cI cZ cR C M C M tm)) (hS : va_S (la_A s) s.heap H locs) {ls : Array Slot} (hl : lv_has ls 4 [(0, .ref bs), (1, .ref o), (2, .ref mo), (3, .int (nI ii))]) {Q : State → Prop} (kk : ∀ (C1 : Nat → st_T) (M1 : st_T) (t1 : tm_T) (H1 : Heap) (locs1 : List Loc), la_I n ro C1 M1 t1 (ii + 7) → va_P D vwCl (la_W o rw n gq bb ad ro mo r cI cZ cR C1 M1 C1 M1 t1) H1 → va_D (la_A s) (la_W o rw n gq bb ad ro mo r cI cZ cR C1 M1 C1 M1 t1) → va_S (la_A s) s.heap H1 locs1 → W p l e room_1 s m #[Value.ref bs] below meth c H1 locs1 62 1255 Q (F0 m 627 ls [])) : W p l e room_1 s m #[Value.ref bs] below meth c H locs 62 1255 Q (F0 m 614 ls []) := by
  obtain ⟨hx, hb, hml, hown, hg, hX, hbl, hK, hN, hL⟩ := X
  obtain ⟨hn, hro, hgq⟩ := G
  have hn4 : n ≤ 4 := by omega
  have hbA : ¬ la_A s bs := fun q => absurd q (by show ¬ s.heap.size ≤ bs; omega)
  have hA : ∀ q, s.heap.size ≤ q → la_A s q := fun q h => h
  obtain ⟨kc, hkc, hcore⟩ := la_kc (n := n) (0) (by omega) hn4
  have hIk := hI.1 kc hkc
  have hT := hI.2.1
  have hB := hI.2.2
  refine lv_aload_n hx hb dL_law_614 rfl (lv_at hl 1 rfl) ?_
  have hrec : ∃ cellB : Cell, H[o]? = some cellB ∧ cellB.vm.isStatics = false ∧ s.vm.findClass RX3 = some cellB.cls := va_recv (q0 := 0) (ci := 3) hK hP rfl rfl
  have hP1 := me_permP (la_p1 hkc) hP
  have hD1 := me_permD (la_p1 hkc) hD
  refine me_goIp (wr := w_cr ad cI ro C ((List.range n).erase kc) ++ w_re mo r cI n ro C M tm) (wc := w_ba o rw cR n gq bb ++ w_sh bb cI cZ M ++ w_co (ad kc) cI (C kc) ++ w_bu (ad kc) cI ro (C kc)) (w1 := w_ba o rw cR n gq bb ++ w_sh bb cI cZ M ++ w_co (ad kc) cI (C kc) ++ w_bu (ad kc) cI ro (C kc)) (va_runV (C := RX3) (b := o) (As := []) (rest := []) ⟨hx, hb, hml, hown, hg⟩ (c_sb_cores l D cI cZ cR o rw n gq bb (ad kc) ro (C kc) M kc hkc hn4 (hgq kc hkc) hro hIk H.size) (cwV 0 hg (bg_gV (fun _ h => h) bw_2_23 bw_2_24 bw_2_25 bw_1_1 bw_2_26) rfl rfl rfl (by decide +kernel) ⟨Nat.le_of_ble_eq_true rfl, Nat.le_of_ble_eq_true rfl⟩) (me_preVp (wr := w_cr ad cI ro C ((List.range n).erase kc) ++ w_re mo r cI n ro C M tm) (wc := w_ba o rw cR n gq bb ++ w_sh bb cI cZ M ++ w_co (ad kc) cI (C kc) ++ w_bu (ad kc) cI ro (C kc)) hP1 hD1 hK hN hrec) rfl rfl hl.1 rfl (lv_room (Nat.le_of_ble_eq_true rfl)) dL_law_615 ⟨Nat.le_of_ble_eq_true rfl, Nat.le_of_ble_eq_true rfl⟩) hP1 hD1 hS hA (fun H locs hP hD hS => ?_)
  have hP := me_permP (la_p2 hkc (C kc)) hP
  have hD := me_permD (la_p2 hkc (C kc)) hD
  rw [st_upK (C := C) (kc := kc) rfl] at hP hD
  refine lv_aload_n hx hb dL_law_618 rfl (lv_at hl 2 rfl) ?_
  have hrec : ∃ cellB : Cell, H[mo]? = some cellB ∧ cellB.vm.isStatics = false ∧ s.vm.findClass RX4 = some cellB.cls := va_recv (q0 := 0) (ci := 4) hK (me_permP List.perm_append_comm hP) rfl rfl
  refine me_goIp (wr := w_ba o rw cR n gq bb ++ w_sh bb cI cZ M ++ w_cr ad cI ro C (List.range n)) (wc := w_re mo r cI n ro C M tm) (w1 := w_re mo r cI n ro C M tm) (va_runV (C := RX4) (b := mo) (As := []) (rest := [.int (nI n)]) ⟨hx, hb, hml, hown, hg⟩ (c_mo_cores l D cI cZ cR mo n r ro C (C kc) M tm kc rfl hkc hn4 hro hIk H.size) (cwV 0 hg (bg_gV (fun _ h => h) bw_2_186 bw_2_187 bw_2_188 bw_1_5 bw_2_189) rfl rfl rfl (by decide +kernel) ⟨Nat.le_of_ble_eq_true rfl, Nat.le_of_ble_eq_true rfl⟩) (me_preVp (wr := w_ba o rw cR n gq bb ++ w_sh bb cI cZ M ++ w_cr ad cI ro C (List.range n)) (wc := w_re mo r cI n ro C M tm) hP hD hK hN hrec) rfl rfl hl.1 rfl (lv_room (Nat.le_of_ble_eq_true rfl)) dL_law_619 ⟨Nat.le_of_ble_eq_true rfl, Nat.le_of_ble_eq_true rfl⟩) hP hD hS hA (fun H locs hP hD hS => ?_)
  refine lv_icmp_eq (tgt := 627) hx hb dL_law_622 (by decide) (fun _ => ?_) (fun q => absurd rfl q)
  exact kk (C) (M) (tm) _ _ (la_Isame hI hT (by omega)) hP hD hS
