set_option maxHeartbeats 2000000 in
set_option maxRecDepth 100000 in
theorem lc_set {p : Program} {e : Env} {s : State} {m : MethodId} {below : List Frame} {meth : Method} {cod : Code} {l : Launch} {G : kG} {b L0 i : Nat} {xs : Nat → Int32} {z t o a1 a2 a3 a4 q b1 b2 t2 o2 d1 d2 d3 d4 q2 d5 d6 h st : Nat} {y0 y1 y2 y3 y4 : Nat → Nat} {x g1 g2 g3 mo u0 u1 u2 u3 u4 u5 : Nat} {H : Heap} {locs : List Loc} {ls : Array Slot} (hL0 : L0 ≤ 2048) (C0 : lw_At p s m meth cod b L0 xs) (hK : KK G s) (hi : i + 4 ≤ L0) (hI : LI G (fun q9 : Nat => s.heap.size ≤ q9) z t o a1 a2 a3 a4 q b1 b2 t2 o2 d1 d2 d3 d4 q2 d5 d6 h st y0 y1 y2 y3 y4 x g1 g2 g3 mo u0 u1 u2 u3 u4 u5 H) (hS : va_S (fun q9 : Nat => s.heap.size ≤ q9) s.heap H locs) (hl : lv_has ls 4 [(0, .ref b), (1, .ref z), (2, .ref mo), (3, .int (nI i))]) (kk : ∀ (H : Heap) (locs : List Loc) (ls : Array Slot), LI G (fun q9 : Nat => s.heap.size ≤ q9) z t o a1 a2 a3 a4 q b1 b2 t2 o2 d1 d2 d3 d4 q2 d5 d6 h st y0 y1 y2 y3 y4 x g1 g2 g3 mo u0 u1 u2 u3 u4 u5 H → va_S (fun q9 : Nat => s.heap.size ≤ q9) s.heap H locs → lv_has ls 4 [(0, .ref b), (1, .ref z), (2, .ref mo), (3, .int (nI i))] → W p l e room_1 s m #[Value.ref b] below meth cod H locs 57 12040 (lw_Z below #[Value.ref b] s) (F0 m 571 ls [])) : W p l e room_1 s m #[Value.ref b] below meth cod H locs 57 12040 (lw_Z below #[Value.ref b] s) (F0 m 147 ls []) := by
  have hq0 := C0
  obtain ⟨hx, hb, hr, hml, hown, hts0, hX, hbl, hlocks, hgv⟩ := hq0
  have hts : ∀ w ∈ wsL_law, w.before #[Value.ref b] s = true := fun w hw => hts0 w (wsL_law_in w hw)
  generalize hA9 : (fun q9 : Nat => s.heap.size ≤ q9) = A at hS hI kk
  have hbA : ¬ A b := by rw [← hA9]; exact Nat.not_le.mpr hbl
  obtain ⟨σ, φ, cv, cm, cvf, cmf, k, sz, cs, L, pl, nu, np, rr, tx, td, tv, sm, sa, le, ra, fa, txm, nw, bf, sts, mk, vl, hLF, hP, hD⟩ := hI
  have hcop := hLF
  obtain ⟨⟨hB, hv, hm, hJ, hFu⟩, hR, ⟨hBf, hvf, hmf⟩, hHF, hTF⟩ := hcop
  have hcop2 := hHF
  obtain ⟨hk, hsz, hcs, hsm1, hsa1, hhs⟩ := hcop2
  have hcop3 := hTF
  obtain ⟨hL, ht, htp, htd, htv, hle1, htx1⟩ := hcop3
  have h24 := hB.n
  have hsm : sm ≤ 5 := by omega
  have hsa : sa < 5 := by rw [hsa1]; exact rgt_lt _ _
  have hle : le ≤ 100 := by omega
  by_cases hbad : inr (xs (i + 1)) 0 ((nn σ : Int) - 1) = false ∨ inr (xs (i + 2)) 0 15 = false ∨ inr (xs (i + 3)) 0 99 = false
  · refine lv_aload_n hx hb dL_law_147 rfl (lv_at hl 1 rfl) ?_
    refine lv_aload_n hx hb dL_law_148 rfl (lv_at hl 0 rfl) ?_
    refine lv_iload_n hx hb dL_law_149 rfl (lv_at hl 3 rfl) ?_
    refine lv_iconst (v := (nI 1)) hx hb dL_law_150 (by decide) ?_
    refine r_iadd (v := i + 1) hx hb dL_law_151 rfl ?_
    refine va_sld hx hb hX hbl hbA hS (vp_in_nI (by omega) (by omega)) dL_law_152 ?_
    refine r_top (y := (xs (i + 1))) ((congrArg xs (nI_clamp (by omega))).trans rfl) ?_
    refine lv_aload_n hx hb dL_law_153 rfl (lv_at hl 0 rfl) ?_
    refine lv_iload_n hx hb dL_law_154 rfl (lv_at hl 3 rfl) ?_
    refine lv_iconst (v := (nI 2)) hx hb dL_law_155 (by decide) ?_
    refine r_iadd (v := i + 2) hx hb dL_law_156 rfl ?_
    refine va_sld hx hb hX hbl hbA hS (vp_in_nI (by omega) (by omega)) dL_law_157 ?_
    refine r_top (y := (xs (i + 2))) ((congrArg xs (nI_clamp (by omega))).trans rfl) ?_
    refine lv_aload_n hx hb dL_law_158 rfl (lv_at hl 0 rfl) ?_
    refine lv_iload_n hx hb dL_law_159 rfl (lv_at hl 3 rfl) ?_
    refine lv_iconst (v := (nI 3)) hx hb dL_law_160 (by decide) ?_
    refine r_iadd (v := i + 3) hx hb dL_law_161 rfl ?_
    refine va_sld hx hb hX hbl hbA hS (vp_in_nI (by omega) (by omega)) dL_law_162 ?_
    refine r_top (y := (xs (i + 3))) ((congrArg xs (nI_clamp (by omega))).trans rfl) ?_
    refine g_ro (k_V (q0 := 0) (ci := 5) (n := 3) (As := [.int (xs (i + 1)), .int (xs (i + 2)), .int (xs (i + 3))]) (rest := []) (wc := [ob z 5 [.ref t, .ref t2, .ref h, .ref x], ob t 3 [.ref o, .ref q], ob o 1 [.int (nI (nn σ)), .ref a1, .ref a2, .ref a3, .ref a4]]) hx hb hml hown hts (c_X5_set_bad (l := l) (G := G) (z := z) (t := t) (t2 := t2) (h := h) (x := x) (o := o) (a1 := a1) (a2 := a2) (a3 := a3) (a4 := a4) (q := q) (n0 := nn σ) (xa := xs (i + 1)) (xb := xs (i + 2)) (xc := xs (i + 3)) (hn := h24) (hbad := by first | assumption | omega))  gL_law_X5_set rfl rfl rfl (by decide +kernel) ⟨Nat.le_of_ble_eq_true rfl, Nat.le_of_ble_eq_true rfl⟩ rfl hK hP hD [0, 1, 2] rfl (by decide)  rfl rfl rfl hl.1 rfl (Nat.le_of_ble_eq_true rfl) dL_law_163 ⟨Nat.le_of_ble_eq_true rfl, Nat.le_of_ble_eq_true rfl⟩) (fun r163 h163 => ?_)
    obtain rfl : (-1) = r163 := Eq.symm h163
    refine lv_aload_n hx hb dL_law_166 rfl (lv_at hl 2 rfl) ?_
    refine lv_aload_n hx hb dL_law_167 rfl (lv_at hl 0 rfl) ?_
    refine lv_iload_n hx hb dL_law_168 rfl (lv_at hl 3 rfl) ?_
    refine lv_iconst (v := (nI 1)) hx hb dL_law_169 (by decide) ?_
    refine r_iadd (v := i + 1) hx hb dL_law_170 rfl ?_
    refine va_sld hx hb hX hbl hbA hS (vp_in_nI (by omega) (by omega)) dL_law_171 ?_
    refine r_top (y := (xs (i + 1))) ((congrArg xs (nI_clamp (by omega))).trans rfl) ?_
    refine lv_aload_n hx hb dL_law_172 rfl (lv_at hl 0 rfl) ?_
    refine lv_iload_n hx hb dL_law_173 rfl (lv_at hl 3 rfl) ?_
    refine lv_iconst (v := (nI 2)) hx hb dL_law_174 (by decide) ?_
    refine r_iadd (v := i + 2) hx hb dL_law_175 rfl ?_
    refine va_sld hx hb hX hbl hbA hS (vp_in_nI (by omega) (by omega)) dL_law_176 ?_
    refine r_top (y := (xs (i + 2))) ((congrArg xs (nI_clamp (by omega))).trans rfl) ?_
    refine lv_aload_n hx hb dL_law_177 rfl (lv_at hl 0 rfl) ?_
    refine lv_iload_n hx hb dL_law_178 rfl (lv_at hl 3 rfl) ?_
    refine lv_iconst (v := (nI 3)) hx hb dL_law_179 (by decide) ?_
    refine r_iadd (v := i + 3) hx hb dL_law_180 rfl ?_
    refine va_sld hx hb hX hbl hbA hS (vp_in_nI (by omega) (by omega)) dL_law_181 ?_
    refine r_top (y := (xs (i + 3))) ((congrArg xs (nI_clamp (by omega))).trans rfl) ?_
    have hPc := bl_sub hP (is := [10, 11]) (bc := [[ob mo 6 [.ref u0, .ref u1, .ref u2, .ref u3, .ref u4, .ref u5, .int (nI sm), .int (nI sa), .int (nI le), .int (nI ra), .int (nI fa)]], [ar G u0 481 nw]]) rfl
    have hDc := bl_subD hD [10, 11] [[ob mo 6 [.ref u0, .ref u1, .ref u2, .ref u3, .ref u4, .ref u5, .int (nI sm), .int (nI sa), .int (nI le), .int (nI ra), .int (nI fa)]], [ar G u0 481 nw]] (by decide) rfl
    refine g_ro (k_W (q0 := 0) (ci := 6) (n := 3) (As := [.int (xs (i + 1)), .int (xs (i + 2)), .int (xs (i + 3))]) (rest := [.int (-1)]) hx hb hml hown hts (c_X6_set_bad (l := l) (G := G) (mo := mo) (u0 := u0) (u1 := u1) (u2 := u2) (u3 := u3) (u4 := u4) (u5 := u5) (sm := sm) (sa := sa) (le := le) (ra := ra) (fa := fa) (σ := σ) (nw := nw) (hR := hR) (hB := hB) (xa := xs (i + 1)) (xb := xs (i + 2)) (xc := xs (i + 3)) (hbad := by first | assumption | omega)) gL_law_X6_set rfl rfl rfl (by decide +kernel) ⟨Nat.le_of_ble_eq_true rfl, Nat.le_of_ble_eq_true rfl⟩ rfl hK hPc hDc rfl rfl rfl hl.1 rfl (Nat.le_of_ble_eq_true rfl) dL_law_182 ⟨Nat.le_of_ble_eq_true rfl, Nat.le_of_ble_eq_true rfl⟩) (fun r182 h182 => ?_)
    obtain rfl : (-1) = r182 := Eq.symm h182
    refine r_icmp_eq (P := (-1) = (-1)) (tgt := 571) hx hb dL_law_185 (by decide) (Iff.rfl) (fun cq185 => ?_) (fun cq185 => ?_)
    · exact kk H locs ls ⟨σ, φ, cv, cm, cvf, cmf, k, sz, cs, L, pl, nu, np, rr, tx, td, tv, sm, sa, le, ra, fa, txm, nw, bf, sts, mk, vl, hLF, hP, hD⟩ hS hl
    · exact absurd (rfl) cq185
  · obtain ⟨r, hr9, er⟩ := row_n (Bool.of_not_eq_false (fun z => hbad (Or.inl z)))
    obtain ⟨c, hc9, ec⟩ := inr_n (b := 15) (Bool.of_not_eq_false (fun z => hbad (Or.inr (Or.inl z))))
    obtain ⟨v, hv9, ev⟩ := inr_n (b := 99) (Bool.of_not_eq_false (fun z => hbad (Or.inr (Or.inr z))))
    obtain ⟨so1, so2, so3, so4⟩ := set_ok (cv := cv) (cm := cm) (r := r) (c := c) (v := v) hB hJ hFu hr9 (by omega) (by omega)
    · refine lv_aload_n hx hb dL_law_147 rfl (lv_at hl 1 rfl) ?_
      refine lv_aload_n hx hb dL_law_148 rfl (lv_at hl 0 rfl) ?_
      refine lv_iload_n hx hb dL_law_149 rfl (lv_at hl 3 rfl) ?_
      refine lv_iconst (v := (nI 1)) hx hb dL_law_150 (by decide) ?_
      refine r_iadd (v := i + 1) hx hb dL_law_151 rfl ?_
      refine va_sld hx hb hX hbl hbA hS (vp_in_nI (by omega) (by omega)) dL_law_152 ?_
      refine r_top (y := (nI r)) ((congrArg xs (nI_clamp (by omega))).trans er) ?_
      refine lv_aload_n hx hb dL_law_153 rfl (lv_at hl 0 rfl) ?_
      refine lv_iload_n hx hb dL_law_154 rfl (lv_at hl 3 rfl) ?_
      refine lv_iconst (v := (nI 2)) hx hb dL_law_155 (by decide) ?_
      refine r_iadd (v := i + 2) hx hb dL_law_156 rfl ?_
      refine va_sld hx hb hX hbl hbA hS (vp_in_nI (by omega) (by omega)) dL_law_157 ?_
      refine r_top (y := (nI c)) ((congrArg xs (nI_clamp (by omega))).trans ec) ?_
      refine lv_aload_n hx hb dL_law_158 rfl (lv_at hl 0 rfl) ?_
      refine lv_iload_n hx hb dL_law_159 rfl (lv_at hl 3 rfl) ?_
      refine lv_iconst (v := (nI 3)) hx hb dL_law_160 (by decide) ?_
      refine r_iadd (v := i + 3) hx hb dL_law_161 rfl ?_
      refine va_sld hx hb hX hbl hbA hS (vp_in_nI (by omega) (by omega)) dL_law_162 ?_
      refine r_top (y := (nI v)) ((congrArg xs (nI_clamp (by omega))).trans ev) ?_
      have hPc := bl_sub hP (is := [0, 1, 2, 3, 7, 8]) (bc := [[ob z 5 [.ref t, .ref t2, .ref h, .ref x]], [ob t 3 [.ref o, .ref q]], wS G o a1 a2 a3 a4 σ, wT G q b1 b2 cv cm, [ob h 0 [.int (nI sz), .ref st], arS G st 5 (fun j => some (y0 (rgt k j)))], wHs G y0 y1 y2 y3 y4 cs]) rfl
      have hDc := bl_subD hD [0, 1, 2, 3, 7, 8] [[ob z 5 [.ref t, .ref t2, .ref h, .ref x]], [ob t 3 [.ref o, .ref q]], wS G o a1 a2 a3 a4 σ, wT G q b1 b2 cv cm, [ob h 0 [.int (nI sz), .ref st], arS G st 5 (fun j => some (y0 (rgt k j)))], wHs G y0 y1 y2 y3 y4 cs] (by decide) rfl
      refine g_IB (bc := [[ob z 5 [.ref t, .ref t2, .ref h, .ref x]], [ob t 3 [.ref o, .ref q]], wS G o a1 a2 a3 a4 σ, wT G q b1 b2 cv cm, [ob h 0 [.int (nI sz), .ref st], arS G st 5 (fun j => some (y0 (rgt k j)))], wHs G y0 y1 y2 y3 y4 cs]) (k_W (q0 := 0) (ci := 5) (n := 3) (As := [.int (nI r), .int (nI c), .int (nI v)]) (rest := []) hx hb hml hown hts (c_X5_set_ok (l := l) (G := G) (z := z) (t := t) (t2 := t2) (h := h) (x := x) (o := o) (a1 := a1) (a2 := a2) (a3 := a3) (a4 := a4) (σ := σ) (q := q) (b1 := b1) (b2 := b2) (cv := cv) (cm := cm) (st := st) (y0 := y0) (y1 := y1) (y2 := y2) (y3 := y3) (y4 := y4) (k := k) (sz := sz) (cs := cs) (hk := by first | assumption | omega) (hsz := by first | assumption | omega) (hB := by first | assumption | omega) (hv := by first | assumption | omega) (hm := by first | assumption | omega) (r := r) (c := c) (v := v) (hr := by first | assumption | omega) (hc := by first | assumption | omega) (hv9 := by first | assumption | omega)) gL_law_X5_set rfl rfl rfl (by decide +kernel) ⟨Nat.le_of_ble_eq_true rfl, Nat.le_of_ble_eq_true rfl⟩ rfl hK hPc hDc rfl rfl rfl hl.1 rfl (Nat.le_of_ble_eq_true rfl) dL_law_163 ⟨Nat.le_of_ble_eq_true rfl, Nat.le_of_ble_eq_true rfl⟩) hP hD hS [0, 1, 2, 3, 7, 8] (by decide) rfl (fun r163 H locs hB163 back hS => ?_)
      obtain ⟨k1163, sz1163, cs1163, σ1163, cv1163, cm1163, he163, hqk163, hqs163, hqc163, hq163, hb1163, hb2163, hb3163, hP1⟩ := hB163
      obtain rfl := Eq.symm he163
      obtain ⟨hP, hD⟩ := back [[ob z 5 [.ref t, .ref t2, .ref h, .ref x]], [ob t 3 [.ref o, .ref q]], wS G o a1 a2 a3 a4 σ1163, wT G q b1 b2 cv1163 cm1163, [ob h 0 [.int (nI sz1163), .ref st], arS G st 5 (fun j => some (y0 (rgt k1163 j)))], wHs G y0 y1 y2 y3 y4 cs1163] rfl hP1
      have hP : va_P G.1 vwCl (bl [[ob z 5 [.ref t, .ref t2, .ref h, .ref x]], [ob t 3 [.ref o, .ref q]], wS G o a1 a2 a3 a4 σ1163, wT G q b1 b2 cv1163 cm1163, [ob t2 3 [.ref o2, .ref q2]], wS G o2 d1 d2 d3 d4 φ, wT G q2 d5 d6 cvf cmf, [ob h 0 [.int (nI sz1163), .ref st], arS G st 5 (fun j => some (y0 (rgt k1163 j)))], wHs G y0 y1 y2 y3 y4 cs1163, wX G x g1 g2 g3 L pl nu np rr tx td tv, [ob mo 6 [.ref u0, .ref u1, .ref u2, .ref u3, .ref u4, .ref u5, .int (nI sm), .int (nI sa), .int (nI le), .int (nI ra), .int (nI fa)]], [ar G u0 481 nw], [ar G u1 481 bf], [ar G u2 2405 sts], [ar G u3 800 mk], [ar G u4 800 vl], [ar G u5 100 (fun j => nI (txm j))]]) H := hP
      have hD : va_D A (bl [[ob z 5 [.ref t, .ref t2, .ref h, .ref x]], [ob t 3 [.ref o, .ref q]], wS G o a1 a2 a3 a4 σ1163, wT G q b1 b2 cv1163 cm1163, [ob t2 3 [.ref o2, .ref q2]], wS G o2 d1 d2 d3 d4 φ, wT G q2 d5 d6 cvf cmf, [ob h 0 [.int (nI sz1163), .ref st], arS G st 5 (fun j => some (y0 (rgt k1163 j)))], wHs G y0 y1 y2 y3 y4 cs1163, wX G x g1 g2 g3 L pl nu np rr tx td tv, [ob mo 6 [.ref u0, .ref u1, .ref u2, .ref u3, .ref u4, .ref u5, .int (nI sm), .int (nI sa), .int (nI le), .int (nI ra), .int (nI fa)]], [ar G u0 481 nw], [ar G u1 481 bf], [ar G u2 2405 sts], [ar G u3 800 mk], [ar G u4 800 vl], [ar G u5 100 (fun j => nI (txm j))]]) := hD
      refine lv_aload_n hx hb dL_law_166 rfl (lv_at hl 2 rfl) ?_
      refine lv_aload_n hx hb dL_law_167 rfl (lv_at hl 0 rfl) ?_
      refine lv_iload_n hx hb dL_law_168 rfl (lv_at hl 3 rfl) ?_
      refine lv_iconst (v := (nI 1)) hx hb dL_law_169 (by decide) ?_
      refine r_iadd (v := i + 1) hx hb dL_law_170 rfl ?_
      refine va_sld hx hb hX hbl hbA hS (vp_in_nI (by omega) (by omega)) dL_law_171 ?_
      refine r_top (y := (nI r)) ((congrArg xs (nI_clamp (by omega))).trans er) ?_
      refine lv_aload_n hx hb dL_law_172 rfl (lv_at hl 0 rfl) ?_
      refine lv_iload_n hx hb dL_law_173 rfl (lv_at hl 3 rfl) ?_
      refine lv_iconst (v := (nI 2)) hx hb dL_law_174 (by decide) ?_
      refine r_iadd (v := i + 2) hx hb dL_law_175 rfl ?_
      refine va_sld hx hb hX hbl hbA hS (vp_in_nI (by omega) (by omega)) dL_law_176 ?_
      refine r_top (y := (nI c)) ((congrArg xs (nI_clamp (by omega))).trans ec) ?_
      refine lv_aload_n hx hb dL_law_177 rfl (lv_at hl 0 rfl) ?_
      refine lv_iload_n hx hb dL_law_178 rfl (lv_at hl 3 rfl) ?_
      refine lv_iconst (v := (nI 3)) hx hb dL_law_179 (by decide) ?_
      refine r_iadd (v := i + 3) hx hb dL_law_180 rfl ?_
      refine va_sld hx hb hX hbl hbA hS (vp_in_nI (by omega) (by omega)) dL_law_181 ?_
      refine r_top (y := (nI v)) ((congrArg xs (nI_clamp (by omega))).trans ev) ?_
      have hPc := bl_sub hP (is := [10, 11, 12, 13, 14, 15]) (bc := [[ob mo 6 [.ref u0, .ref u1, .ref u2, .ref u3, .ref u4, .ref u5, .int (nI sm), .int (nI sa), .int (nI le), .int (nI ra), .int (nI fa)]], [ar G u0 481 nw], [ar G u1 481 bf], [ar G u2 2405 sts], [ar G u3 800 mk], [ar G u4 800 vl]]) rfl
      have hDc := bl_subD hD [10, 11, 12, 13, 14, 15] [[ob mo 6 [.ref u0, .ref u1, .ref u2, .ref u3, .ref u4, .ref u5, .int (nI sm), .int (nI sa), .int (nI le), .int (nI ra), .int (nI fa)]], [ar G u0 481 nw], [ar G u1 481 bf], [ar G u2 2405 sts], [ar G u3 800 mk], [ar G u4 800 vl]] (by decide) rfl
      refine g_IB (bc := [[ob mo 6 [.ref u0, .ref u1, .ref u2, .ref u3, .ref u4, .ref u5, .int (nI sm), .int (nI sa), .int (nI le), .int (nI ra), .int (nI fa)]], [ar G u0 481 nw], [ar G u1 481 bf], [ar G u2 2405 sts], [ar G u3 800 mk], [ar G u4 800 vl]]) (k_W (q0 := 0) (ci := 6) (n := 3) (As := [.int (nI r), .int (nI c), .int (nI v)]) (rest := [.int (nI (vv σ (r * 16 + c)))]) hx hb hml hown hts (c_X6_set_ok (l := l) (G := G) (mo := mo) (u0 := u0) (u1 := u1) (u2 := u2) (u3 := u3) (u4 := u4) (u5 := u5) (sm := sm) (sa := sa) (le := le) (ra := ra) (fa := fa) (σ := σ) (nw := nw) (hR := hR) (hB := hB) (bf := bf) (sts := sts) (hsa := by first | assumption | omega) (hsm := by first | assumption | omega) (r := r) (c := c) (v := v) (hr := by first | assumption | omega) (hc := by first | assumption | omega) (hv9 := by first | assumption | omega) (hF := so4) (mk := mk) (vl := vl)) gL_law_X6_set rfl rfl rfl (by decide +kernel) ⟨Nat.le_of_ble_eq_true rfl, Nat.le_of_ble_eq_true rfl⟩ rfl hK hPc hDc rfl rfl rfl hl.1 rfl (Nat.le_of_ble_eq_true rfl) dL_law_182 ⟨Nat.le_of_ble_eq_true rfl, Nat.le_of_ble_eq_true rfl⟩) hP hD hS [10, 11, 12, 13, 14, 15] (by decide) rfl (fun r182 H locs hB182 back hS => ?_)
      obtain ⟨nw1182, bf1182, sts1182, sm1182, mk1182, vl1182, he182, hqs182, hqt182, hq182, hP1⟩ := hB182
      obtain rfl := Eq.symm he182
      obtain ⟨hP, hD⟩ := back [[ob mo 6 [.ref u0, .ref u1, .ref u2, .ref u3, .ref u4, .ref u5, .int (nI sm1182), .int (nI ((sa + 1) % 5)), .int (nI le), .int (nI ra), .int (nI fa)]], [ar G u0 481 nw1182], [ar G u1 481 bf1182], [ar G u2 2405 sts1182], [ar G u3 800 mk1182], [ar G u4 800 vl1182]] rfl hP1
      have hP : va_P G.1 vwCl (bl [[ob z 5 [.ref t, .ref t2, .ref h, .ref x]], [ob t 3 [.ref o, .ref q]], wS G o a1 a2 a3 a4 σ1163, wT G q b1 b2 cv1163 cm1163, [ob t2 3 [.ref o2, .ref q2]], wS G o2 d1 d2 d3 d4 φ, wT G q2 d5 d6 cvf cmf, [ob h 0 [.int (nI sz1163), .ref st], arS G st 5 (fun j => some (y0 (rgt k1163 j)))], wHs G y0 y1 y2 y3 y4 cs1163, wX G x g1 g2 g3 L pl nu np rr tx td tv, [ob mo 6 [.ref u0, .ref u1, .ref u2, .ref u3, .ref u4, .ref u5, .int (nI sm1182), .int (nI ((sa + 1) % 5)), .int (nI le), .int (nI ra), .int (nI fa)]], [ar G u0 481 nw1182], [ar G u1 481 bf1182], [ar G u2 2405 sts1182], [ar G u3 800 mk1182], [ar G u4 800 vl1182], [ar G u5 100 (fun j => nI (txm j))]]) H := hP
      have hD : va_D A (bl [[ob z 5 [.ref t, .ref t2, .ref h, .ref x]], [ob t 3 [.ref o, .ref q]], wS G o a1 a2 a3 a4 σ1163, wT G q b1 b2 cv1163 cm1163, [ob t2 3 [.ref o2, .ref q2]], wS G o2 d1 d2 d3 d4 φ, wT G q2 d5 d6 cvf cmf, [ob h 0 [.int (nI sz1163), .ref st], arS G st 5 (fun j => some (y0 (rgt k1163 j)))], wHs G y0 y1 y2 y3 y4 cs1163, wX G x g1 g2 g3 L pl nu np rr tx td tv, [ob mo 6 [.ref u0, .ref u1, .ref u2, .ref u3, .ref u4, .ref u5, .int (nI sm1182), .int (nI ((sa + 1) % 5)), .int (nI le), .int (nI ra), .int (nI fa)]], [ar G u0 481 nw1182], [ar G u1 481 bf1182], [ar G u2 2405 sts1182], [ar G u3 800 mk1182], [ar G u4 800 vl1182], [ar G u5 100 (fun j => nI (txm j))]]) := hD
      refine r_icmp_eq (P := (nI (vv σ (r * 16 + c))) = (nI (vv σ (r * 16 + c)))) (tgt := 571) hx hb dL_law_185 (by decide) (Iff.rfl) (fun cq185 => ?_) (fun cq185 => ?_)
      · rw [← hq163] at so1 so2 so3
        have so1 : σ1163 = rsetT σ r c v := so1
        exact kk H locs ls ⟨σ1163, φ, cv1163, cm1163, cvf, cmf, k1163, sz1163, cs1163, L, pl, nu, np, rr, tx, td, tv, sm1182, ((sa + 1) % 5), le, ra, fa, txm, nw1182, bf1182, sts1182, mk1182, vl1182, LF_act hLF ⟨hb1163, hb2163, hb3163, so2, so3⟩ (by rw [so1]; exact hq182) hqk163 hqs163 hqc163 hqs182 hqt182, hP, hD⟩ hS hl
      · exact absurd (rfl) cq185
