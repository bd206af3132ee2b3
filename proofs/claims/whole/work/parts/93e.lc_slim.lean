set_option maxHeartbeats 2000000 in
set_option maxRecDepth 100000 in
theorem lc_slim {p : Program} {e : Env} {s : State} {m : MethodId} {below : List Frame} {meth : Method} {cod : Code} {l : Launch} {G : kG} {b L0 i : Nat} {xs : Nat → Int32} {z t o a1 a2 a3 a4 q b1 b2 t2 o2 d1 d2 d3 d4 q2 d5 d6 h st : Nat} {y0 y1 y2 y3 y4 : Nat → Nat} {x g1 g2 g3 mo u0 u1 u2 u3 u4 u5 : Nat} {H : Heap} {locs : List Loc} {ls : Array Slot} (hL0 : L0 ≤ 2048) (C0 : lw_At p s m meth cod b L0 xs) (hK : KK G s) (hi : i + 4 ≤ L0) (hI : LI G (fun q9 : Nat => s.heap.size ≤ q9) z t o a1 a2 a3 a4 q b1 b2 t2 o2 d1 d2 d3 d4 q2 d5 d6 h st y0 y1 y2 y3 y4 x g1 g2 g3 mo u0 u1 u2 u3 u4 u5 H) (hS : va_S (fun q9 : Nat => s.heap.size ≤ q9) s.heap H locs) (hl : lv_has ls 4 [(0, .ref b), (1, .ref z), (2, .ref mo), (3, .int (nI i))]) (kk : ∀ (H : Heap) (locs : List Loc) (ls : Array Slot), LI G (fun q9 : Nat => s.heap.size ≤ q9) z t o a1 a2 a3 a4 q b1 b2 t2 o2 d1 d2 d3 d4 q2 d5 d6 h st y0 y1 y2 y3 y4 x g1 g2 g3 mo u0 u1 u2 u3 u4 u5 H → va_S (fun q9 : Nat => s.heap.size ≤ q9) s.heap H locs → lv_has ls 4 [(0, .ref b), (1, .ref z), (2, .ref mo), (3, .int (nI i))] → W p l e room_1 s m #[Value.ref b] below meth cod H locs 57 12040 (lw_Z below #[Value.ref b] s) (F0 m 571 ls [])) : W p l e room_1 s m #[Value.ref b] below meth cod H locs 57 12040 (lw_Z below #[Value.ref b] s) (F0 m 236 ls []) := by
  have hq0 := C0
  obtain ⟨hx, hb, hr, hml, hown, hts0, hX, hbl, hlocks, hgv⟩ := hq0
  have hts : ∀ w ∈ wsL_law, w.before #[Value.ref b] s = true := fun w hw => hts0 w (wsL_law_in w hw)
  generalize hA9 : (fun q9 : Nat => s.heap.size ≤ q9) = A at hS hI kk
  have hbA : ¬ A b := by rw [← hA9]; exact Nat.not_le.mpr hbl
  obtain ⟨σ, φ, cv, cm, cvf, cmf, k, sz, cs, L, pl, nu, np, rr, tx, td, tv, sm, sa, le, ra, fa, txm, nw, bf, sts, mk, vl, hLF, hP, hD⟩ := hI
  have hcop := hLF
  obtain ⟨⟨hB, hv, hm, hJ, hFu⟩, hR, ⟨hBf, hvf, hmf⟩, hHF, hTF⟩ := hcop
  have hcop2 := hHF
  obtain ⟨hk, hsz, hcs, hsm1, hsa1, hhs⟩ := hcop2
  have hcop3 := hTF
  obtain ⟨hL, ht, htp, htd, htv, hle1, htx1⟩ := hcop3
  have h24 := hB.n
  have hsm : sm ≤ 5 := by omega
  have hsa : sa < 5 := by rw [hsa1]; exact rgt_lt _ _
  have hle : le ≤ 100 := by omega
  rcases Bool.eq_false_or_eq_true (inr (xs (i + 1)) 0 ((nn σ : Int) - 1)) with cz1 | cz1
  · obtain ⟨r, hr9, er⟩ := row_n cz1
    obtain ⟨so1, so2, so3, so4⟩ := slim_ok (cv := cv) (cm := cm) (r := r) (v := mv σ r) hB hJ hFu hr9 (mv_lt σ r)
    have so5 := (dd_stT (slS σ r (mv σ r)) cv cm r).1
    · refine lv_aload_n hx hb dL_law_236 rfl (lv_at hl 1 rfl) ?_
      refine lv_aload_n hx hb dL_law_237 rfl (lv_at hl 0 rfl) ?_
      refine lv_iload_n hx hb dL_law_238 rfl (lv_at hl 3 rfl) ?_
      refine lv_iconst (v := (nI 1)) hx hb dL_law_239 (by decide) ?_
      refine r_iadd (v := i + 1) hx hb dL_law_240 rfl ?_
      refine va_sld hx hb hX hbl hbA hS (vp_in_nI (by omega) (by omega)) dL_law_241 ?_
      refine r_top (y := (nI r)) ((congrArg xs (nI_clamp (by omega))).trans er) ?_
      have hPc := bl_sub hP (is := [0, 1, 2, 3, 7, 8]) (bc := [[ob z 5 [.ref t, .ref t2, .ref h, .ref x]], [ob t 3 [.ref o, .ref q]], wS G o a1 a2 a3 a4 σ, wT G q b1 b2 cv cm, [ob h 0 [.int (nI sz), .ref st], arS G st 5 (fun j => some (y0 (rgt k j)))], wHs G y0 y1 y2 y3 y4 cs]) rfl
      have hDc := bl_subD hD [0, 1, 2, 3, 7, 8] [[ob z 5 [.ref t, .ref t2, .ref h, .ref x]], [ob t 3 [.ref o, .ref q]], wS G o a1 a2 a3 a4 σ, wT G q b1 b2 cv cm, [ob h 0 [.int (nI sz), .ref st], arS G st 5 (fun j => some (y0 (rgt k j)))], wHs G y0 y1 y2 y3 y4 cs] (by decide) rfl
      refine g_IB (bc := [[ob z 5 [.ref t, .ref t2, .ref h, .ref x]], [ob t 3 [.ref o, .ref q]], wS G o a1 a2 a3 a4 σ, wT G q b1 b2 cv cm, [ob h 0 [.int (nI sz), .ref st], arS G st 5 (fun j => some (y0 (rgt k j)))], wHs G y0 y1 y2 y3 y4 cs]) (k_W (q0 := 0) (ci := 5) (n := 1) (As := [.int (nI r)]) (rest := []) hx hb hml hown hts (c_X5_slim_ok (l := l) (G := G) (z := z) (t := t) (t2 := t2) (h := h) (x := x) (o := o) (a1 := a1) (a2 := a2) (a3 := a3) (a4 := a4) (σ := σ) (q := q) (b1 := b1) (b2 := b2) (cv := cv) (cm := cm) (st := st) (y0 := y0) (y1 := y1) (y2 := y2) (y3 := y3) (y4 := y4) (k := k) (sz := sz) (cs := cs) (hk := by first | assumption | omega) (hsz := by first | assumption | omega) (hB := by first | assumption | omega) (hv := by first | assumption | omega) (hm := by first | assumption | omega) (r := r) (hr := by first | assumption | omega)) gL_law_X5_slim rfl rfl rfl (by decide +kernel) ⟨Nat.le_of_ble_eq_true rfl, Nat.le_of_ble_eq_true rfl⟩ rfl hK hPc hDc rfl rfl rfl hl.1 rfl (Nat.le_of_ble_eq_true rfl) dL_law_242 ⟨Nat.le_of_ble_eq_true rfl, Nat.le_of_ble_eq_true rfl⟩) hP hD hS [0, 1, 2, 3, 7, 8] (by decide) rfl (fun r242 H locs hB242 back hS => ?_)
      obtain ⟨k1242, sz1242, cs1242, σ1242, cv1242, cm1242, he242, hqk242, hqs242, hqc242, hq242, hb1242, hb2242, hb3242, hP1⟩ := hB242
      obtain rfl := Eq.symm he242
      obtain ⟨hP, hD⟩ := back [[ob z 5 [.ref t, .ref t2, .ref h, .ref x]], [ob t 3 [.ref o, .ref q]], wS G o a1 a2 a3 a4 σ1242, wT G q b1 b2 cv1242 cm1242, [ob h 0 [.int (nI sz1242), .ref st], arS G st 5 (fun j => some (y0 (rgt k1242 j)))], wHs G y0 y1 y2 y3 y4 cs1242] rfl hP1
      have hP : va_P G.1 vwCl (bl [[ob z 5 [.ref t, .ref t2, .ref h, .ref x]], [ob t 3 [.ref o, .ref q]], wS G o a1 a2 a3 a4 σ1242, wT G q b1 b2 cv1242 cm1242, [ob t2 3 [.ref o2, .ref q2]], wS G o2 d1 d2 d3 d4 φ, wT G q2 d5 d6 cvf cmf, [ob h 0 [.int (nI sz1242), .ref st], arS G st 5 (fun j => some (y0 (rgt k1242 j)))], wHs G y0 y1 y2 y3 y4 cs1242, wX G x g1 g2 g3 L pl nu np rr tx td tv, [ob mo 6 [.ref u0, .ref u1, .ref u2, .ref u3, .ref u4, .ref u5, .int (nI sm), .int (nI sa), .int (nI le), .int (nI ra), .int (nI fa)]], [ar G u0 481 nw], [ar G u1 481 bf], [ar G u2 2405 sts], [ar G u3 800 mk], [ar G u4 800 vl], [ar G u5 100 (fun j => nI (txm j))]]) H := hP
      have hD : va_D A (bl [[ob z 5 [.ref t, .ref t2, .ref h, .ref x]], [ob t 3 [.ref o, .ref q]], wS G o a1 a2 a3 a4 σ1242, wT G q b1 b2 cv1242 cm1242, [ob t2 3 [.ref o2, .ref q2]], wS G o2 d1 d2 d3 d4 φ, wT G q2 d5 d6 cvf cmf, [ob h 0 [.int (nI sz1242), .ref st], arS G st 5 (fun j => some (y0 (rgt k1242 j)))], wHs G y0 y1 y2 y3 y4 cs1242, wX G x g1 g2 g3 L pl nu np rr tx td tv, [ob mo 6 [.ref u0, .ref u1, .ref u2, .ref u3, .ref u4, .ref u5, .int (nI sm), .int (nI sa), .int (nI le), .int (nI ra), .int (nI fa)]], [ar G u0 481 nw], [ar G u1 481 bf], [ar G u2 2405 sts], [ar G u3 800 mk], [ar G u4 800 vl], [ar G u5 100 (fun j => nI (txm j))]]) := hD
      refine lv_aload_n hx hb dL_law_245 rfl (lv_at hl 2 rfl) ?_
      refine lv_aload_n hx hb dL_law_246 rfl (lv_at hl 0 rfl) ?_
      refine lv_iload_n hx hb dL_law_247 rfl (lv_at hl 3 rfl) ?_
      refine lv_iconst (v := (nI 1)) hx hb dL_law_248 (by decide) ?_
      refine r_iadd (v := i + 1) hx hb dL_law_249 rfl ?_
      refine va_sld hx hb hX hbl hbA hS (vp_in_nI (by omega) (by omega)) dL_law_250 ?_
      refine r_top (y := (nI r)) ((congrArg xs (nI_clamp (by omega))).trans er) ?_
      have hPc := bl_sub hP (is := [10, 11, 12, 13, 14, 15]) (bc := [[ob mo 6 [.ref u0, .ref u1, .ref u2, .ref u3, .ref u4, .ref u5, .int (nI sm), .int (nI sa), .int (nI le), .int (nI ra), .int (nI fa)]], [ar G u0 481 nw], [ar G u1 481 bf], [ar G u2 2405 sts], [ar G u3 800 mk], [ar G u4 800 vl]]) rfl
      have hDc := bl_subD hD [10, 11, 12, 13, 14, 15] [[ob mo 6 [.ref u0, .ref u1, .ref u2, .ref u3, .ref u4, .ref u5, .int (nI sm), .int (nI sa), .int (nI le), .int (nI ra), .int (nI fa)]], [ar G u0 481 nw], [ar G u1 481 bf], [ar G u2 2405 sts], [ar G u3 800 mk], [ar G u4 800 vl]] (by decide) rfl
      refine g_IB (bc := [[ob mo 6 [.ref u0, .ref u1, .ref u2, .ref u3, .ref u4, .ref u5, .int (nI sm), .int (nI sa), .int (nI le), .int (nI ra), .int (nI fa)]], [ar G u0 481 nw], [ar G u1 481 bf], [ar G u2 2405 sts], [ar G u3 800 mk], [ar G u4 800 vl]]) (k_W (q0 := 0) (ci := 6) (n := 1) (As := [.int (nI r)]) (rest := [.int (nI (dd σ1242 r))]) hx hb hml hown hts (c_X6_slim_ok (l := l) (G := G) (mo := mo) (u0 := u0) (u1 := u1) (u2 := u2) (u3 := u3) (u4 := u4) (u5 := u5) (sm := sm) (sa := sa) (le := le) (ra := ra) (fa := fa) (σ := σ) (nw := nw) (hR := hR) (hB := hB) (bf := bf) (sts := sts) (hsa := by first | assumption | omega) (hsm := by first | assumption | omega) (r := r) (hr := by first | assumption | omega) (hF := so4) (mk := mk) (vl := vl)) gL_law_X6_slim rfl rfl rfl (by decide +kernel) ⟨Nat.le_of_ble_eq_true rfl, Nat.le_of_ble_eq_true rfl⟩ rfl hK hPc hDc rfl rfl rfl hl.1 rfl (Nat.le_of_ble_eq_true rfl) dL_law_251 ⟨Nat.le_of_ble_eq_true rfl, Nat.le_of_ble_eq_true rfl⟩) hP hD hS [10, 11, 12, 13, 14, 15] (by decide) rfl (fun r251 H locs hB251 back hS => ?_)
      obtain ⟨nw1251, bf1251, sts1251, sm1251, mk1251, vl1251, he251, hqs251, hqt251, hq251, hP1⟩ := hB251
      obtain rfl := Eq.symm he251
      obtain ⟨hP, hD⟩ := back [[ob mo 6 [.ref u0, .ref u1, .ref u2, .ref u3, .ref u4, .ref u5, .int (nI sm1251), .int (nI ((sa + 1) % 5)), .int (nI le), .int (nI ra), .int (nI fa)]], [ar G u0 481 nw1251], [ar G u1 481 bf1251], [ar G u2 2405 sts1251], [ar G u3 800 mk1251], [ar G u4 800 vl1251]] rfl hP1
      have hP : va_P G.1 vwCl (bl [[ob z 5 [.ref t, .ref t2, .ref h, .ref x]], [ob t 3 [.ref o, .ref q]], wS G o a1 a2 a3 a4 σ1242, wT G q b1 b2 cv1242 cm1242, [ob t2 3 [.ref o2, .ref q2]], wS G o2 d1 d2 d3 d4 φ, wT G q2 d5 d6 cvf cmf, [ob h 0 [.int (nI sz1242), .ref st], arS G st 5 (fun j => some (y0 (rgt k1242 j)))], wHs G y0 y1 y2 y3 y4 cs1242, wX G x g1 g2 g3 L pl nu np rr tx td tv, [ob mo 6 [.ref u0, .ref u1, .ref u2, .ref u3, .ref u4, .ref u5, .int (nI sm1251), .int (nI ((sa + 1) % 5)), .int (nI le), .int (nI ra), .int (nI fa)]], [ar G u0 481 nw1251], [ar G u1 481 bf1251], [ar G u2 2405 sts1251], [ar G u3 800 mk1251], [ar G u4 800 vl1251], [ar G u5 100 (fun j => nI (txm j))]]) H := hP
      have hD : va_D A (bl [[ob z 5 [.ref t, .ref t2, .ref h, .ref x]], [ob t 3 [.ref o, .ref q]], wS G o a1 a2 a3 a4 σ1242, wT G q b1 b2 cv1242 cm1242, [ob t2 3 [.ref o2, .ref q2]], wS G o2 d1 d2 d3 d4 φ, wT G q2 d5 d6 cvf cmf, [ob h 0 [.int (nI sz1242), .ref st], arS G st 5 (fun j => some (y0 (rgt k1242 j)))], wHs G y0 y1 y2 y3 y4 cs1242, wX G x g1 g2 g3 L pl nu np rr tx td tv, [ob mo 6 [.ref u0, .ref u1, .ref u2, .ref u3, .ref u4, .ref u5, .int (nI sm1251), .int (nI ((sa + 1) % 5)), .int (nI le), .int (nI ra), .int (nI fa)]], [ar G u0 481 nw1251], [ar G u1 481 bf1251], [ar G u2 2405 sts1251], [ar G u3 800 mk1251], [ar G u4 800 vl1251], [ar G u5 100 (fun j => nI (txm j))]]) := hD
      refine r_icmp_eq (P := (nI (dd σ1242 r)) = (nI (mv σ r))) (tgt := 571) hx hb dL_law_254 (by decide) (Iff.rfl) (fun cq254 => ?_) (fun cq254 => ?_)
      · rw [← hq242] at so1 so2 so3
        have so1 : σ1242 = rslT σ r (mv σ r) := so1
        exact kk H locs ls ⟨σ1242, φ, cv1242, cm1242, cvf, cmf, k1242, sz1242, cs1242, L, pl, nu, np, rr, tx, td, tv, sm1251, ((sa + 1) % 5), le, ra, fa, txm, nw1251, bf1251, sts1251, mk1251, vl1251, LF_act hLF ⟨hb1242, hb2242, hb3242, so2, so3⟩ (by rw [so1]; exact hq251) hqk242 hqs242 hqc242 hqs251 hqt251, hP, hD⟩ hS hl
      · exact absurd (by rw [← hq242] at so5; exact congrArg nI ((congrFun so5 r).trans up_s)) cq254
  · refine lv_aload_n hx hb dL_law_236 rfl (lv_at hl 1 rfl) ?_
    refine lv_aload_n hx hb dL_law_237 rfl (lv_at hl 0 rfl) ?_
    refine lv_iload_n hx hb dL_law_238 rfl (lv_at hl 3 rfl) ?_
    refine lv_iconst (v := (nI 1)) hx hb dL_law_239 (by decide) ?_
    refine r_iadd (v := i + 1) hx hb dL_law_240 rfl ?_
    refine va_sld hx hb hX hbl hbA hS (vp_in_nI (by omega) (by omega)) dL_law_241 ?_
    refine r_top (y := (xs (i + 1))) ((congrArg xs (nI_clamp (by omega))).trans rfl) ?_
    refine g_ro (k_V (q0 := 0) (ci := 5) (n := 1) (As := [.int (xs (i + 1))]) (rest := []) (wc := [ob z 5 [.ref t, .ref t2, .ref h, .ref x], ob t 3 [.ref o, .ref q], ob o 1 [.int (nI (nn σ)), .ref a1, .ref a2, .ref a3, .ref a4]]) hx hb hml hown hts (c_X5_slim_bad (l := l) (G := G) (z := z) (t := t) (t2 := t2) (h := h) (x := x) (o := o) (a1 := a1) (a2 := a2) (a3 := a3) (a4 := a4) (q := q) (n0 := nn σ) (xa := xs (i + 1)) (hn := h24) (hbad := by first | assumption | omega))  gL_law_X5_slim rfl rfl rfl (by decide +kernel) ⟨Nat.le_of_ble_eq_true rfl, Nat.le_of_ble_eq_true rfl⟩ rfl hK hP hD [0, 1, 2] rfl (by decide)  rfl rfl rfl hl.1 rfl (Nat.le_of_ble_eq_true rfl) dL_law_242 ⟨Nat.le_of_ble_eq_true rfl, Nat.le_of_ble_eq_true rfl⟩) (fun r242 h242 => ?_)
    obtain rfl : (-1) = r242 := Eq.symm h242
    refine lv_aload_n hx hb dL_law_245 rfl (lv_at hl 2 rfl) ?_
    refine lv_aload_n hx hb dL_law_246 rfl (lv_at hl 0 rfl) ?_
    refine lv_iload_n hx hb dL_law_247 rfl (lv_at hl 3 rfl) ?_
    refine lv_iconst (v := (nI 1)) hx hb dL_law_248 (by decide) ?_
    refine r_iadd (v := i + 1) hx hb dL_law_249 rfl ?_
    refine va_sld hx hb hX hbl hbA hS (vp_in_nI (by omega) (by omega)) dL_law_250 ?_
    refine r_top (y := (xs (i + 1))) ((congrArg xs (nI_clamp (by omega))).trans rfl) ?_
    have hPc := bl_sub hP (is := [10, 11]) (bc := [[ob mo 6 [.ref u0, .ref u1, .ref u2, .ref u3, .ref u4, .ref u5, .int (nI sm), .int (nI sa), .int (nI le), .int (nI ra), .int (nI fa)]], [ar G u0 481 nw]]) rfl
    have hDc := bl_subD hD [10, 11] [[ob mo 6 [.ref u0, .ref u1, .ref u2, .ref u3, .ref u4, .ref u5, .int (nI sm), .int (nI sa), .int (nI le), .int (nI ra), .int (nI fa)]], [ar G u0 481 nw]] (by decide) rfl
    refine g_ro (k_W (q0 := 0) (ci := 6) (n := 1) (As := [.int (xs (i + 1))]) (rest := [.int (-1)]) hx hb hml hown hts (c_X6_slim_bad (l := l) (G := G) (mo := mo) (u0 := u0) (u1 := u1) (u2 := u2) (u3 := u3) (u4 := u4) (u5 := u5) (sm := sm) (sa := sa) (le := le) (ra := ra) (fa := fa) (σ := σ) (nw := nw) (hR := hR) (hB := hB) (xa := xs (i + 1)) (hbad := by first | assumption | omega)) gL_law_X6_slim rfl rfl rfl (by decide +kernel) ⟨Nat.le_of_ble_eq_true rfl, Nat.le_of_ble_eq_true rfl⟩ rfl hK hPc hDc rfl rfl rfl hl.1 rfl (Nat.le_of_ble_eq_true rfl) dL_law_251 ⟨Nat.le_of_ble_eq_true rfl, Nat.le_of_ble_eq_true rfl⟩) (fun r251 h251 => ?_)
    obtain rfl : (-1) = r251 := Eq.symm h251
    refine r_icmp_eq (P := (-1) = (-1)) (tgt := 571) hx hb dL_law_254 (by decide) (Iff.rfl) (fun cq254 => ?_) (fun cq254 => ?_)
    · exact kk H locs ls ⟨σ, φ, cv, cm, cvf, cmf, k, sz, cs, L, pl, nu, np, rr, tx, td, tv, sm, sa, le, ra, fa, txm, nw, bf, sts, mk, vl, hLF, hP, hD⟩ hS hl
    · exact absurd (rfl) cq254
