set_option maxHeartbeats 2000000 in
set_option maxRecDepth 100000 in
theorem lc_append {p : Program} {e : Env} {s : State} {m : MethodId} {below : List Frame} {meth : Method} {cod : Code} {l : Launch} {G : kG} {b L0 i : Nat} {xs : Nat → Int32} {z t o a1 a2 a3 a4 q b1 b2 t2 o2 d1 d2 d3 d4 q2 d5 d6 h st : Nat} {y0 y1 y2 y3 y4 : Nat → Nat} {x g1 g2 g3 mo u0 u1 u2 u3 u4 u5 : Nat} {H : Heap} {locs : List Loc} {ls : Array Slot} (hL0 : L0 ≤ 2048) (C0 : lw_At p s m meth cod b L0 xs) (hK : KK G s) (hi : i + 4 ≤ L0) (hI : LI G (fun q9 : Nat => s.heap.size ≤ q9) z t o a1 a2 a3 a4 q b1 b2 t2 o2 d1 d2 d3 d4 q2 d5 d6 h st y0 y1 y2 y3 y4 x g1 g2 g3 mo u0 u1 u2 u3 u4 u5 H) (hS : va_S (fun q9 : Nat => s.heap.size ≤ q9) s.heap H locs) (hl : lv_has ls 4 [(0, .ref b), (1, .ref z), (2, .ref mo), (3, .int (nI i))]) (kk : ∀ (H : Heap) (locs : List Loc) (ls : Array Slot), LI G (fun q9 : Nat => s.heap.size ≤ q9) z t o a1 a2 a3 a4 q b1 b2 t2 o2 d1 d2 d3 d4 q2 d5 d6 h st y0 y1 y2 y3 y4 x g1 g2 g3 mo u0 u1 u2 u3 u4 u5 H → va_S (fun q9 : Nat => s.heap.size ≤ q9) s.heap H locs → lv_has ls 4 [(0, .ref b), (1, .ref z), (2, .ref mo), (3, .int (nI i))] → W p l e room_1 s m #[Value.ref b] below meth cod H locs 57 12040 (lw_Z below #[Value.ref b] s) (F0 m 571 ls [])) : W p l e room_1 s m #[Value.ref b] below meth cod H locs 57 12040 (lw_Z below #[Value.ref b] s) (F0 m 285 ls []) := by
  have hq0 := C0
  obtain ⟨hx, hb, hr, hml, hown, hts0, hX, hbl, hlocks, hgv⟩ := hq0
  have hts : ∀ w ∈ wsL_law, w.before #[Value.ref b] s = true := fun w hw => hts0 w (wsL_law_in w hw)
  generalize hA9 : (fun q9 : Nat => s.heap.size ≤ q9) = A at hS hI kk
  have hbA : ¬ A b := by rw [← hA9]; exact Nat.not_le.mpr hbl
  obtain ⟨σ, φ, cv, cm, cvf, cmf, k, sz, cs, L, pl, nu, np, rr, tx, td, tv, sm, sa, le, ra, fa, txm, nw, bf, sts, mk, vl, hLF, hP, hD⟩ := hI
  have hcop := hLF
  obtain ⟨⟨hB, hv, hm, hJ, hFu⟩, hR, ⟨hBf, hvf, hmf⟩, hHF, hTF⟩ := hcop
  have hcop2 := hHF
  obtain ⟨hk, hsz, hcs, hsm1, hsa1, hhs⟩ := hcop2
  have hcop3 := hTF
  obtain ⟨hL, ht, htp, htd, htv, hle1, htx1⟩ := hcop3
  have h24 := hB.n
  have hsm : sm ≤ 5 := by omega
  have hsa : sa < 5 := by rw [hsa1]; exact rgt_lt _ _
  have hle : le ≤ 100 := by omega
  rcases Bool.eq_false_or_eq_true (inr (xs (i + 1)) 1 255) with cz1 | cz1
  · obtain ⟨w, hw1, hw2, ew⟩ := inr_1 (b := 255) cz1
    rcases Nat.lt_or_ge L 100 with cz2 | cz2
    · refine lv_aload_n hx hb dL_law_285 rfl (lv_at hl 1 rfl) ?_
      refine lv_aload_n hx hb dL_law_286 rfl (lv_at hl 0 rfl) ?_
      refine lv_iload_n hx hb dL_law_287 rfl (lv_at hl 3 rfl) ?_
      refine lv_iconst (v := (nI 1)) hx hb dL_law_288 (by decide) ?_
      refine r_iadd (v := i + 1) hx hb dL_law_289 rfl ?_
      refine va_sld hx hb hX hbl hbA hS (vp_in_nI (by omega) (by omega)) dL_law_290 ?_
      refine r_top (y := (nI w)) ((congrArg xs (nI_clamp (by omega))).trans ew) ?_
      have hPc := bl_sub hP (is := [0, 9]) (bc := [[ob z 5 [.ref t, .ref t2, .ref h, .ref x]], wX G x g1 g2 g3 L pl nu np rr tx td tv]) rfl
      have hDc := bl_subD hD [0, 9] [[ob z 5 [.ref t, .ref t2, .ref h, .ref x]], wX G x g1 g2 g3 L pl nu np rr tx td tv] (by decide) rfl
      refine g_IB (bc := [[ob z 5 [.ref t, .ref t2, .ref h, .ref x]], wX G x g1 g2 g3 L pl nu np rr tx td tv]) (k_W (q0 := 0) (ci := 5) (n := 1) (As := [.int (nI w)]) (rest := []) hx hb hml hown hts (c_X5_append_ok (l := l) (G := G) (z := z) (t := t) (t2 := t2) (h := h) (x := x) (g1 := g1) (g2 := g2) (g3 := g3) (L := L) (pl := pl) (nu := nu) (np := np) (rr := rr) (tx := tx) (td := td) (tv := tv) (hL := by first | assumption | omega) (ht := by first | assumption | omega) (w := w) (hw1 := by first | assumption | omega) (hw := by first | assumption | omega) (hL2 := by first | assumption | omega)) gL_law_X5_append rfl rfl rfl (by decide +kernel) ⟨Nat.le_of_ble_eq_true rfl, Nat.le_of_ble_eq_true rfl⟩ rfl hK hPc hDc rfl rfl rfl hl.1 rfl (Nat.le_of_ble_eq_true rfl) dL_law_291 ⟨Nat.le_of_ble_eq_true rfl, Nat.le_of_ble_eq_true rfl⟩) hP hD hS [0, 9] (by decide) rfl (fun r291 H locs hB291 back hS => ?_)
      obtain ⟨he291, hP1⟩ := hB291
      obtain rfl := Eq.symm he291
      obtain ⟨hP, hD⟩ := back [[ob z 5 [.ref t, .ref t2, .ref h, .ref x]], wX G x g1 g2 g3 (L + 1) pl nu np rr (va_up tx L w) td tv] rfl hP1
      have hP : va_P G.1 vwCl (bl [[ob z 5 [.ref t, .ref t2, .ref h, .ref x]], [ob t 3 [.ref o, .ref q]], wS G o a1 a2 a3 a4 σ, wT G q b1 b2 cv cm, [ob t2 3 [.ref o2, .ref q2]], wS G o2 d1 d2 d3 d4 φ, wT G q2 d5 d6 cvf cmf, [ob h 0 [.int (nI sz), .ref st], arS G st 5 (fun j => some (y0 (rgt k j)))], wHs G y0 y1 y2 y3 y4 cs, wX G x g1 g2 g3 (L + 1) pl nu np rr (va_up tx L w) td tv, [ob mo 6 [.ref u0, .ref u1, .ref u2, .ref u3, .ref u4, .ref u5, .int (nI sm), .int (nI sa), .int (nI le), .int (nI ra), .int (nI fa)]], [ar G u0 481 nw], [ar G u1 481 bf], [ar G u2 2405 sts], [ar G u3 800 mk], [ar G u4 800 vl], [ar G u5 100 (fun j => nI (txm j))]]) H := hP
      have hD : va_D A (bl [[ob z 5 [.ref t, .ref t2, .ref h, .ref x]], [ob t 3 [.ref o, .ref q]], wS G o a1 a2 a3 a4 σ, wT G q b1 b2 cv cm, [ob t2 3 [.ref o2, .ref q2]], wS G o2 d1 d2 d3 d4 φ, wT G q2 d5 d6 cvf cmf, [ob h 0 [.int (nI sz), .ref st], arS G st 5 (fun j => some (y0 (rgt k j)))], wHs G y0 y1 y2 y3 y4 cs, wX G x g1 g2 g3 (L + 1) pl nu np rr (va_up tx L w) td tv, [ob mo 6 [.ref u0, .ref u1, .ref u2, .ref u3, .ref u4, .ref u5, .int (nI sm), .int (nI sa), .int (nI le), .int (nI ra), .int (nI fa)]], [ar G u0 481 nw], [ar G u1 481 bf], [ar G u2 2405 sts], [ar G u3 800 mk], [ar G u4 800 vl], [ar G u5 100 (fun j => nI (txm j))]]) := hD
      refine lv_aload_n hx hb dL_law_294 rfl (lv_at hl 2 rfl) ?_
      refine lv_aload_n hx hb dL_law_295 rfl (lv_at hl 0 rfl) ?_
      refine lv_iload_n hx hb dL_law_296 rfl (lv_at hl 3 rfl) ?_
      refine lv_iconst (v := (nI 1)) hx hb dL_law_297 (by decide) ?_
      refine r_iadd (v := i + 1) hx hb dL_law_298 rfl ?_
      refine va_sld hx hb hX hbl hbA hS (vp_in_nI (by omega) (by omega)) dL_law_299 ?_
      refine r_top (y := (nI w)) ((congrArg xs (nI_clamp (by omega))).trans ew) ?_
      have hPc := bl_sub hP (is := [10, 16]) (bc := [[ob mo 6 [.ref u0, .ref u1, .ref u2, .ref u3, .ref u4, .ref u5, .int (nI sm), .int (nI sa), .int (nI le), .int (nI ra), .int (nI fa)]], [ar G u5 100 (fun j => nI (txm j))]]) rfl
      have hDc := bl_subD hD [10, 16] [[ob mo 6 [.ref u0, .ref u1, .ref u2, .ref u3, .ref u4, .ref u5, .int (nI sm), .int (nI sa), .int (nI le), .int (nI ra), .int (nI fa)]], [ar G u5 100 (fun j => nI (txm j))]] (by decide) rfl
      refine g_IB (bc := [[ob mo 6 [.ref u0, .ref u1, .ref u2, .ref u3, .ref u4, .ref u5, .int (nI sm), .int (nI sa), .int (nI le), .int (nI ra), .int (nI fa)]], [ar G u5 100 (fun j => nI (txm j))]]) (k_W (q0 := 0) (ci := 6) (n := 1) (As := [.int (nI w)]) (rest := [.int (nI (L + 1))]) hx hb hml hown hts (c_X6_append_ok (l := l) (G := G) (mo := mo) (u0 := u0) (u1 := u1) (u2 := u2) (u3 := u3) (u4 := u4) (u5 := u5) (sm := sm) (sa := sa) (le := le) (ra := ra) (fa := fa) (tx := txm) (w := w) (hw1 := by first | assumption | omega) (hw := by first | assumption | omega) (hl2 := (by omega))) gL_law_X6_append rfl rfl rfl (by decide +kernel) ⟨Nat.le_of_ble_eq_true rfl, Nat.le_of_ble_eq_true rfl⟩ rfl hK hPc hDc rfl rfl rfl hl.1 rfl (Nat.le_of_ble_eq_true rfl) dL_law_300 ⟨Nat.le_of_ble_eq_true rfl, Nat.le_of_ble_eq_true rfl⟩) hP hD hS [10, 16] (by decide) rfl (fun r300 H locs hB300 back hS => ?_)
      obtain ⟨he300, hP1⟩ := hB300
      obtain rfl := Eq.symm he300
      obtain ⟨hP, hD⟩ := back [[ob mo 6 [.ref u0, .ref u1, .ref u2, .ref u3, .ref u4, .ref u5, .int (nI sm), .int (nI sa), .int (nI (le + 1)), .int (nI ra), .int (nI fa)]], [ar G u5 100 (fun j => nI ((va_up txm le w) j))]] rfl hP1
      have hP : va_P G.1 vwCl (bl [[ob z 5 [.ref t, .ref t2, .ref h, .ref x]], [ob t 3 [.ref o, .ref q]], wS G o a1 a2 a3 a4 σ, wT G q b1 b2 cv cm, [ob t2 3 [.ref o2, .ref q2]], wS G o2 d1 d2 d3 d4 φ, wT G q2 d5 d6 cvf cmf, [ob h 0 [.int (nI sz), .ref st], arS G st 5 (fun j => some (y0 (rgt k j)))], wHs G y0 y1 y2 y3 y4 cs, wX G x g1 g2 g3 (L + 1) pl nu np rr (va_up tx L w) td tv, [ob mo 6 [.ref u0, .ref u1, .ref u2, .ref u3, .ref u4, .ref u5, .int (nI sm), .int (nI sa), .int (nI (le + 1)), .int (nI ra), .int (nI fa)]], [ar G u0 481 nw], [ar G u1 481 bf], [ar G u2 2405 sts], [ar G u3 800 mk], [ar G u4 800 vl], [ar G u5 100 (fun j => nI ((va_up txm le w) j))]]) H := hP
      have hD : va_D A (bl [[ob z 5 [.ref t, .ref t2, .ref h, .ref x]], [ob t 3 [.ref o, .ref q]], wS G o a1 a2 a3 a4 σ, wT G q b1 b2 cv cm, [ob t2 3 [.ref o2, .ref q2]], wS G o2 d1 d2 d3 d4 φ, wT G q2 d5 d6 cvf cmf, [ob h 0 [.int (nI sz), .ref st], arS G st 5 (fun j => some (y0 (rgt k j)))], wHs G y0 y1 y2 y3 y4 cs, wX G x g1 g2 g3 (L + 1) pl nu np rr (va_up tx L w) td tv, [ob mo 6 [.ref u0, .ref u1, .ref u2, .ref u3, .ref u4, .ref u5, .int (nI sm), .int (nI sa), .int (nI (le + 1)), .int (nI ra), .int (nI fa)]], [ar G u0 481 nw], [ar G u1 481 bf], [ar G u2 2405 sts], [ar G u3 800 mk], [ar G u4 800 vl], [ar G u5 100 (fun j => nI ((va_up txm le w) j))]]) := hD
      refine r_icmp_eq (P := (nI (L + 1)) = (nI (le + 1))) (tgt := 571) hx hb dL_law_303 (by decide) (Iff.rfl) (fun cq303 => ?_) (fun cq303 => ?_)
      · exact kk H locs ls ⟨σ, φ, cv, cm, cvf, cmf, k, sz, cs, (L + 1), pl, nu, np, rr, (va_up tx L w), td, tv, sm, sa, (le + 1), ra, fa, (va_up txm le w), nw, bf, sts, mk, vl, ⟨hLF.1, hR, hLF.2.2.1, hHF, ⟨cz2, fun j => by unfold va_up; split; omega; exact ht j, fun j hj => by unfold va_up; split; omega; exact htp j (by omega), htd, htv, by omega, by rw [hle1, htx1]⟩⟩, hP, hD⟩ hS hl
      · exact absurd (by rw [hle1]) cq303
    · refine lv_aload_n hx hb dL_law_285 rfl (lv_at hl 1 rfl) ?_
      refine lv_aload_n hx hb dL_law_286 rfl (lv_at hl 0 rfl) ?_
      refine lv_iload_n hx hb dL_law_287 rfl (lv_at hl 3 rfl) ?_
      refine lv_iconst (v := (nI 1)) hx hb dL_law_288 (by decide) ?_
      refine r_iadd (v := i + 1) hx hb dL_law_289 rfl ?_
      refine va_sld hx hb hX hbl hbA hS (vp_in_nI (by omega) (by omega)) dL_law_290 ?_
      refine r_top (y := (nI w)) ((congrArg xs (nI_clamp (by omega))).trans ew) ?_
      refine g_ro (k_V (q0 := 0) (ci := 5) (n := 1) (As := [.int (nI w)]) (rest := []) (wc := [ob z 5 [.ref t, .ref t2, .ref h, .ref x], ob x 4 [.int (nI L), .ref g1, .int (nI pl), .int (nI nu), .int (nI np), .int (nI rr), .ref g2, .ref g3]]) hx hb hml hown hts (c_X5_append_full (l := l) (G := G) (z := z) (t := t) (t2 := t2) (h := h) (x := x) (g1 := g1) (g2 := g2) (g3 := g3) (L := L) (pl := pl) (nu := nu) (np := np) (rr := rr) (tx := tx) (td := td) (tv := tv) (hL := by first | assumption | omega) (ht := by first | assumption | omega) (w := w) (hw1 := by first | assumption | omega) (hw := by first | assumption | omega) (hL2 := (by omega)))  gL_law_X5_append rfl rfl rfl (by decide +kernel) ⟨Nat.le_of_ble_eq_true rfl, Nat.le_of_ble_eq_true rfl⟩ rfl hK hP hD [0, 46] rfl (by decide)  rfl rfl rfl hl.1 rfl (Nat.le_of_ble_eq_true rfl) dL_law_291 ⟨Nat.le_of_ble_eq_true rfl, Nat.le_of_ble_eq_true rfl⟩) (fun r291 h291 => ?_)
      obtain rfl : (-3) = r291 := Eq.symm h291
      refine lv_aload_n hx hb dL_law_294 rfl (lv_at hl 2 rfl) ?_
      refine lv_aload_n hx hb dL_law_295 rfl (lv_at hl 0 rfl) ?_
      refine lv_iload_n hx hb dL_law_296 rfl (lv_at hl 3 rfl) ?_
      refine lv_iconst (v := (nI 1)) hx hb dL_law_297 (by decide) ?_
      refine r_iadd (v := i + 1) hx hb dL_law_298 rfl ?_
      refine va_sld hx hb hX hbl hbA hS (vp_in_nI (by omega) (by omega)) dL_law_299 ?_
      refine r_top (y := (nI w)) ((congrArg xs (nI_clamp (by omega))).trans ew) ?_
      have hPc := bl_sub hP (is := [10]) (bc := [[ob mo 6 [.ref u0, .ref u1, .ref u2, .ref u3, .ref u4, .ref u5, .int (nI sm), .int (nI sa), .int (nI le), .int (nI ra), .int (nI fa)]]]) rfl
      have hDc := bl_subD hD [10] [[ob mo 6 [.ref u0, .ref u1, .ref u2, .ref u3, .ref u4, .ref u5, .int (nI sm), .int (nI sa), .int (nI le), .int (nI ra), .int (nI fa)]]] (by decide) rfl
      refine g_ro (k_W (q0 := 0) (ci := 6) (n := 1) (As := [.int (nI w)]) (rest := [.int (-3)]) hx hb hml hown hts (c_X6_append_full (l := l) (G := G) (mo := mo) (u0 := u0) (u1 := u1) (u2 := u2) (u3 := u3) (u4 := u4) (u5 := u5) (sm := sm) (sa := sa) (le := le) (ra := ra) (fa := fa) (w := w) (hw1 := by first | assumption | omega) (hw := by first | assumption | omega) (hl2 := (by omega))) gL_law_X6_append rfl rfl rfl (by decide +kernel) ⟨Nat.le_of_ble_eq_true rfl, Nat.le_of_ble_eq_true rfl⟩ rfl hK hPc hDc rfl rfl rfl hl.1 rfl (Nat.le_of_ble_eq_true rfl) dL_law_300 ⟨Nat.le_of_ble_eq_true rfl, Nat.le_of_ble_eq_true rfl⟩) (fun r300 h300 => ?_)
      obtain rfl : (-3) = r300 := Eq.symm h300
      refine r_icmp_eq (P := (-3) = (-3)) (tgt := 571) hx hb dL_law_303 (by decide) (Iff.rfl) (fun cq303 => ?_) (fun cq303 => ?_)
      · exact kk H locs ls ⟨σ, φ, cv, cm, cvf, cmf, k, sz, cs, L, pl, nu, np, rr, tx, td, tv, sm, sa, le, ra, fa, txm, nw, bf, sts, mk, vl, hLF, hP, hD⟩ hS hl
      · exact absurd (rfl) cq303
  · refine lv_aload_n hx hb dL_law_285 rfl (lv_at hl 1 rfl) ?_
    refine lv_aload_n hx hb dL_law_286 rfl (lv_at hl 0 rfl) ?_
    refine lv_iload_n hx hb dL_law_287 rfl (lv_at hl 3 rfl) ?_
    refine lv_iconst (v := (nI 1)) hx hb dL_law_288 (by decide) ?_
    refine r_iadd (v := i + 1) hx hb dL_law_289 rfl ?_
    refine va_sld hx hb hX hbl hbA hS (vp_in_nI (by omega) (by omega)) dL_law_290 ?_
    refine r_top (y := (xs (i + 1))) ((congrArg xs (nI_clamp (by omega))).trans rfl) ?_
    refine g_ro (k_V (q0 := 0) (ci := 5) (n := 1) (As := [.int (xs (i + 1))]) (rest := []) (wc := []) hx hb hml hown hts (c_X5_append_bad (l := l) (G := G) (z := z) (xa := xs (i + 1)) (hbad := by first | assumption | omega))  gL_law_X5_append rfl rfl rfl (by decide +kernel) ⟨Nat.le_of_ble_eq_true rfl, Nat.le_of_ble_eq_true rfl⟩ rfl hK hP hD [] rfl (by decide)  rfl rfl rfl hl.1 rfl (Nat.le_of_ble_eq_true rfl) dL_law_291 ⟨Nat.le_of_ble_eq_true rfl, Nat.le_of_ble_eq_true rfl⟩) (fun r291 h291 => ?_)
    obtain rfl : (-1) = r291 := Eq.symm h291
    refine lv_aload_n hx hb dL_law_294 rfl (lv_at hl 2 rfl) ?_
    refine lv_aload_n hx hb dL_law_295 rfl (lv_at hl 0 rfl) ?_
    refine lv_iload_n hx hb dL_law_296 rfl (lv_at hl 3 rfl) ?_
    refine lv_iconst (v := (nI 1)) hx hb dL_law_297 (by decide) ?_
    refine r_iadd (v := i + 1) hx hb dL_law_298 rfl ?_
    refine va_sld hx hb hX hbl hbA hS (vp_in_nI (by omega) (by omega)) dL_law_299 ?_
    refine r_top (y := (xs (i + 1))) ((congrArg xs (nI_clamp (by omega))).trans rfl) ?_
    refine g_ro (k_V (q0 := 50) (ci := 6) (n := 1) (As := [.int (xs (i + 1))]) (rest := [.int (-1)]) (wc := []) hx hb hml hown hts (c_X6_append_bad (l := l) (G := G) (mo := mo) (xa := xs (i + 1)) (hbad := by first | assumption | omega))  gL_law_X6_append rfl rfl rfl (by decide +kernel) ⟨Nat.le_of_ble_eq_true rfl, Nat.le_of_ble_eq_true rfl⟩ rfl hK hP hD [] rfl (by decide)  rfl rfl rfl hl.1 rfl (Nat.le_of_ble_eq_true rfl) dL_law_300 ⟨Nat.le_of_ble_eq_true rfl, Nat.le_of_ble_eq_true rfl⟩) (fun r300 h300 => ?_)
    obtain rfl : (-1) = r300 := Eq.symm h300
    refine r_icmp_eq (P := (-1) = (-1)) (tgt := 571) hx hb dL_law_303 (by decide) (Iff.rfl) (fun cq303 => ?_) (fun cq303 => ?_)
    · exact kk H locs ls ⟨σ, φ, cv, cm, cvf, cmf, k, sz, cs, L, pl, nu, np, rr, tx, td, tv, sm, sa, le, ra, fa, txm, nw, bf, sts, mk, vl, hLF, hP, hD⟩ hS hl
    · exact absurd (rfl) cq303
