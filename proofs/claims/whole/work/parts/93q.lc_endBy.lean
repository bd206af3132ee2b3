set_option maxHeartbeats 2000000 in
set_option maxRecDepth 100000 in
theorem lc_endBy {p : Program} {e : Env} {s : State} {m : MethodId} {below : List Frame} {meth : Method} {cod : Code} {l : Launch} {G : kG} {b L0 i : Nat} {xs : Nat → Int32} {z t o a1 a2 a3 a4 q b1 b2 t2 o2 d1 d2 d3 d4 q2 d5 d6 h st : Nat} {y0 y1 y2 y3 y4 : Nat → Nat} {x g1 g2 g3 mo u0 u1 u2 u3 u4 u5 : Nat} {H : Heap} {locs : List Loc} {ls : Array Slot} (hL0 : L0 ≤ 2048) (C0 : lw_At p s m meth cod b L0 xs) (hK : KK G s) (hi : i + 4 ≤ L0) (hI : LI G (fun q9 : Nat => s.heap.size ≤ q9) z t o a1 a2 a3 a4 q b1 b2 t2 o2 d1 d2 d3 d4 q2 d5 d6 h st y0 y1 y2 y3 y4 x g1 g2 g3 mo u0 u1 u2 u3 u4 u5 H) (hS : va_S (fun q9 : Nat => s.heap.size ≤ q9) s.heap H locs) (hl : lv_has ls 4 [(0, .ref b), (1, .ref z), (2, .ref mo), (3, .int (nI i))]) (kk : ∀ (H : Heap) (locs : List Loc) (ls : Array Slot), LI G (fun q9 : Nat => s.heap.size ≤ q9) z t o a1 a2 a3 a4 q b1 b2 t2 o2 d1 d2 d3 d4 q2 d5 d6 h st y0 y1 y2 y3 y4 x g1 g2 g3 mo u0 u1 u2 u3 u4 u5 H → va_S (fun q9 : Nat => s.heap.size ≤ q9) s.heap H locs → lv_has ls 4 [(0, .ref b), (1, .ref z), (2, .ref mo), (3, .int (nI i))] → W p l e room_1 s m #[Value.ref b] below meth cod H locs 57 12040 (lw_Z below #[Value.ref b] s) (F0 m 571 ls [])) : W p l e room_1 s m #[Value.ref b] below meth cod H locs 57 12040 (lw_Z below #[Value.ref b] s) (F0 m 512 ls []) := by
  have hq0 := C0
  obtain ⟨hx, hb, hr, hml, hown, hts0, hX, hbl, hlocks, hgv⟩ := hq0
  have hts : ∀ w ∈ wsL_law, w.before #[Value.ref b] s = true := fun w hw => hts0 w (wsL_law_in w hw)
  generalize hA9 : (fun q9 : Nat => s.heap.size ≤ q9) = A at hS hI kk
  have hbA : ¬ A b := by rw [← hA9]; exact Nat.not_le.mpr hbl
  obtain ⟨σ, φ, cv, cm, cvf, cmf, k, sz, cs, L, pl, nu, np, rr, tx, td, tv, sm, sa, le, ra, fa, txm, nw, bf, sts, mk, vl, hLF, hP, hD⟩ := hI
  have hcop := hLF
  obtain ⟨⟨hB, hv, hm, hJ, hFu⟩, hR, ⟨hBf, hvf, hmf⟩, hHF, hTF⟩ := hcop
  have hcop2 := hHF
  obtain ⟨hk, hsz, hcs, hsm1, hsa1, hhs⟩ := hcop2
  have hcop3 := hTF
  obtain ⟨hL, ht, htp, htd, htv, hle1, htx1⟩ := hcop3
  have h24 := hB.n
  have hsm : sm ≤ 5 := by omega
  have hsa : sa < 5 := by rw [hsa1]; exact rgt_lt _ _
  have hle : le ≤ 100 := by omega
  rcases Bool.eq_false_or_eq_true (inr (xs (i + 1)) 0 1) with cz1 | cz1
  · obtain ⟨w, hw1, ew⟩ := inr_n (b := 1) cz1
    rcases (show w = 0 ∨ w = 1 by omega) with hw0 | hw0
    · have hw9 : xs (i + 1) = nI 0 := by rw [ew, hw0]
      obtain ⟨so1, so2, so3, so4, so5⟩ := paw_ok hB
      have so6 := Bd_paw hB
      · refine lv_aload_n hx hb dL_law_512 rfl (lv_at hl 1 rfl) ?_
        refine lv_aload_n hx hb dL_law_513 rfl (lv_at hl 0 rfl) ?_
        refine lv_iload_n hx hb dL_law_514 rfl (lv_at hl 3 rfl) ?_
        refine lv_iconst (v := (nI 1)) hx hb dL_law_515 (by decide) ?_
        refine r_iadd (v := i + 1) hx hb dL_law_516 rfl ?_
        refine va_sld hx hb hX hbl hbA hS (vp_in_nI (by omega) (by omega)) dL_law_517 ?_
        refine r_top (y := (nI 0)) ((congrArg xs (nI_clamp (by omega))).trans hw9) ?_
        have hPc := bl_sub hP (is := [0, 1, 2, 4, 5, 6]) (bc := [[ob z 5 [.ref t, .ref t2, .ref h, .ref x]], [ob t 3 [.ref o, .ref q]], wS G o a1 a2 a3 a4 σ, [ob t2 3 [.ref o2, .ref q2]], wS G o2 d1 d2 d3 d4 φ, wT G q2 d5 d6 cvf cmf]) rfl
        have hDc := bl_subD hD [0, 1, 2, 4, 5, 6] [[ob z 5 [.ref t, .ref t2, .ref h, .ref x]], [ob t 3 [.ref o, .ref q]], wS G o a1 a2 a3 a4 σ, [ob t2 3 [.ref o2, .ref q2]], wS G o2 d1 d2 d3 d4 φ, wT G q2 d5 d6 cvf cmf] (by decide) rfl
        refine g_IB (bc := [[ob z 5 [.ref t, .ref t2, .ref h, .ref x]], [ob t 3 [.ref o, .ref q]], wS G o a1 a2 a3 a4 σ, [ob t2 3 [.ref o2, .ref q2]], wS G o2 d1 d2 d3 d4 φ, wT G q2 d5 d6 cvf cmf]) (k_W (q0 := 0) (ci := 5) (n := 1) (As := [.int (nI 0)]) (rest := []) hx hb hml hown hts (c_X5_endBy_ok (l := l) (G := G) (z := z) (t := t) (t2 := t2) (h := h) (x := x) (o := o) (a1 := a1) (a2 := a2) (a3 := a3) (a4 := a4) (σ := σ) (q := q) (b1 := b1) (b2 := b2) (cv := cv) (cm := cm) (hB := by first | assumption | omega) (hv := by first | assumption | omega) (hm := by first | assumption | omega) (o2 := o2) (d1 := d1) (d2 := d2) (d3 := d3) (d4 := d4) (q2 := q2) (d5 := d5) (d6 := d6) (φ := φ) (cvf := cvf) (cmf := cmf) (hBf := by first | assumption | omega) (hvf := by first | assumption | omega) (hmf := by first | assumption | omega) (w := 0) (hw := (by decide))) gL_law_X5_endBy rfl rfl rfl (by decide +kernel) ⟨Nat.le_of_ble_eq_true rfl, Nat.le_of_ble_eq_true rfl⟩ rfl hK hPc hDc rfl rfl rfl hl.1 rfl (Nat.le_of_ble_eq_true rfl) dL_law_518 ⟨Nat.le_of_ble_eq_true rfl, Nat.le_of_ble_eq_true rfl⟩) hP hD hS [0, 1, 2, 4, 5, 6] (by decide) rfl (fun r518 H locs hB518 back hS => ?_)
        obtain ⟨σ1518, cv1518, cm1518, he518, hq518, hb1518, hb2518, hb3518, hP1⟩ := hB518
        obtain rfl := Eq.symm he518
        obtain ⟨hP, hD⟩ := back [[ob z 5 [.ref t, .ref t2, .ref h, .ref x]], [ob t 3 [.ref o, .ref q]], wS G o a1 a2 a3 a4 σ, [ob t2 3 [.ref o2, .ref q2]], wS G o2 d1 d2 d3 d4 σ1518, wT G q2 d5 d6 cv1518 cm1518] rfl hP1
        have hP : va_P G.1 vwCl (bl [[ob z 5 [.ref t, .ref t2, .ref h, .ref x]], [ob t 3 [.ref o, .ref q]], wS G o a1 a2 a3 a4 σ, wT G q b1 b2 cv cm, [ob t2 3 [.ref o2, .ref q2]], wS G o2 d1 d2 d3 d4 σ1518, wT G q2 d5 d6 cv1518 cm1518, [ob h 0 [.int (nI sz), .ref st], arS G st 5 (fun j => some (y0 (rgt k j)))], wHs G y0 y1 y2 y3 y4 cs, wX G x g1 g2 g3 L pl nu np rr tx td tv, [ob mo 6 [.ref u0, .ref u1, .ref u2, .ref u3, .ref u4, .ref u5, .int (nI sm), .int (nI sa), .int (nI le), .int (nI ra), .int (nI fa)]], [ar G u0 481 nw], [ar G u1 481 bf], [ar G u2 2405 sts], [ar G u3 800 mk], [ar G u4 800 vl], [ar G u5 100 (fun j => nI (txm j))]]) H := hP
        have hD : va_D A (bl [[ob z 5 [.ref t, .ref t2, .ref h, .ref x]], [ob t 3 [.ref o, .ref q]], wS G o a1 a2 a3 a4 σ, wT G q b1 b2 cv cm, [ob t2 3 [.ref o2, .ref q2]], wS G o2 d1 d2 d3 d4 σ1518, wT G q2 d5 d6 cv1518 cm1518, [ob h 0 [.int (nI sz), .ref st], arS G st 5 (fun j => some (y0 (rgt k j)))], wHs G y0 y1 y2 y3 y4 cs, wX G x g1 g2 g3 L pl nu np rr tx td tv, [ob mo 6 [.ref u0, .ref u1, .ref u2, .ref u3, .ref u4, .ref u5, .int (nI sm), .int (nI sa), .int (nI le), .int (nI ra), .int (nI fa)]], [ar G u0 481 nw], [ar G u1 481 bf], [ar G u2 2405 sts], [ar G u3 800 mk], [ar G u4 800 vl], [ar G u5 100 (fun j => nI (txm j))]]) := hD
        refine lv_aload_n hx hb dL_law_521 rfl (lv_at hl 2 rfl) ?_
        refine lv_aload_n hx hb dL_law_522 rfl (lv_at hl 0 rfl) ?_
        refine lv_iload_n hx hb dL_law_523 rfl (lv_at hl 3 rfl) ?_
        refine lv_iconst (v := (nI 1)) hx hb dL_law_524 (by decide) ?_
        refine r_iadd (v := i + 1) hx hb dL_law_525 rfl ?_
        refine va_sld hx hb hX hbl hbA hS (vp_in_nI (by omega) (by omega)) dL_law_526 ?_
        refine r_top (y := (nI 0)) ((congrArg xs (nI_clamp (by omega))).trans hw9) ?_
        have hPc := bl_sub hP (is := [10, 11, 12, 14, 15]) (bc := [[ob mo 6 [.ref u0, .ref u1, .ref u2, .ref u3, .ref u4, .ref u5, .int (nI sm), .int (nI sa), .int (nI le), .int (nI ra), .int (nI fa)]], [ar G u0 481 nw], [ar G u1 481 bf], [ar G u3 800 mk], [ar G u4 800 vl]]) rfl
        have hDc := bl_subD hD [10, 11, 12, 14, 15] [[ob mo 6 [.ref u0, .ref u1, .ref u2, .ref u3, .ref u4, .ref u5, .int (nI sm), .int (nI sa), .int (nI le), .int (nI ra), .int (nI fa)]], [ar G u0 481 nw], [ar G u1 481 bf], [ar G u3 800 mk], [ar G u4 800 vl]] (by decide) rfl
        refine g_IB (bc := [[ob mo 6 [.ref u0, .ref u1, .ref u2, .ref u3, .ref u4, .ref u5, .int (nI sm), .int (nI sa), .int (nI le), .int (nI ra), .int (nI fa)]], [ar G u0 481 nw], [ar G u1 481 bf], [ar G u3 800 mk], [ar G u4 800 vl]]) (k_W (q0 := 0) (ci := 6) (n := 1) (As := [.int (nI 0)]) (rest := [.int (nI (endc cm1518))]) hx hb hml hown hts (c_X6_endBy_0 (l := l) (G := G) (mo := mo) (u0 := u0) (u1 := u1) (u2 := u2) (u3 := u3) (u4 := u4) (u5 := u5) (sm := sm) (sa := sa) (le := le) (ra := ra) (fa := fa) (σ := σ) (nw := nw) (hR := hR) (hB := hB) (bf := bf) (hF := so4) (hT2 := so5) (mk := mk) (vl := vl)) gL_law_X6_endBy rfl rfl rfl (by decide +kernel) ⟨Nat.le_of_ble_eq_true rfl, Nat.le_of_ble_eq_true rfl⟩ rfl hK hPc hDc rfl rfl rfl hl.1 rfl (Nat.le_of_ble_eq_true rfl) dL_law_527 ⟨Nat.le_of_ble_eq_true rfl, Nat.le_of_ble_eq_true rfl⟩) hP hD hS [10, 11, 12, 14, 15] (by decide) rfl (fun r527 H locs hB527 back hS => ?_)
        obtain ⟨nw1527, bf1527, mk1527, vl1527, he527, hq527, hP1⟩ := hB527
        obtain rfl := Eq.symm he527
        obtain ⟨hP, hD⟩ := back [[ob mo 6 [.ref u0, .ref u1, .ref u2, .ref u3, .ref u4, .ref u5, .int (nI sm), .int (nI sa), .int (nI le), .int (nI ra), .int (nI fa)]], [ar G u0 481 nw1527], [ar G u1 481 bf1527], [ar G u3 800 mk1527], [ar G u4 800 vl1527]] rfl hP1
        have hP : va_P G.1 vwCl (bl [[ob z 5 [.ref t, .ref t2, .ref h, .ref x]], [ob t 3 [.ref o, .ref q]], wS G o a1 a2 a3 a4 σ, wT G q b1 b2 cv cm, [ob t2 3 [.ref o2, .ref q2]], wS G o2 d1 d2 d3 d4 σ1518, wT G q2 d5 d6 cv1518 cm1518, [ob h 0 [.int (nI sz), .ref st], arS G st 5 (fun j => some (y0 (rgt k j)))], wHs G y0 y1 y2 y3 y4 cs, wX G x g1 g2 g3 L pl nu np rr tx td tv, [ob mo 6 [.ref u0, .ref u1, .ref u2, .ref u3, .ref u4, .ref u5, .int (nI sm), .int (nI sa), .int (nI le), .int (nI ra), .int (nI fa)]], [ar G u0 481 nw1527], [ar G u1 481 bf1527], [ar G u2 2405 sts], [ar G u3 800 mk1527], [ar G u4 800 vl1527], [ar G u5 100 (fun j => nI (txm j))]]) H := hP
        have hD : va_D A (bl [[ob z 5 [.ref t, .ref t2, .ref h, .ref x]], [ob t 3 [.ref o, .ref q]], wS G o a1 a2 a3 a4 σ, wT G q b1 b2 cv cm, [ob t2 3 [.ref o2, .ref q2]], wS G o2 d1 d2 d3 d4 σ1518, wT G q2 d5 d6 cv1518 cm1518, [ob h 0 [.int (nI sz), .ref st], arS G st 5 (fun j => some (y0 (rgt k j)))], wHs G y0 y1 y2 y3 y4 cs, wX G x g1 g2 g3 L pl nu np rr tx td tv, [ob mo 6 [.ref u0, .ref u1, .ref u2, .ref u3, .ref u4, .ref u5, .int (nI sm), .int (nI sa), .int (nI le), .int (nI ra), .int (nI fa)]], [ar G u0 481 nw1527], [ar G u1 481 bf1527], [ar G u2 2405 sts], [ar G u3 800 mk1527], [ar G u4 800 vl1527], [ar G u5 100 (fun j => nI (txm j))]]) := hD
        refine r_icmp_eq (P := (nI (endc cm1518)) = (nI (endc (rsM (fwO (nn σ) (bareS σ) 16))))) (tgt := 571) hx hb dL_law_530 (by decide) (Iff.rfl) (fun cq530 => ?_) (fun cq530 => ?_)
        · exact kk H locs ls ⟨σ, σ1518, cv, cm, cv1518, cm1518, k, sz, cs, L, pl, nu, np, rr, tx, td, tv, sm, sa, le, ra, fa, txm, nw1527, bf1527, sts, mk1527, vl1527, ⟨hLF.1, hq527, ⟨hb1518, hb2518, hb3518⟩, hHF, hTF⟩, hP, hD⟩ hS hl
        · exact absurd (by have e9 : (σ1518, cv1518, cm1518) = paw σ := hq518; rw [← e9] at so1 so2 so6; have e1 : σ1518 = _ := so1; rw [← e1]; exact congrArg nI (end_rs so6 so2).symm) cq530
    · have hw9 : xs (i + 1) = nI 1 := by rw [ew, hw0]
      obtain ⟨so1, so6, so2, so4, so5⟩ := pan_ok hB
      · refine lv_aload_n hx hb dL_law_512 rfl (lv_at hl 1 rfl) ?_
        refine lv_aload_n hx hb dL_law_513 rfl (lv_at hl 0 rfl) ?_
        refine lv_iload_n hx hb dL_law_514 rfl (lv_at hl 3 rfl) ?_
        refine lv_iconst (v := (nI 1)) hx hb dL_law_515 (by decide) ?_
        refine r_iadd (v := i + 1) hx hb dL_law_516 rfl ?_
        refine va_sld hx hb hX hbl hbA hS (vp_in_nI (by omega) (by omega)) dL_law_517 ?_
        refine r_top (y := (nI 1)) ((congrArg xs (nI_clamp (by omega))).trans hw9) ?_
        have hPc := bl_sub hP (is := [0, 1, 2, 4, 5, 6]) (bc := [[ob z 5 [.ref t, .ref t2, .ref h, .ref x]], [ob t 3 [.ref o, .ref q]], wS G o a1 a2 a3 a4 σ, [ob t2 3 [.ref o2, .ref q2]], wS G o2 d1 d2 d3 d4 φ, wT G q2 d5 d6 cvf cmf]) rfl
        have hDc := bl_subD hD [0, 1, 2, 4, 5, 6] [[ob z 5 [.ref t, .ref t2, .ref h, .ref x]], [ob t 3 [.ref o, .ref q]], wS G o a1 a2 a3 a4 σ, [ob t2 3 [.ref o2, .ref q2]], wS G o2 d1 d2 d3 d4 φ, wT G q2 d5 d6 cvf cmf] (by decide) rfl
        refine g_IB (bc := [[ob z 5 [.ref t, .ref t2, .ref h, .ref x]], [ob t 3 [.ref o, .ref q]], wS G o a1 a2 a3 a4 σ, [ob t2 3 [.ref o2, .ref q2]], wS G o2 d1 d2 d3 d4 φ, wT G q2 d5 d6 cvf cmf]) (k_W (q0 := 0) (ci := 5) (n := 1) (As := [.int (nI 1)]) (rest := []) hx hb hml hown hts (c_X5_endBy_ok (l := l) (G := G) (z := z) (t := t) (t2 := t2) (h := h) (x := x) (o := o) (a1 := a1) (a2 := a2) (a3 := a3) (a4 := a4) (σ := σ) (q := q) (b1 := b1) (b2 := b2) (cv := cv) (cm := cm) (hB := by first | assumption | omega) (hv := by first | assumption | omega) (hm := by first | assumption | omega) (o2 := o2) (d1 := d1) (d2 := d2) (d3 := d3) (d4 := d4) (q2 := q2) (d5 := d5) (d6 := d6) (φ := φ) (cvf := cvf) (cmf := cmf) (hBf := by first | assumption | omega) (hvf := by first | assumption | omega) (hmf := by first | assumption | omega) (w := 1) (hw := (by decide))) gL_law_X5_endBy rfl rfl rfl (by decide +kernel) ⟨Nat.le_of_ble_eq_true rfl, Nat.le_of_ble_eq_true rfl⟩ rfl hK hPc hDc rfl rfl rfl hl.1 rfl (Nat.le_of_ble_eq_true rfl) dL_law_518 ⟨Nat.le_of_ble_eq_true rfl, Nat.le_of_ble_eq_true rfl⟩) hP hD hS [0, 1, 2, 4, 5, 6] (by decide) rfl (fun r518 H locs hB518 back hS => ?_)
        obtain ⟨σ1518, cv1518, cm1518, he518, hq518, hb1518, hb2518, hb3518, hP1⟩ := hB518
        obtain rfl := Eq.symm he518
        obtain ⟨hP, hD⟩ := back [[ob z 5 [.ref t, .ref t2, .ref h, .ref x]], [ob t 3 [.ref o, .ref q]], wS G o a1 a2 a3 a4 σ, [ob t2 3 [.ref o2, .ref q2]], wS G o2 d1 d2 d3 d4 σ1518, wT G q2 d5 d6 cv1518 cm1518] rfl hP1
        have hP : va_P G.1 vwCl (bl [[ob z 5 [.ref t, .ref t2, .ref h, .ref x]], [ob t 3 [.ref o, .ref q]], wS G o a1 a2 a3 a4 σ, wT G q b1 b2 cv cm, [ob t2 3 [.ref o2, .ref q2]], wS G o2 d1 d2 d3 d4 σ1518, wT G q2 d5 d6 cv1518 cm1518, [ob h 0 [.int (nI sz), .ref st], arS G st 5 (fun j => some (y0 (rgt k j)))], wHs G y0 y1 y2 y3 y4 cs, wX G x g1 g2 g3 L pl nu np rr tx td tv, [ob mo 6 [.ref u0, .ref u1, .ref u2, .ref u3, .ref u4, .ref u5, .int (nI sm), .int (nI sa), .int (nI le), .int (nI ra), .int (nI fa)]], [ar G u0 481 nw], [ar G u1 481 bf], [ar G u2 2405 sts], [ar G u3 800 mk], [ar G u4 800 vl], [ar G u5 100 (fun j => nI (txm j))]]) H := hP
        have hD : va_D A (bl [[ob z 5 [.ref t, .ref t2, .ref h, .ref x]], [ob t 3 [.ref o, .ref q]], wS G o a1 a2 a3 a4 σ, wT G q b1 b2 cv cm, [ob t2 3 [.ref o2, .ref q2]], wS G o2 d1 d2 d3 d4 σ1518, wT G q2 d5 d6 cv1518 cm1518, [ob h 0 [.int (nI sz), .ref st], arS G st 5 (fun j => some (y0 (rgt k j)))], wHs G y0 y1 y2 y3 y4 cs, wX G x g1 g2 g3 L pl nu np rr tx td tv, [ob mo 6 [.ref u0, .ref u1, .ref u2, .ref u3, .ref u4, .ref u5, .int (nI sm), .int (nI sa), .int (nI le), .int (nI ra), .int (nI fa)]], [ar G u0 481 nw], [ar G u1 481 bf], [ar G u2 2405 sts], [ar G u3 800 mk], [ar G u4 800 vl], [ar G u5 100 (fun j => nI (txm j))]]) := hD
        refine lv_aload_n hx hb dL_law_521 rfl (lv_at hl 2 rfl) ?_
        refine lv_aload_n hx hb dL_law_522 rfl (lv_at hl 0 rfl) ?_
        refine lv_iload_n hx hb dL_law_523 rfl (lv_at hl 3 rfl) ?_
        refine lv_iconst (v := (nI 1)) hx hb dL_law_524 (by decide) ?_
        refine r_iadd (v := i + 1) hx hb dL_law_525 rfl ?_
        refine va_sld hx hb hX hbl hbA hS (vp_in_nI (by omega) (by omega)) dL_law_526 ?_
        refine r_top (y := (nI 1)) ((congrArg xs (nI_clamp (by omega))).trans hw9) ?_
        have hPc := bl_sub hP (is := [10, 11, 12, 14, 15]) (bc := [[ob mo 6 [.ref u0, .ref u1, .ref u2, .ref u3, .ref u4, .ref u5, .int (nI sm), .int (nI sa), .int (nI le), .int (nI ra), .int (nI fa)]], [ar G u0 481 nw], [ar G u1 481 bf], [ar G u3 800 mk], [ar G u4 800 vl]]) rfl
        have hDc := bl_subD hD [10, 11, 12, 14, 15] [[ob mo 6 [.ref u0, .ref u1, .ref u2, .ref u3, .ref u4, .ref u5, .int (nI sm), .int (nI sa), .int (nI le), .int (nI ra), .int (nI fa)]], [ar G u0 481 nw], [ar G u1 481 bf], [ar G u3 800 mk], [ar G u4 800 vl]] (by decide) rfl
        refine g_IB (bc := [[ob mo 6 [.ref u0, .ref u1, .ref u2, .ref u3, .ref u4, .ref u5, .int (nI sm), .int (nI sa), .int (nI le), .int (nI ra), .int (nI fa)]], [ar G u0 481 nw], [ar G u1 481 bf], [ar G u3 800 mk], [ar G u4 800 vl]]) (k_W (q0 := 0) (ci := 6) (n := 1) (As := [.int (nI 1)]) (rest := [.int (nI (endc cm1518))]) hx hb hml hown hts (c_X6_endBy_1 (l := l) (G := G) (mo := mo) (u0 := u0) (u1 := u1) (u2 := u2) (u3 := u3) (u4 := u4) (u5 := u5) (sm := sm) (sa := sa) (le := le) (ra := ra) (fa := fa) (σ := σ) (nw := nw) (hR := hR) (hB := hB) (bf := bf) (hF := so4) (hT2 := so5) (mk := mk) (vl := vl)) gL_law_X6_endBy rfl rfl rfl (by decide +kernel) ⟨Nat.le_of_ble_eq_true rfl, Nat.le_of_ble_eq_true rfl⟩ rfl hK hPc hDc rfl rfl rfl hl.1 rfl (Nat.le_of_ble_eq_true rfl) dL_law_527 ⟨Nat.le_of_ble_eq_true rfl, Nat.le_of_ble_eq_true rfl⟩) hP hD hS [10, 11, 12, 14, 15] (by decide) rfl (fun r527 H locs hB527 back hS => ?_)
        obtain ⟨nw1527, bf1527, mk1527, vl1527, he527, hq527, hP1⟩ := hB527
        obtain rfl := Eq.symm he527
        obtain ⟨hP, hD⟩ := back [[ob mo 6 [.ref u0, .ref u1, .ref u2, .ref u3, .ref u4, .ref u5, .int (nI sm), .int (nI sa), .int (nI le), .int (nI ra), .int (nI fa)]], [ar G u0 481 nw1527], [ar G u1 481 bf1527], [ar G u3 800 mk1527], [ar G u4 800 vl1527]] rfl hP1
        have hP : va_P G.1 vwCl (bl [[ob z 5 [.ref t, .ref t2, .ref h, .ref x]], [ob t 3 [.ref o, .ref q]], wS G o a1 a2 a3 a4 σ, wT G q b1 b2 cv cm, [ob t2 3 [.ref o2, .ref q2]], wS G o2 d1 d2 d3 d4 σ1518, wT G q2 d5 d6 cv1518 cm1518, [ob h 0 [.int (nI sz), .ref st], arS G st 5 (fun j => some (y0 (rgt k j)))], wHs G y0 y1 y2 y3 y4 cs, wX G x g1 g2 g3 L pl nu np rr tx td tv, [ob mo 6 [.ref u0, .ref u1, .ref u2, .ref u3, .ref u4, .ref u5, .int (nI sm), .int (nI sa), .int (nI le), .int (nI ra), .int (nI fa)]], [ar G u0 481 nw1527], [ar G u1 481 bf1527], [ar G u2 2405 sts], [ar G u3 800 mk1527], [ar G u4 800 vl1527], [ar G u5 100 (fun j => nI (txm j))]]) H := hP
        have hD : va_D A (bl [[ob z 5 [.ref t, .ref t2, .ref h, .ref x]], [ob t 3 [.ref o, .ref q]], wS G o a1 a2 a3 a4 σ, wT G q b1 b2 cv cm, [ob t2 3 [.ref o2, .ref q2]], wS G o2 d1 d2 d3 d4 σ1518, wT G q2 d5 d6 cv1518 cm1518, [ob h 0 [.int (nI sz), .ref st], arS G st 5 (fun j => some (y0 (rgt k j)))], wHs G y0 y1 y2 y3 y4 cs, wX G x g1 g2 g3 L pl nu np rr tx td tv, [ob mo 6 [.ref u0, .ref u1, .ref u2, .ref u3, .ref u4, .ref u5, .int (nI sm), .int (nI sa), .int (nI le), .int (nI ra), .int (nI fa)]], [ar G u0 481 nw1527], [ar G u1 481 bf1527], [ar G u2 2405 sts], [ar G u3 800 mk1527], [ar G u4 800 vl1527], [ar G u5 100 (fun j => nI (txm j))]]) := hD
        refine r_icmp_eq (P := (nI (endc cm1518)) = (nI (endc (rsM (fwN (bareS σ) (nn σ)))))) (tgt := 571) hx hb dL_law_530 (by decide) (Iff.rfl) (fun cq530 => ?_) (fun cq530 => ?_)
        · exact kk H locs ls ⟨σ, σ1518, cv, cm, cv1518, cm1518, k, sz, cs, L, pl, nu, np, rr, tx, td, tv, sm, sa, le, ra, fa, txm, nw1527, bf1527, sts, mk1527, vl1527, ⟨hLF.1, hq527, ⟨hb1518, hb2518, hb3518⟩, hHF, hTF⟩, hP, hD⟩ hS hl
        · exact absurd (by have e9 : (σ1518, cv1518, cm1518) = pan σ := hq518; rw [← e9] at so1 so2 so6; have e1 : σ1518 = _ := so1; rw [← e1]; exact congrArg nI (end_rs so6 so2).symm) cq530
  · refine lv_aload_n hx hb dL_law_512 rfl (lv_at hl 1 rfl) ?_
    refine lv_aload_n hx hb dL_law_513 rfl (lv_at hl 0 rfl) ?_
    refine lv_iload_n hx hb dL_law_514 rfl (lv_at hl 3 rfl) ?_
    refine lv_iconst (v := (nI 1)) hx hb dL_law_515 (by decide) ?_
    refine r_iadd (v := i + 1) hx hb dL_law_516 rfl ?_
    refine va_sld hx hb hX hbl hbA hS (vp_in_nI (by omega) (by omega)) dL_law_517 ?_
    refine r_top (y := (xs (i + 1))) ((congrArg xs (nI_clamp (by omega))).trans rfl) ?_
    refine g_ro (k_V (q0 := 0) (ci := 5) (n := 1) (As := [.int (xs (i + 1))]) (rest := []) (wc := []) hx hb hml hown hts (c_X5_endBy_bad (l := l) (G := G) (z := z) (xa := xs (i + 1)) (hbad := by first | assumption | omega))  gL_law_X5_endBy rfl rfl rfl (by decide +kernel) ⟨Nat.le_of_ble_eq_true rfl, Nat.le_of_ble_eq_true rfl⟩ rfl hK hP hD [] rfl (by decide)  rfl rfl rfl hl.1 rfl (Nat.le_of_ble_eq_true rfl) dL_law_518 ⟨Nat.le_of_ble_eq_true rfl, Nat.le_of_ble_eq_true rfl⟩) (fun r518 h518 => ?_)
    obtain rfl : (-1) = r518 := Eq.symm h518
    refine lv_aload_n hx hb dL_law_521 rfl (lv_at hl 2 rfl) ?_
    refine lv_aload_n hx hb dL_law_522 rfl (lv_at hl 0 rfl) ?_
    refine lv_iload_n hx hb dL_law_523 rfl (lv_at hl 3 rfl) ?_
    refine lv_iconst (v := (nI 1)) hx hb dL_law_524 (by decide) ?_
    refine r_iadd (v := i + 1) hx hb dL_law_525 rfl ?_
    refine va_sld hx hb hX hbl hbA hS (vp_in_nI (by omega) (by omega)) dL_law_526 ?_
    refine r_top (y := (xs (i + 1))) ((congrArg xs (nI_clamp (by omega))).trans rfl) ?_
    refine g_ro (k_V (q0 := 50) (ci := 6) (n := 1) (As := [.int (xs (i + 1))]) (rest := [.int (-1)]) (wc := []) hx hb hml hown hts (c_X6_endBy_bad (l := l) (G := G) (mo := mo) (xa := xs (i + 1)) (hbad := by first | assumption | omega))  gL_law_X6_endBy rfl rfl rfl (by decide +kernel) ⟨Nat.le_of_ble_eq_true rfl, Nat.le_of_ble_eq_true rfl⟩ rfl hK hP hD [] rfl (by decide)  rfl rfl rfl hl.1 rfl (Nat.le_of_ble_eq_true rfl) dL_law_527 ⟨Nat.le_of_ble_eq_true rfl, Nat.le_of_ble_eq_true rfl⟩) (fun r527 h527 => ?_)
    obtain rfl : (-1) = r527 := Eq.symm h527
    refine r_icmp_eq (P := (-1) = (-1)) (tgt := 571) hx hb dL_law_530 (by decide) (Iff.rfl) (fun cq530 => ?_) (fun cq530 => ?_)
    · exact kk H locs ls ⟨σ, φ, cv, cm, cvf, cmf, k, sz, cs, L, pl, nu, np, rr, tx, td, tv, sm, sa, le, ra, fa, txm, nw, bf, sts, mk, vl, hLF, hP, hD⟩ hS hl
    · exact absurd (rfl) cq530
