set_option maxHeartbeats 2000000 in
set_option maxRecDepth 100000 in
theorem lc_read {p : Program} {e : Env} {s : State} {m : MethodId} {below : List Frame} {meth : Method} {cod : Code} {l : Launch} {G : kG} {b L0 i : Nat} {xs : Nat → Int32} {z t o a1 a2 a3 a4 q b1 b2 t2 o2 d1 d2 d3 d4 q2 d5 d6 h st : Nat} {y0 y1 y2 y3 y4 : Nat → Nat} {x g1 g2 g3 mo u0 u1 u2 u3 u4 u5 : Nat} {H : Heap} {locs : List Loc} {ls : Array Slot} (hL0 : L0 ≤ 2048) (C0 : lw_At p s m meth cod b L0 xs) (hK : KK G s) (hi : i + 4 ≤ L0) (hI : LI G (fun q9 : Nat => s.heap.size ≤ q9) z t o a1 a2 a3 a4 q b1 b2 t2 o2 d1 d2 d3 d4 q2 d5 d6 h st y0 y1 y2 y3 y4 x g1 g2 g3 mo u0 u1 u2 u3 u4 u5 H) (hS : va_S (fun q9 : Nat => s.heap.size ≤ q9) s.heap H locs) (hl : lv_has ls 4 [(0, .ref b), (1, .ref z), (2, .ref mo), (3, .int (nI i))]) (kk : ∀ (H : Heap) (locs : List Loc) (ls : Array Slot), LI G (fun q9 : Nat => s.heap.size ≤ q9) z t o a1 a2 a3 a4 q b1 b2 t2 o2 d1 d2 d3 d4 q2 d5 d6 h st y0 y1 y2 y3 y4 x g1 g2 g3 mo u0 u1 u2 u3 u4 u5 H → va_S (fun q9 : Nat => s.heap.size ≤ q9) s.heap H locs → lv_has ls 4 [(0, .ref b), (1, .ref z), (2, .ref mo), (3, .int (nI i))] → W p l e room_1 s m #[Value.ref b] below meth cod H locs 57 12040 (lw_Z below #[Value.ref b] s) (F0 m 571 ls [])) : W p l e room_1 s m #[Value.ref b] below meth cod H locs 57 12040 (lw_Z below #[Value.ref b] s) (F0 m 321 ls []) := by
  have hq0 := C0
  obtain ⟨hx, hb, hr, hml, hown, hts0, hX, hbl, hlocks, hgv⟩ := hq0
  have hts : ∀ w ∈ wsL_law, w.before #[Value.ref b] s = true := fun w hw => hts0 w (wsL_law_in w hw)
  generalize hA9 : (fun q9 : Nat => s.heap.size ≤ q9) = A at hS hI kk
  have hbA : ¬ A b := by rw [← hA9]; exact Nat.not_le.mpr hbl
  obtain ⟨σ, φ, cv, cm, cvf, cmf, k, sz, cs, L, pl, nu, np, rr, tx, td, tv, sm, sa, le, ra, fa, txm, nw, bf, sts, mk, vl, hLF, hP, hD⟩ := hI
  have hcop := hLF
  obtain ⟨⟨hB, hv, hm, hJ, hFu⟩, hR, ⟨hBf, hvf, hmf⟩, hHF, hTF⟩ := hcop
  have hcop2 := hHF
  obtain ⟨hk, hsz, hcs, hsm1, hsa1, hhs⟩ := hcop2
  have hcop3 := hTF
  obtain ⟨hL, ht, htp, htd, htv, hle1, htx1⟩ := hcop3
  have h24 := hB.n
  have hsm : sm ≤ 5 := by omega
  have hsa : sa < 5 := by rw [hsa1]; exact rgt_lt _ _
  have hle : le ≤ 100 := by omega
  refine lv_aload_n hx hb dL_law_321 rfl (lv_at hl 1 rfl) ?_
  have hPc := bl_sub hP (is := [0, 1, 2, 3, 7, 8, 9]) (bc := [[ob z 5 [.ref t, .ref t2, .ref h, .ref x]], [ob t 3 [.ref o, .ref q]], wS G o a1 a2 a3 a4 σ, wT G q b1 b2 cv cm, [ob h 0 [.int (nI sz), .ref st], arS G st 5 (fun j => some (y0 (rgt k j)))], wHs G y0 y1 y2 y3 y4 cs, wX G x g1 g2 g3 L pl nu np rr tx td tv]) rfl
  have hDc := bl_subD hD [0, 1, 2, 3, 7, 8, 9] [[ob z 5 [.ref t, .ref t2, .ref h, .ref x]], [ob t 3 [.ref o, .ref q]], wS G o a1 a2 a3 a4 σ, wT G q b1 b2 cv cm, [ob h 0 [.int (nI sz), .ref st], arS G st 5 (fun j => some (y0 (rgt k j)))], wHs G y0 y1 y2 y3 y4 cs, wX G x g1 g2 g3 L pl nu np rr tx td tv] (by decide) rfl
  refine g_IB (bc := [[ob z 5 [.ref t, .ref t2, .ref h, .ref x]], [ob t 3 [.ref o, .ref q]], wS G o a1 a2 a3 a4 σ, wT G q b1 b2 cv cm, [ob h 0 [.int (nI sz), .ref st], arS G st 5 (fun j => some (y0 (rgt k j)))], wHs G y0 y1 y2 y3 y4 cs, wX G x g1 g2 g3 L pl nu np rr tx td tv]) (k_W (q0 := 0) (ci := 5) (n := 0) (As := []) (rest := []) hx hb hml hown hts (c_X5_read (l := l) (G := G) (z := z) (t := t) (t2 := t2) (h := h) (x := x) (o := o) (a1 := a1) (a2 := a2) (a3 := a3) (a4 := a4) (σ := σ) (q := q) (b1 := b1) (b2 := b2) (cv := cv) (cm := cm) (st := st) (y0 := y0) (y1 := y1) (y2 := y2) (y3 := y3) (y4 := y4) (k := k) (sz := sz) (cs := cs) (hk := by first | assumption | omega) (hsz := by first | assumption | omega) (hB := by first | assumption | omega) (hv := by first | assumption | omega) (hm := by first | assumption | omega) (g1 := g1) (g2 := g2) (g3 := g3) (L := L) (pl := pl) (nu := nu) (np := np) (rr := rr) (tx := tx) (td := td) (tv := tv) (hL := by first | assumption | omega) (ht := by first | assumption | omega) (htd := by first | assumption | omega) (htv := by first | assumption | omega)) gL_law_X5_read rfl rfl rfl (by decide +kernel) ⟨Nat.le_of_ble_eq_true rfl, Nat.le_of_ble_eq_true rfl⟩ rfl hK hPc hDc rfl rfl rfl hl.1 rfl (Nat.le_of_ble_eq_true rfl) dL_law_322 ⟨Nat.le_of_ble_eq_true rfl, Nat.le_of_ble_eq_true rfl⟩) hP hD hS [0, 1, 2, 3, 7, 8, 9] (by decide) rfl (fun r322 H locs hB322 back hS => ?_)
  obtain ⟨vr322, L1322, k1322, sz1322, cs1322, σ1322, cv1322, cm1322, pl1322, nu1322, np1322, rr1322, td1322, tv1322, he322, hC322, hb1322, hb2322, hb3322, htd1322, htv1322, hP1⟩ := hB322
  obtain rfl := Eq.symm he322
  obtain ⟨hP, hD⟩ := back [[ob z 5 [.ref t, .ref t2, .ref h, .ref x]], [ob t 3 [.ref o, .ref q]], wS G o a1 a2 a3 a4 σ1322, wT G q b1 b2 cv1322 cm1322, [ob h 0 [.int (nI sz1322), .ref st], arS G st 5 (fun j => some (y0 (rgt k1322 j)))], wHs G y0 y1 y2 y3 y4 cs1322, wX G x g1 g2 g3 L1322 pl1322 nu1322 np1322 rr1322 tx td1322 tv1322] rfl hP1
  have hP : va_P G.1 vwCl (bl [[ob z 5 [.ref t, .ref t2, .ref h, .ref x]], [ob t 3 [.ref o, .ref q]], wS G o a1 a2 a3 a4 σ1322, wT G q b1 b2 cv1322 cm1322, [ob t2 3 [.ref o2, .ref q2]], wS G o2 d1 d2 d3 d4 φ, wT G q2 d5 d6 cvf cmf, [ob h 0 [.int (nI sz1322), .ref st], arS G st 5 (fun j => some (y0 (rgt k1322 j)))], wHs G y0 y1 y2 y3 y4 cs1322, wX G x g1 g2 g3 L1322 pl1322 nu1322 np1322 rr1322 tx td1322 tv1322, [ob mo 6 [.ref u0, .ref u1, .ref u2, .ref u3, .ref u4, .ref u5, .int (nI sm), .int (nI sa), .int (nI le), .int (nI ra), .int (nI fa)]], [ar G u0 481 nw], [ar G u1 481 bf], [ar G u2 2405 sts], [ar G u3 800 mk], [ar G u4 800 vl], [ar G u5 100 (fun j => nI (txm j))]]) H := hP
  have hD : va_D A (bl [[ob z 5 [.ref t, .ref t2, .ref h, .ref x]], [ob t 3 [.ref o, .ref q]], wS G o a1 a2 a3 a4 σ1322, wT G q b1 b2 cv1322 cm1322, [ob t2 3 [.ref o2, .ref q2]], wS G o2 d1 d2 d3 d4 φ, wT G q2 d5 d6 cvf cmf, [ob h 0 [.int (nI sz1322), .ref st], arS G st 5 (fun j => some (y0 (rgt k1322 j)))], wHs G y0 y1 y2 y3 y4 cs1322, wX G x g1 g2 g3 L1322 pl1322 nu1322 np1322 rr1322 tx td1322 tv1322, [ob mo 6 [.ref u0, .ref u1, .ref u2, .ref u3, .ref u4, .ref u5, .int (nI sm), .int (nI sa), .int (nI le), .int (nI ra), .int (nI fa)]], [ar G u0 481 nw], [ar G u1 481 bf], [ar G u2 2405 sts], [ar G u3 800 mk], [ar G u4 800 vl], [ar G u5 100 (fun j => nI (txm j))]]) := hD
  refine lv_aload_n hx hb dL_law_325 rfl (lv_at hl 2 rfl) ?_
  have hPc := bl_sub hP (is := [10, 11, 12, 13, 14, 15, 16]) (bc := [[ob mo 6 [.ref u0, .ref u1, .ref u2, .ref u3, .ref u4, .ref u5, .int (nI sm), .int (nI sa), .int (nI le), .int (nI ra), .int (nI fa)]], [ar G u0 481 nw], [ar G u1 481 bf], [ar G u2 2405 sts], [ar G u3 800 mk], [ar G u4 800 vl], [ar G u5 100 (fun j => nI (txm j))]]) rfl
  have hDc := bl_subD hD [10, 11, 12, 13, 14, 15, 16] [[ob mo 6 [.ref u0, .ref u1, .ref u2, .ref u3, .ref u4, .ref u5, .int (nI sm), .int (nI sa), .int (nI le), .int (nI ra), .int (nI fa)]], [ar G u0 481 nw], [ar G u1 481 bf], [ar G u2 2405 sts], [ar G u3 800 mk], [ar G u4 800 vl], [ar G u5 100 (fun j => nI (txm j))]] (by decide) rfl
  refine g_IB (bc := [[ob mo 6 [.ref u0, .ref u1, .ref u2, .ref u3, .ref u4, .ref u5, .int (nI sm), .int (nI sa), .int (nI le), .int (nI ra), .int (nI fa)]], [ar G u0 481 nw], [ar G u1 481 bf], [ar G u2 2405 sts], [ar G u3 800 mk], [ar G u4 800 vl], [ar G u5 100 (fun j => nI (txm j))]]) (k_W (q0 := 0) (ci := 6) (n := 0) (As := []) (rest := [.int vr322]) hx hb hml hown hts (c_X6_read (l := l) (G := G) (mo := mo) (u0 := u0) (u1 := u1) (u2 := u2) (u3 := u3) (u4 := u4) (u5 := u5) (sm := sm) (sa := sa) (le := le) (ra := ra) (fa := fa) (tx := txm) (hle := by first | assumption | omega) (htx := (by rw [htx1]; exact ht)) (σ := σ) (nw := nw) (hR := hR) (hB := hB) (bf := bf) (sts := sts) (hsa := by first | assumption | omega) (hsm := by first | assumption | omega) (htp := (by rw [htx1, hle1]; exact htp)) (td := td) (tv := tv) (htd := by first | assumption | omega) (htv := by first | assumption | omega) (hF := (FP_read hB hJ hFu)) (mk := mk) (vl := vl)) gL_law_X6_read rfl rfl rfl (by decide +kernel) ⟨Nat.le_of_ble_eq_true rfl, Nat.le_of_ble_eq_true rfl⟩ rfl hK hPc hDc rfl rfl rfl hl.1 rfl (Nat.le_of_ble_eq_true rfl) dL_law_326 ⟨Nat.le_of_ble_eq_true rfl, Nat.le_of_ble_eq_true rfl⟩) hP hD hS [10, 11, 12, 13, 14, 15, 16] (by decide) rfl (fun r326 H locs hB326 back hS => ?_)
  obtain ⟨vr326, nw1326, bf1326, sts1326, sm1326, sa1326, le1326, ra1326, fa1326, mk1326, vl1326, he326, hC326, hP1⟩ := hB326
  obtain rfl := Eq.symm he326
  obtain ⟨hP, hD⟩ := back [[ob mo 6 [.ref u0, .ref u1, .ref u2, .ref u3, .ref u4, .ref u5, .int (nI sm1326), .int (nI sa1326), .int (nI le1326), .int (nI ra1326), .int (nI fa1326)]], [ar G u0 481 nw1326], [ar G u1 481 bf1326], [ar G u2 2405 sts1326], [ar G u3 800 mk1326], [ar G u4 800 vl1326], [ar G u5 100 (fun j => nI (txm j))]] rfl hP1
  have hP : va_P G.1 vwCl (bl [[ob z 5 [.ref t, .ref t2, .ref h, .ref x]], [ob t 3 [.ref o, .ref q]], wS G o a1 a2 a3 a4 σ1322, wT G q b1 b2 cv1322 cm1322, [ob t2 3 [.ref o2, .ref q2]], wS G o2 d1 d2 d3 d4 φ, wT G q2 d5 d6 cvf cmf, [ob h 0 [.int (nI sz1322), .ref st], arS G st 5 (fun j => some (y0 (rgt k1322 j)))], wHs G y0 y1 y2 y3 y4 cs1322, wX G x g1 g2 g3 L1322 pl1322 nu1322 np1322 rr1322 tx td1322 tv1322, [ob mo 6 [.ref u0, .ref u1, .ref u2, .ref u3, .ref u4, .ref u5, .int (nI sm1326), .int (nI sa1326), .int (nI le1326), .int (nI ra1326), .int (nI fa1326)]], [ar G u0 481 nw1326], [ar G u1 481 bf1326], [ar G u2 2405 sts1326], [ar G u3 800 mk1326], [ar G u4 800 vl1326], [ar G u5 100 (fun j => nI (txm j))]]) H := hP
  have hD : va_D A (bl [[ob z 5 [.ref t, .ref t2, .ref h, .ref x]], [ob t 3 [.ref o, .ref q]], wS G o a1 a2 a3 a4 σ1322, wT G q b1 b2 cv1322 cm1322, [ob t2 3 [.ref o2, .ref q2]], wS G o2 d1 d2 d3 d4 φ, wT G q2 d5 d6 cvf cmf, [ob h 0 [.int (nI sz1322), .ref st], arS G st 5 (fun j => some (y0 (rgt k1322 j)))], wHs G y0 y1 y2 y3 y4 cs1322, wX G x g1 g2 g3 L1322 pl1322 nu1322 np1322 rr1322 tx td1322 tv1322, [ob mo 6 [.ref u0, .ref u1, .ref u2, .ref u3, .ref u4, .ref u5, .int (nI sm1326), .int (nI sa1326), .int (nI le1326), .int (nI ra1326), .int (nI fa1326)]], [ar G u0 481 nw1326], [ar G u1 481 bf1326], [ar G u2 2405 sts1326], [ar G u3 800 mk1326], [ar G u4 800 vl1326], [ar G u5 100 (fun j => nI (txm j))]]) := hD
  obtain ⟨rn1, rj1, R1, rt1, rc1⟩ := hC322
  obtain ⟨rn2, rj2, R2, rt2, rc2⟩ := hC326
  rw [htx1, hle1] at rt2
  obtain rfl := tbE_one rt1 rt2
  have hfin : vr322 = vr326 ∧ LF σ1322 φ cv1322 cm1322 cvf cmf k1322 sz1322 cs1322 L1322 tx td1322 tv1322 sm1326 sa1326 le1326 txm nw1326 sts1326 := by
    rcases rc1 with ⟨c1, c2, c3, c4, c5, c6, c7⟩ | ⟨c1, c2, c3, c4, c5, c6, c7, c8⟩
    · rcases rc2 with ⟨e1, e2, e3, e4, e5, e6, e7⟩ | ⟨e1, -⟩
      · obtain ⟨t1, t2, t3⟩ := tri c7
        have t1 : σ1322 = σ := t1
        have t2 : cv1322 = cv := t2
        have t3 : cm1322 = cm := t3
        refine ⟨c2.trans e2.symm, ?_⟩
        rw [t1, t2, t3, c3, c4, c5, c6, e3, e4, e5, e6]
        exact ⟨hLF.1, e7, hLF.2.2.1, hHF, ⟨hL, ht, htp, htd1322, htv1322, hle1, htx1⟩⟩
      · exact Bool.noConfusion (c1.symm.trans e1)
    · rcases rc2 with ⟨e1, -⟩ | ⟨e1, e2, e3, e4, e5, e6, e7⟩
      · exact Bool.noConfusion (c1.symm.trans e1)
      · obtain ⟨w1, w2⟩ := tbE_lt rt1 htd htv
        obtain ⟨n1, n2, n3⟩ := adN_ok hB hJ hFu w1 w2 R1.2.2.1 (by omega)
        rw [← c8] at n1 n2 n3
        have n1 : σ1322 = _ := n1
        refine ⟨c2.trans e2.symm, ?_⟩
        rw [c3, e3, e5]
        exact ⟨⟨hb1322, hb2322, hb3322, n2, n3⟩, by rw [n1]; exact e7, hLF.2.2.1, HF_act hHF hB ⟨hR, hFu, _, _, hJ⟩ c5 c6 c7 e4 e6, ⟨Nat.zero_le _, ht, fun j hj => absurd hj (Nat.not_lt_zero j), htd1322, htv1322, rfl, htx1⟩⟩
  obtain ⟨hve, hLF2⟩ := hfin
  refine r_icmp_eq (P := vr322 = vr326) (tgt := 571) hx hb dL_law_329 (by decide) (Iff.rfl) (fun cq329 => ?_) (fun cq329 => ?_)
  · exact kk H locs ls ⟨σ1322, φ, cv1322, cm1322, cvf, cmf, k1322, sz1322, cs1322, L1322, pl1322, nu1322, np1322, rr1322, tx, td1322, tv1322, sm1326, sa1326, le1326, ra1326, fa1326, txm, nw1326, bf1326, sts1326, mk1326, vl1326, hLF2, hP, hD⟩ hS hl
  · exact absurd (hve) cq329
