set_option maxHeartbeats 2000000 in
set_option maxRecDepth 100000 in
theorem lc_undo {p : Program} {e : Env} {s : State} {m : MethodId} {below : List Frame} {meth : Method} {cod : Code} {l : Launch} {G : kG} {b L0 i : Nat} {xs : Nat → Int32} {z t o a1 a2 a3 a4 q b1 b2 t2 o2 d1 d2 d3 d4 q2 d5 d6 h st : Nat} {y0 y1 y2 y3 y4 : Nat → Nat} {x g1 g2 g3 mo u0 u1 u2 u3 u4 u5 : Nat} {H : Heap} {locs : List Loc} {ls : Array Slot} (hL0 : L0 ≤ 2048) (C0 : lw_At p s m meth cod b L0 xs) (hK : KK G s) (hi : i + 4 ≤ L0) (hI : LI G (fun q9 : Nat => s.heap.size ≤ q9) z t o a1 a2 a3 a4 q b1 b2 t2 o2 d1 d2 d3 d4 q2 d5 d6 h st y0 y1 y2 y3 y4 x g1 g2 g3 mo u0 u1 u2 u3 u4 u5 H) (hS : va_S (fun q9 : Nat => s.heap.size ≤ q9) s.heap H locs) (hl : lv_has ls 4 [(0, .ref b), (1, .ref z), (2, .ref mo), (3, .int (nI i))]) (kk : ∀ (H : Heap) (locs : List Loc) (ls : Array Slot), LI G (fun q9 : Nat => s.heap.size ≤ q9) z t o a1 a2 a3 a4 q b1 b2 t2 o2 d1 d2 d3 d4 q2 d5 d6 h st y0 y1 y2 y3 y4 x g1 g2 g3 mo u0 u1 u2 u3 u4 u5 H → va_S (fun q9 : Nat => s.heap.size ≤ q9) s.heap H locs → lv_has ls 4 [(0, .ref b), (1, .ref z), (2, .ref mo), (3, .int (nI i))] → W p l e room_1 s m #[Value.ref b] below meth cod H locs 57 12040 (lw_Z below #[Value.ref b] s) (F0 m 571 ls [])) : W p l e room_1 s m #[Value.ref b] below meth cod H locs 57 12040 (lw_Z below #[Value.ref b] s) (F0 m 272 ls []) := by
  have hq0 := C0
  obtain ⟨hx, hb, hr, hml, hown, hts0, hX, hbl, hlocks, hgv⟩ := hq0
  have hts : ∀ w ∈ wsL_law, w.before #[Value.ref b] s = true := fun w hw => hts0 w (wsL_law_in w hw)
  generalize hA9 : (fun q9 : Nat => s.heap.size ≤ q9) = A at hS hI kk
  have hbA : ¬ A b := by rw [← hA9]; exact Nat.not_le.mpr hbl
  obtain ⟨σ, φ, cv, cm, cvf, cmf, k, sz, cs, L, pl, nu, np, rr, tx, td, tv, sm, sa, le, ra, fa, txm, nw, bf, sts, mk, vl, hLF, hP, hD⟩ := hI
  have hcop := hLF
  obtain ⟨⟨hB, hv, hm, hJ, hFu⟩, hR, ⟨hBf, hvf, hmf⟩, hHF, hTF⟩ := hcop
  have hcop2 := hHF
  obtain ⟨hk, hsz, hcs, hsm1, hsa1, hhs⟩ := hcop2
  have hcop3 := hTF
  obtain ⟨hL, ht, htp, htd, htv, hle1, htx1⟩ := hcop3
  have h24 := hB.n
  have hsm : sm ≤ 5 := by omega
  have hsa : sa < 5 := by rw [hsa1]; exact rgt_lt _ _
  have hle : le ≤ 100 := by omega
  rcases Nat.eq_zero_or_pos sz with cz1 | cz1
  · refine lv_aload_n hx hb dL_law_272 rfl (lv_at hl 1 rfl) ?_
    refine g_ro (k_V (q0 := 0) (ci := 5) (n := 0) (As := []) (rest := []) (wc := [ob z 5 [.ref t, .ref t2, .ref h, .ref x], ob h 0 [.int (nI sz), .ref st]]) hx hb hml hown hts (c_X5_undo_bad (l := l) (G := G) (z := z) (t := t) (t2 := t2) (h := h) (x := x) (st := st) (y0 := y0) (y1 := y1) (y2 := y2) (y3 := y3) (y4 := y4) (k := k) (sz := sz) (cs := cs) (hk := by first | assumption | omega) (hsz := by first | assumption | omega) (h0 := cz1))  gL_law_X5_undo rfl rfl rfl (by decide +kernel) ⟨Nat.le_of_ble_eq_true rfl, Nat.le_of_ble_eq_true rfl⟩ rfl hK hP hD [0, 19] rfl (by decide)  rfl rfl rfl hl.1 rfl (Nat.le_of_ble_eq_true rfl) dL_law_273 ⟨Nat.le_of_ble_eq_true rfl, Nat.le_of_ble_eq_true rfl⟩) (fun r273 h273 => ?_)
    obtain rfl : (-2) = r273 := Eq.symm h273
    refine lv_aload_n hx hb dL_law_276 rfl (lv_at hl 2 rfl) ?_
    have hPc := bl_sub hP (is := [10]) (bc := [[ob mo 6 [.ref u0, .ref u1, .ref u2, .ref u3, .ref u4, .ref u5, .int (nI sm), .int (nI sa), .int (nI le), .int (nI ra), .int (nI fa)]]]) rfl
    have hDc := bl_subD hD [10] [[ob mo 6 [.ref u0, .ref u1, .ref u2, .ref u3, .ref u4, .ref u5, .int (nI sm), .int (nI sa), .int (nI le), .int (nI ra), .int (nI fa)]]] (by decide) rfl
    refine g_ro (k_W (q0 := 0) (ci := 6) (n := 0) (As := []) (rest := [.int (-2)]) hx hb hml hown hts (c_X6_undo_bad (l := l) (G := G) (mo := mo) (u0 := u0) (u1 := u1) (u2 := u2) (u3 := u3) (u4 := u4) (u5 := u5) (sm := sm) (sa := sa) (le := le) (ra := ra) (fa := fa) (h0 := (by omega))) gL_law_X6_undo rfl rfl rfl (by decide +kernel) ⟨Nat.le_of_ble_eq_true rfl, Nat.le_of_ble_eq_true rfl⟩ rfl hK hPc hDc rfl rfl rfl hl.1 rfl (Nat.le_of_ble_eq_true rfl) dL_law_277 ⟨Nat.le_of_ble_eq_true rfl, Nat.le_of_ble_eq_true rfl⟩) (fun r277 h277 => ?_)
    obtain rfl : (-2) = r277 := Eq.symm h277
    refine r_icmp_eq (P := (-2) = (-2)) (tgt := 571) hx hb dL_law_280 (by decide) (Iff.rfl) (fun cq280 => ?_) (fun cq280 => ?_)
    · exact kk H locs ls ⟨σ, φ, cv, cm, cvf, cmf, k, sz, cs, L, pl, nu, np, rr, tx, td, tv, sm, sa, le, ra, fa, txm, nw, bf, sts, mk, vl, hLF, hP, hD⟩ hS hl
    · exact absurd (rfl) cq280
  · obtain ⟨so1, so2⟩ := HF_undo hHF cz1
    obtain ⟨hs1, hs2, cv9, cm9, hs3⟩ := hhs (sz - 1) (by omega)
    have hB9 := hcs (rgt k (sz - 1))
    have so3 := J_rsT hB9 hs3
    have so4 := rsT_1 (cs (rgt k (sz - 1))) (nn (cs (rgt k (sz - 1))))
    · refine lv_aload_n hx hb dL_law_272 rfl (lv_at hl 1 rfl) ?_
      have hPc := bl_sub hP (is := [0, 1, 2, 3, 7, 8]) (bc := [[ob z 5 [.ref t, .ref t2, .ref h, .ref x]], [ob t 3 [.ref o, .ref q]], wS G o a1 a2 a3 a4 σ, wT G q b1 b2 cv cm, [ob h 0 [.int (nI sz), .ref st], arS G st 5 (fun j => some (y0 (rgt k j)))], wHs G y0 y1 y2 y3 y4 cs]) rfl
      have hDc := bl_subD hD [0, 1, 2, 3, 7, 8] [[ob z 5 [.ref t, .ref t2, .ref h, .ref x]], [ob t 3 [.ref o, .ref q]], wS G o a1 a2 a3 a4 σ, wT G q b1 b2 cv cm, [ob h 0 [.int (nI sz), .ref st], arS G st 5 (fun j => some (y0 (rgt k j)))], wHs G y0 y1 y2 y3 y4 cs] (by decide) rfl
      refine g_IB (bc := [[ob z 5 [.ref t, .ref t2, .ref h, .ref x]], [ob t 3 [.ref o, .ref q]], wS G o a1 a2 a3 a4 σ, wT G q b1 b2 cv cm, [ob h 0 [.int (nI sz), .ref st], arS G st 5 (fun j => some (y0 (rgt k j)))], wHs G y0 y1 y2 y3 y4 cs]) (k_W (q0 := 0) (ci := 5) (n := 0) (As := []) (rest := []) hx hb hml hown hts (c_X5_undo_ok (l := l) (G := G) (z := z) (t := t) (t2 := t2) (h := h) (x := x) (o := o) (a1 := a1) (a2 := a2) (a3 := a3) (a4 := a4) (σ := σ) (q := q) (b1 := b1) (b2 := b2) (cv := cv) (cm := cm) (st := st) (y0 := y0) (y1 := y1) (y2 := y2) (y3 := y3) (y4 := y4) (k := k) (sz := sz) (cs := cs) (hk := by first | assumption | omega) (hsz := by first | assumption | omega) (hB := by first | assumption | omega) (hv := by first | assumption | omega) (hm := by first | assumption | omega) (h0 := cz1) (hcs := by first | assumption | omega)) gL_law_X5_undo rfl rfl rfl (by decide +kernel) ⟨Nat.le_of_ble_eq_true rfl, Nat.le_of_ble_eq_true rfl⟩ rfl hK hPc hDc rfl rfl rfl hl.1 rfl (Nat.le_of_ble_eq_true rfl) dL_law_273 ⟨Nat.le_of_ble_eq_true rfl, Nat.le_of_ble_eq_true rfl⟩) hP hD hS [0, 1, 2, 3, 7, 8] (by decide) rfl (fun r273 H locs hB273 back hS => ?_)
      obtain ⟨σ1273, cv1273, cm1273, he273, hq273, hb1273, hb2273, hb3273, hP1⟩ := hB273
      obtain rfl := Eq.symm he273
      obtain ⟨hP, hD⟩ := back [[ob z 5 [.ref t, .ref t2, .ref h, .ref x]], [ob t 3 [.ref o, .ref q]], wS G o a1 a2 a3 a4 σ1273, wT G q b1 b2 cv1273 cm1273, [ob h 0 [.int (nI (sz - 1)), .ref st], arS G st 5 (fun j => some (y0 (rgt k j)))], wHs G y0 y1 y2 y3 y4 cs] rfl hP1
      have hP : va_P G.1 vwCl (bl [[ob z 5 [.ref t, .ref t2, .ref h, .ref x]], [ob t 3 [.ref o, .ref q]], wS G o a1 a2 a3 a4 σ1273, wT G q b1 b2 cv1273 cm1273, [ob t2 3 [.ref o2, .ref q2]], wS G o2 d1 d2 d3 d4 φ, wT G q2 d5 d6 cvf cmf, [ob h 0 [.int (nI (sz - 1)), .ref st], arS G st 5 (fun j => some (y0 (rgt k j)))], wHs G y0 y1 y2 y3 y4 cs, wX G x g1 g2 g3 L pl nu np rr tx td tv, [ob mo 6 [.ref u0, .ref u1, .ref u2, .ref u3, .ref u4, .ref u5, .int (nI sm), .int (nI sa), .int (nI le), .int (nI ra), .int (nI fa)]], [ar G u0 481 nw], [ar G u1 481 bf], [ar G u2 2405 sts], [ar G u3 800 mk], [ar G u4 800 vl], [ar G u5 100 (fun j => nI (txm j))]]) H := hP
      have hD : va_D A (bl [[ob z 5 [.ref t, .ref t2, .ref h, .ref x]], [ob t 3 [.ref o, .ref q]], wS G o a1 a2 a3 a4 σ1273, wT G q b1 b2 cv1273 cm1273, [ob t2 3 [.ref o2, .ref q2]], wS G o2 d1 d2 d3 d4 φ, wT G q2 d5 d6 cvf cmf, [ob h 0 [.int (nI (sz - 1)), .ref st], arS G st 5 (fun j => some (y0 (rgt k j)))], wHs G y0 y1 y2 y3 y4 cs, wX G x g1 g2 g3 L pl nu np rr tx td tv, [ob mo 6 [.ref u0, .ref u1, .ref u2, .ref u3, .ref u4, .ref u5, .int (nI sm), .int (nI sa), .int (nI le), .int (nI ra), .int (nI fa)]], [ar G u0 481 nw], [ar G u1 481 bf], [ar G u2 2405 sts], [ar G u3 800 mk], [ar G u4 800 vl], [ar G u5 100 (fun j => nI (txm j))]]) := hD
      refine lv_aload_n hx hb dL_law_276 rfl (lv_at hl 2 rfl) ?_
      have hPc := bl_sub hP (is := [10, 11, 13]) (bc := [[ob mo 6 [.ref u0, .ref u1, .ref u2, .ref u3, .ref u4, .ref u5, .int (nI sm), .int (nI sa), .int (nI le), .int (nI ra), .int (nI fa)]], [ar G u0 481 nw], [ar G u2 2405 sts]]) rfl
      have hDc := bl_subD hD [10, 11, 13] [[ob mo 6 [.ref u0, .ref u1, .ref u2, .ref u3, .ref u4, .ref u5, .int (nI sm), .int (nI sa), .int (nI le), .int (nI ra), .int (nI fa)]], [ar G u0 481 nw], [ar G u2 2405 sts]] (by decide) rfl
      refine g_IB (bc := [[ob mo 6 [.ref u0, .ref u1, .ref u2, .ref u3, .ref u4, .ref u5, .int (nI sm), .int (nI sa), .int (nI le), .int (nI ra), .int (nI fa)]], [ar G u0 481 nw], [ar G u2 2405 sts]]) (k_W (q0 := 0) (ci := 6) (n := 0) (As := []) (rest := [.int (nI (sz - 1))]) hx hb hml hown hts (c_X6_undo_ok (l := l) (G := G) (mo := mo) (u0 := u0) (u1 := u1) (u2 := u2) (u3 := u3) (u4 := u4) (u5 := u5) (sm := sm) (sa := sa) (le := le) (ra := ra) (fa := fa) (nw := nw) (sts := sts) (hsa := by first | assumption | omega) (hsm := by first | assumption | omega) (h0 := (by omega))) gL_law_X6_undo rfl rfl rfl (by decide +kernel) ⟨Nat.le_of_ble_eq_true rfl, Nat.le_of_ble_eq_true rfl⟩ rfl hK hPc hDc rfl rfl rfl hl.1 rfl (Nat.le_of_ble_eq_true rfl) dL_law_277 ⟨Nat.le_of_ble_eq_true rfl, Nat.le_of_ble_eq_true rfl⟩) hP hD hS [10, 11, 13] (by decide) rfl (fun r277 H locs hB277 back hS => ?_)
      obtain ⟨nw1277, he277, hq277, hP1⟩ := hB277
      obtain rfl := Eq.symm he277
      obtain ⟨hP, hD⟩ := back [[ob mo 6 [.ref u0, .ref u1, .ref u2, .ref u3, .ref u4, .ref u5, .int (nI (sm - 1)), .int (nI ((sa + 5 - 1) % 5)), .int (nI le), .int (nI ra), .int (nI fa)]], [ar G u0 481 nw1277], [ar G u2 2405 sts]] rfl hP1
      have hP : va_P G.1 vwCl (bl [[ob z 5 [.ref t, .ref t2, .ref h, .ref x]], [ob t 3 [.ref o, .ref q]], wS G o a1 a2 a3 a4 σ1273, wT G q b1 b2 cv1273 cm1273, [ob t2 3 [.ref o2, .ref q2]], wS G o2 d1 d2 d3 d4 φ, wT G q2 d5 d6 cvf cmf, [ob h 0 [.int (nI (sz - 1)), .ref st], arS G st 5 (fun j => some (y0 (rgt k j)))], wHs G y0 y1 y2 y3 y4 cs, wX G x g1 g2 g3 L pl nu np rr tx td tv, [ob mo 6 [.ref u0, .ref u1, .ref u2, .ref u3, .ref u4, .ref u5, .int (nI (sm - 1)), .int (nI ((sa + 5 - 1) % 5)), .int (nI le), .int (nI ra), .int (nI fa)]], [ar G u0 481 nw1277], [ar G u1 481 bf], [ar G u2 2405 sts], [ar G u3 800 mk], [ar G u4 800 vl], [ar G u5 100 (fun j => nI (txm j))]]) H := hP
      have hD : va_D A (bl [[ob z 5 [.ref t, .ref t2, .ref h, .ref x]], [ob t 3 [.ref o, .ref q]], wS G o a1 a2 a3 a4 σ1273, wT G q b1 b2 cv1273 cm1273, [ob t2 3 [.ref o2, .ref q2]], wS G o2 d1 d2 d3 d4 φ, wT G q2 d5 d6 cvf cmf, [ob h 0 [.int (nI (sz - 1)), .ref st], arS G st 5 (fun j => some (y0 (rgt k j)))], wHs G y0 y1 y2 y3 y4 cs, wX G x g1 g2 g3 L pl nu np rr tx td tv, [ob mo 6 [.ref u0, .ref u1, .ref u2, .ref u3, .ref u4, .ref u5, .int (nI (sm - 1)), .int (nI ((sa + 5 - 1) % 5)), .int (nI le), .int (nI ra), .int (nI fa)]], [ar G u0 481 nw1277], [ar G u1 481 bf], [ar G u2 2405 sts], [ar G u3 800 mk], [ar G u4 800 vl], [ar G u5 100 (fun j => nI (txm j))]]) := hD
      refine r_icmp_eq (P := (nI (sz - 1)) = (nI (sm - 1))) (tgt := 571) hx hb dL_law_280 (by decide) (Iff.rfl) (fun cq280 => ?_) (fun cq280 => ?_)
      · obtain ⟨t1, t2, t3⟩ := tri hq273
        have t4 : σ1273 = cs (rgt k (sz - 1)) := t1.trans so4
        have g1 : GI σ1273 cv1273 cm1273 := ⟨hb1273, hb2273, hb3273, by rw [t2, t3, t4]; exact so3, by rw [t4]; exact hs2⟩
        have g2 : Rel σ1273 nw1277 := by rw [t4]; exact Rel_cong hs1 hB9.n (fun j hj => by rw [hq277 j hj, so2])
        exact kk H locs ls ⟨σ1273, φ, cv1273, cm1273, cvf, cmf, k, (sz - 1), cs, L, pl, nu, np, rr, tx, td, tv, (sm - 1), ((sa + 5 - 1) % 5), le, ra, fa, txm, nw1277, bf, sts, mk, vl, ⟨g1, g2, hLF.2.2.1, so1, hTF⟩, hP, hD⟩ hS hl
      · exact absurd (by rw [hsm1]) cq280
