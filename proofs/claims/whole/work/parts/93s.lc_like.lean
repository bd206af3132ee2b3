set_option maxHeartbeats 2000000 in
set_option maxRecDepth 100000 in
theorem lc_like {p : Program} {e : Env} {s : State} {m : MethodId} {below : List Frame} {meth : Method} {cod : Code} {l : Launch} {G : kG} {b L0 i : Nat} {xs : Nat → Int32} {z t o a1 a2 a3 a4 q b1 b2 t2 o2 d1 d2 d3 d4 q2 d5 d6 h st : Nat} {y0 y1 y2 y3 y4 : Nat → Nat} {x g1 g2 g3 mo u0 u1 u2 u3 u4 u5 : Nat} {H : Heap} {locs : List Loc} {ls : Array Slot} (hL0 : L0 ≤ 2048) (C0 : lw_At p s m meth cod b L0 xs) (hK : KK G s) (hi : i + 4 ≤ L0) (hI : LI G (fun q9 : Nat => s.heap.size ≤ q9) z t o a1 a2 a3 a4 q b1 b2 t2 o2 d1 d2 d3 d4 q2 d5 d6 h st y0 y1 y2 y3 y4 x g1 g2 g3 mo u0 u1 u2 u3 u4 u5 H) (hS : va_S (fun q9 : Nat => s.heap.size ≤ q9) s.heap H locs) (hl : lv_has ls 4 [(0, .ref b), (1, .ref z), (2, .ref mo), (3, .int (nI i))]) (kk : ∀ (H : Heap) (locs : List Loc) (ls : Array Slot), LI G (fun q9 : Nat => s.heap.size ≤ q9) z t o a1 a2 a3 a4 q b1 b2 t2 o2 d1 d2 d3 d4 q2 d5 d6 h st y0 y1 y2 y3 y4 x g1 g2 g3 mo u0 u1 u2 u3 u4 u5 H → va_S (fun q9 : Nat => s.heap.size ≤ q9) s.heap H locs → lv_has ls 4 [(0, .ref b), (1, .ref z), (2, .ref mo), (3, .int (nI i))] → W p l e room_1 s m #[Value.ref b] below meth cod H locs 57 12040 (lw_Z below #[Value.ref b] s) (F0 m 571 ls [])) : W p l e room_1 s m #[Value.ref b] below meth cod H locs 57 12040 (lw_Z below #[Value.ref b] s) (F0 m 548 ls []) := by
  have hq0 := C0
  obtain ⟨hx, hb, hr, hml, hown, hts0, hX, hbl, hlocks, hgv⟩ := hq0
  have hts : ∀ w ∈ wsL_law, w.before #[Value.ref b] s = true := fun w hw => hts0 w (wsL_law_in w hw)
  generalize hA9 : (fun q9 : Nat => s.heap.size ≤ q9) = A at hS hI kk
  have hbA : ¬ A b := by rw [← hA9]; exact Nat.not_le.mpr hbl
  obtain ⟨σ, φ, cv, cm, cvf, cmf, k, sz, cs, L, pl, nu, np, rr, tx, td, tv, sm, sa, le, ra, fa, txm, nw, bf, sts, mk, vl, hLF, hP, hD⟩ := hI
  have hcop := hLF
  obtain ⟨⟨hB, hv, hm, hJ, hFu⟩, hR, ⟨hBf, hvf, hmf⟩, hHF, hTF⟩ := hcop
  have hcop2 := hHF
  obtain ⟨hk, hsz, hcs, hsm1, hsa1, hhs⟩ := hcop2
  have hcop3 := hTF
  obtain ⟨hL, ht, htp, htd, htv, hle1, htx1⟩ := hcop3
  have h24 := hB.n
  have hsm : sm ≤ 5 := by omega
  have hsa : sa < 5 := by rw [hsa1]; exact rgt_lt _ _
  have hle : le ≤ 100 := by omega
  rcases Bool.eq_false_or_eq_true (inr (xs (i + 1)) 0 ((nn σ : Int) - 1)) with cz1 | cz1
  · obtain ⟨r, hr9, er⟩ := row_n cz1
    · refine lv_aload_n hx hb dL_law_548 rfl (lv_at hl 1 rfl) ?_
      refine lv_aload_n hx hb dL_law_549 rfl (lv_at hl 0 rfl) ?_
      refine lv_iload_n hx hb dL_law_550 rfl (lv_at hl 3 rfl) ?_
      refine lv_iconst (v := (nI 1)) hx hb dL_law_551 (by decide) ?_
      refine r_iadd (v := i + 1) hx hb dL_law_552 rfl ?_
      refine va_sld hx hb hX hbl hbA hS (vp_in_nI (by omega) (by omega)) dL_law_553 ?_
      refine r_top (y := (nI r)) ((congrArg xs (nI_clamp (by omega))).trans er) ?_
      have hPc := bl_sub hP (is := [0, 1, 2, 3]) (bc := [[ob z 5 [.ref t, .ref t2, .ref h, .ref x]], [ob t 3 [.ref o, .ref q]], wS G o a1 a2 a3 a4 σ, wT G q b1 b2 cv cm]) rfl
      have hDc := bl_subD hD [0, 1, 2, 3] [[ob z 5 [.ref t, .ref t2, .ref h, .ref x]], [ob t 3 [.ref o, .ref q]], wS G o a1 a2 a3 a4 σ, wT G q b1 b2 cv cm] (by decide) rfl
      refine g_ro (k_W (q0 := 0) (ci := 5) (n := 1) (As := [.int (nI r)]) (rest := []) hx hb hml hown hts (c_X5_like_ok (l := l) (G := G) (z := z) (t := t) (t2 := t2) (h := h) (x := x) (o := o) (a1 := a1) (a2 := a2) (a3 := a3) (a4 := a4) (σ := σ) (q := q) (b1 := b1) (b2 := b2) (cv := cv) (cm := cm) (hB := by first | assumption | omega) (hv := by first | assumption | omega) (hm := by first | assumption | omega) (r := r) (hr := by first | assumption | omega)) gL_law_X5_like rfl rfl rfl (by decide +kernel) ⟨Nat.le_of_ble_eq_true rfl, Nat.le_of_ble_eq_true rfl⟩ rfl hK hPc hDc rfl rfl rfl hl.1 rfl (Nat.le_of_ble_eq_true rfl) dL_law_554 ⟨Nat.le_of_ble_eq_true rfl, Nat.le_of_ble_eq_true rfl⟩) (fun r554 h554 => ?_)
      obtain rfl : (e9 ((lkB (eqc σ r) r (nn σ)).1)) = r554 := Eq.symm h554
      refine lv_aload_n hx hb dL_law_557 rfl (lv_at hl 2 rfl) ?_
      refine lv_aload_n hx hb dL_law_558 rfl (lv_at hl 0 rfl) ?_
      refine lv_iload_n hx hb dL_law_559 rfl (lv_at hl 3 rfl) ?_
      refine lv_iconst (v := (nI 1)) hx hb dL_law_560 (by decide) ?_
      refine r_iadd (v := i + 1) hx hb dL_law_561 rfl ?_
      refine va_sld hx hb hX hbl hbA hS (vp_in_nI (by omega) (by omega)) dL_law_562 ?_
      refine r_top (y := (nI r)) ((congrArg xs (nI_clamp (by omega))).trans er) ?_
      have hPc := bl_sub hP (is := [10, 11]) (bc := [[ob mo 6 [.ref u0, .ref u1, .ref u2, .ref u3, .ref u4, .ref u5, .int (nI sm), .int (nI sa), .int (nI le), .int (nI ra), .int (nI fa)]], [ar G u0 481 nw]]) rfl
      have hDc := bl_subD hD [10, 11] [[ob mo 6 [.ref u0, .ref u1, .ref u2, .ref u3, .ref u4, .ref u5, .int (nI sm), .int (nI sa), .int (nI le), .int (nI ra), .int (nI fa)]], [ar G u0 481 nw]] (by decide) rfl
      refine g_ro (k_W (q0 := 0) (ci := 6) (n := 1) (As := [.int (nI r)]) (rest := [.int (e9 ((lkB (eqc σ r) r (nn σ)).1))]) hx hb hml hown hts (c_X6_like_ok (l := l) (G := G) (mo := mo) (u0 := u0) (u1 := u1) (u2 := u2) (u3 := u3) (u4 := u4) (u5 := u5) (sm := sm) (sa := sa) (le := le) (ra := ra) (fa := fa) (σ := σ) (nw := nw) (hR := hR) (hB := hB) (r := r) (hr := by first | assumption | omega)) gL_law_X6_like rfl rfl rfl (by decide +kernel) ⟨Nat.le_of_ble_eq_true rfl, Nat.le_of_ble_eq_true rfl⟩ rfl hK hPc hDc rfl rfl rfl hl.1 rfl (Nat.le_of_ble_eq_true rfl) dL_law_563 ⟨Nat.le_of_ble_eq_true rfl, Nat.le_of_ble_eq_true rfl⟩) (fun r563 h563 => ?_)
      obtain rfl : (e9 ((lkB (eqc σ r) r (nn σ)).1)) = r563 := Eq.symm h563
      refine r_icmp_eq (P := (e9 ((lkB (eqc σ r) r (nn σ)).1)) = (e9 ((lkB (eqc σ r) r (nn σ)).1))) (tgt := 571) hx hb dL_law_566 (by decide) (Iff.rfl) (fun cq566 => ?_) (fun cq566 => ?_)
      · exact kk H locs ls ⟨σ, φ, cv, cm, cvf, cmf, k, sz, cs, L, pl, nu, np, rr, tx, td, tv, sm, sa, le, ra, fa, txm, nw, bf, sts, mk, vl, hLF, hP, hD⟩ hS hl
      · exact absurd (rfl) cq566
  · refine lv_aload_n hx hb dL_law_548 rfl (lv_at hl 1 rfl) ?_
    refine lv_aload_n hx hb dL_law_549 rfl (lv_at hl 0 rfl) ?_
    refine lv_iload_n hx hb dL_law_550 rfl (lv_at hl 3 rfl) ?_
    refine lv_iconst (v := (nI 1)) hx hb dL_law_551 (by decide) ?_
    refine r_iadd (v := i + 1) hx hb dL_law_552 rfl ?_
    refine va_sld hx hb hX hbl hbA hS (vp_in_nI (by omega) (by omega)) dL_law_553 ?_
    refine r_top (y := (xs (i + 1))) ((congrArg xs (nI_clamp (by omega))).trans rfl) ?_
    refine g_ro (k_V (q0 := 0) (ci := 5) (n := 1) (As := [.int (xs (i + 1))]) (rest := []) (wc := [ob z 5 [.ref t, .ref t2, .ref h, .ref x], ob t 3 [.ref o, .ref q], ob o 1 [.int (nI (nn σ)), .ref a1, .ref a2, .ref a3, .ref a4]]) hx hb hml hown hts (c_X5_like_bad (l := l) (G := G) (z := z) (t := t) (t2 := t2) (h := h) (x := x) (o := o) (a1 := a1) (a2 := a2) (a3 := a3) (a4 := a4) (q := q) (n0 := nn σ) (xa := xs (i + 1)) (hn := h24) (hbad := by first | assumption | omega))  gL_law_X5_like rfl rfl rfl (by decide +kernel) ⟨Nat.le_of_ble_eq_true rfl, Nat.le_of_ble_eq_true rfl⟩ rfl hK hP hD [0, 1, 2] rfl (by decide)  rfl rfl rfl hl.1 rfl (Nat.le_of_ble_eq_true rfl) dL_law_554 ⟨Nat.le_of_ble_eq_true rfl, Nat.le_of_ble_eq_true rfl⟩) (fun r554 h554 => ?_)
    obtain rfl : (-1) = r554 := Eq.symm h554
    refine lv_aload_n hx hb dL_law_557 rfl (lv_at hl 2 rfl) ?_
    refine lv_aload_n hx hb dL_law_558 rfl (lv_at hl 0 rfl) ?_
    refine lv_iload_n hx hb dL_law_559 rfl (lv_at hl 3 rfl) ?_
    refine lv_iconst (v := (nI 1)) hx hb dL_law_560 (by decide) ?_
    refine r_iadd (v := i + 1) hx hb dL_law_561 rfl ?_
    refine va_sld hx hb hX hbl hbA hS (vp_in_nI (by omega) (by omega)) dL_law_562 ?_
    refine r_top (y := (xs (i + 1))) ((congrArg xs (nI_clamp (by omega))).trans rfl) ?_
    have hPc := bl_sub hP (is := [10, 11]) (bc := [[ob mo 6 [.ref u0, .ref u1, .ref u2, .ref u3, .ref u4, .ref u5, .int (nI sm), .int (nI sa), .int (nI le), .int (nI ra), .int (nI fa)]], [ar G u0 481 nw]]) rfl
    have hDc := bl_subD hD [10, 11] [[ob mo 6 [.ref u0, .ref u1, .ref u2, .ref u3, .ref u4, .ref u5, .int (nI sm), .int (nI sa), .int (nI le), .int (nI ra), .int (nI fa)]], [ar G u0 481 nw]] (by decide) rfl
    refine g_ro (k_W (q0 := 0) (ci := 6) (n := 1) (As := [.int (xs (i + 1))]) (rest := [.int (-1)]) hx hb hml hown hts (c_X6_like_bad (l := l) (G := G) (mo := mo) (u0 := u0) (u1 := u1) (u2 := u2) (u3 := u3) (u4 := u4) (u5 := u5) (sm := sm) (sa := sa) (le := le) (ra := ra) (fa := fa) (σ := σ) (nw := nw) (hR := hR) (hB := hB) (xa := xs (i + 1)) (hbad := by first | assumption | omega)) gL_law_X6_like rfl rfl rfl (by decide +kernel) ⟨Nat.le_of_ble_eq_true rfl, Nat.le_of_ble_eq_true rfl⟩ rfl hK hPc hDc rfl rfl rfl hl.1 rfl (Nat.le_of_ble_eq_true rfl) dL_law_563 ⟨Nat.le_of_ble_eq_true rfl, Nat.le_of_ble_eq_true rfl⟩) (fun r563 h563 => ?_)
    obtain rfl : (-1) = r563 := Eq.symm h563
    refine r_icmp_eq (P := (-1) = (-1)) (tgt := 571) hx hb dL_law_566 (by decide) (Iff.rfl) (fun cq566 => ?_) (fun cq566 => ?_)
    · exact kk H locs ls ⟨σ, φ, cv, cm, cvf, cmf, k, sz, cs, L, pl, nu, np, rr, tx, td, tv, sm, sa, le, ra, fa, txm, nw, bf, sts, mk, vl, hLF, hP, hD⟩ hS hl
    · exact absurd (rfl) cq566
