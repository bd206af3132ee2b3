set_option maxHeartbeats 1000000 in
set_option maxRecDepth 100000 in
theorem c_X6_in (l : Launch) (G : kG) (xa xb xc : Int32) : Met l yX6_in wsX6_in ({ frames := 0, cells := 0, slots := 0, locals := 0 } : Room) (cP G [.int xa, .int xb, .int xc] []) (vp_Si (fun rv => rv = (bI (ing xa xb xc)))) 0 0 (fun _ => False) := by
  refine met_ro (cc := cX6_in) (maxL := 3) (ty := .boolean) (own := RX6) (by decide) rfl rfl (fun _ h => by rw [h]; exact bI_nar _) (Nat.le_of_ble_eq_true rfl) ?_
  intro p e s m args below meth cod Q hx hb hml hown hts hK hP hD hret ls hl
  have hl : lv_has ls 3 [(0, .int xa), (1, .int xb), (2, .int xc)] := hl
  refine lv_iload_n hx hb dX6_in_0 rfl (lv_at hl 0 rfl) ?_
  refine lv_iload_n hx hb dX6_in_1 rfl (lv_at hl 1 rfl) ?_
  refine r_icmp_lt (P := xa < xb) (tgt := 14) hx hb dX6_in_2 (by decide) (Iff.rfl) (fun cq2 => ?_) (fun cq2 => ?_)
  · refine lv_iconst (v := (nI 0)) hx hb dX6_in_14 (by decide) ?_
    exact hret _ _ _ dX6_in_15 (bIf (decide_eq_false (fun z => absurd (i_le.mp z.1) (by have := i_lt.mp cq2; omega))))
  · refine lv_iload_n hx hb dX6_in_5 rfl (lv_at hl 0 rfl) ?_
    refine lv_iload_n hx hb dX6_in_6 rfl (lv_at hl 2 rfl) ?_
    refine r_icmp_gt (P := xc < xa) (tgt := 14) hx hb dX6_in_7 (by decide) (Iff.rfl) (fun cq7 => ?_) (fun cq7 => ?_)
    · refine lv_iconst (v := (nI 0)) hx hb dX6_in_14 (by decide) ?_
      exact hret _ _ _ dX6_in_15 (bIf (decide_eq_false (fun z => absurd (i_le.mp z.2) (by have := i_lt.mp cq7; omega))))
    · refine lv_iconst (v := (nI 1)) hx hb dX6_in_10 (by decide) ?_
      refine lv_goto (tgt := 15) hx hb dX6_in_11 (by decide) ?_
      exact hret _ _ _ dX6_in_15 (bIt (decide_eq_true ⟨i_le.mpr (by have h9 : ¬ xa.toInt < xb.toInt := fun z => cq2 (i_lt.mpr z); omega), i_le.mpr (by have h9 : ¬ xc.toInt < xa.toInt := fun z => cq7 (i_lt.mpr z); omega)⟩))

set_option maxHeartbeats 1000000 in
set_option maxRecDepth 100000 in
theorem c_X6_bits (l : Launch) (G : kG) (m2 : Nat) (hm2 : m2 < 65536) : Met l yX6_bits wsX6_bits ({ frames := 0, cells := 0, slots := 0, locals := 0 } : Room) (cP G [.int (nI m2)] []) (vp_Si (fun rv => rv = (nI (pop m2)))) 0 0 (fun _ => False) := by
  refine met_ro (cc := cX6_bits) (maxL := 3) (ty := .int) (own := RX6) (by decide) rfl rfl (fun _ _ => rfl) (Nat.le_of_ble_eq_true rfl) ?_
  intro p e s m args below meth cod Q hx hb hml hown hts hK hP hD hret ls hl
  have hl : lv_has ls 3 [(0, .int (nI m2))] := hl
  have hpm := pop_le m2
  refine lv_iconst (v := (nI 0)) hx hb dX6_bits_0 (by decide) ?_
  refine lv_istore_n (lv' := [(1, .int (nI 0)), (0, .int (nI m2))]) hx hb dX6_bits_1 rfl hl (by decide) rfl (fun ls hl => ?_)
  refine lv_iload_n hx hb dX6_bits_2 rfl (lv_at hl 1 rfl) ?_
  refine lv_istore_n (lv' := [(2, .int (nI m2)), (1, .int (nI 0)), (0, .int (nI m2))]) hx hb dX6_bits_3 rfl hl (by decide) rfl (fun ls hl => ?_)
  have L4 : ∀ (fu : Nat) (k : Nat) (sx : Nat), pop sx + 1 < fu → sx < 65536 → k + pop sx = pop m2 → ∀ (ls : Array Slot), lv_has ls 3 [(0, .int (nI m2)), (1, .int (nI k)), (2, .int (nI sx))] → W p l e ({ frames := 0, cells := 0, slots := 0, locals := 0 } : Room) s m args below meth cod s.heap [] 0 0 Q (F0 m 4 ls []) := by
    intro fu
    induction fu with
    | zero => intro k sx hm; exact absurd hm (Nat.not_lt_zero _)
    | succ fu ih4 =>
      intro k sx hm4 hs2 hk ls hl
      refine lv_iload_n hx hb dX6_bits_4 rfl (lv_at hl 2 rfl) ?_
      refine r_if_eq (P := sx = 0) (tgt := 20) hx hb dX6_bits_5 (by decide) (nI_eq0 (by omega)) (fun cq5 => ?_) (fun cq5 => ?_)
      · refine lv_iload_n hx hb dX6_bits_20 rfl (lv_at hl 1 rfl) ?_
        exact hret _ _ _ dX6_bits_21 (by have e : pop 0 = 0 := rfl; rw [cq5, e] at hk; rw [← hk]; rfl)
      · refine r_iinc (v := k + 1) (lv' := [(1, .int (nI (k + 1))), (0, .int (nI m2)), (2, .int (nI sx))]) hx hb dX6_bits_8 hl (k := 1) rfl (nI_1 _) (by decide) rfl (fun ls hl => ?_)
        refine lv_iload_n hx hb dX6_bits_11 rfl (lv_at hl 2 rfl) ?_
        refine lv_iload_n hx hb dX6_bits_12 rfl (lv_at hl 2 rfl) ?_
        refine lv_iconst (v := (nI 1)) hx hb dX6_bits_13 (by decide) ?_
        refine r_isub (v := sx - 1) hx hb dX6_bits_14 (by omega) rfl ?_
        have ale := @Nat.and_le_left sx (sx - 1)
        have pd := pop_dec hs2 cq5
        refine lv_iand hx hb dX6_bits_15 ?_
        refine r_top (y := (nI (sx &&& (sx - 1)))) (fa_and _ _) ?_
        refine lv_istore_n (lv' := [(2, .int (nI (sx &&& (sx - 1)))), (1, .int (nI (k + 1))), (0, .int (nI m2))]) hx hb dX6_bits_16 rfl hl (by decide) rfl (fun ls hl => ?_)
        refine lv_goto (tgt := 4) hx hb dX6_bits_17 (by decide) ?_
        exact ih4 (k + 1) (sx &&& (sx - 1)) (by omega) (by omega) (by omega) ls (lv_sub hl [2, 1, 0] rfl)
  exact L4 ((pop m2 + 1) + 1) 0 m2 (Nat.lt_succ_self _) (by omega) (Nat.zero_add _) ls (lv_sub hl [2, 1, 0] rfl)

set_option maxHeartbeats 1000000 in
set_option maxRecDepth 100000 in
theorem c_X6_has (l : Launch) (G : kG) (m2 c : Nat) (hm2 : m2 < 65536) (hc : c < 16) : Met l yX6_has wsX6_has ({ frames := 0, cells := 0, slots := 0, locals := 0 } : Room) (cP G [.int (nI m2), .int (nI c)] []) (vp_Si (fun rv => rv = (bI (m2.testBit c)))) 0 0 (fun _ => False) := by
  refine met_ro (cc := cX6_has) (maxL := 2) (ty := .boolean) (own := RX6) (by decide) rfl rfl (fun _ h => by rw [h]; exact bI_nar _) (Nat.le_of_ble_eq_true rfl) ?_
  intro p e s m args below meth cod Q hx hb hml hown hts hK hP hD hret ls hl
  have hl : lv_has ls 2 [(0, .int (nI m2)), (1, .int (nI c))] := hl
  have b10 : m2 / 2 ^ c ≤ m2 := Nat.div_le_self _ _
  have b12 := bit_le m2 c
  refine lv_iload_n hx hb dX6_has_0 rfl (lv_at hl 0 rfl) ?_
  refine lv_iload_n hx hb dX6_has_1 rfl (lv_at hl 1 rfl) ?_
  refine lv_ishr hx hb dX6_has_2 ?_
  refine r_top (y := (nI (m2 / 2 ^ c))) (r_shr (by omega) (by omega)) ?_
  refine lv_iconst (v := (nI 1)) hx hb dX6_has_3 (by decide) ?_
  refine lv_iand hx hb dX6_has_4 ?_
  refine r_top (y := (nI ((m2 / 2 ^ c) &&& 1))) (fa_and _ _) ?_
  refine lv_iconst (v := (nI 1)) hx hb dX6_has_5 (by decide) ?_
  refine r_icmp_ne (P := ((m2 / 2 ^ c) &&& 1) = 1) (tgt := 13) hx hb dX6_has_6 (by decide) (nI_eq (by omega) (by omega)) (fun cq6 => ?_) (fun cq6 => ?_)
  · refine lv_iconst (v := (nI 0)) hx hb dX6_has_13 (by decide) ?_
    exact hret _ _ _ dX6_has_14 (bIf (Bool.eq_false_iff.mpr (fun z => cq6 (bit_t.mpr z))))
  · refine lv_iconst (v := (nI 1)) hx hb dX6_has_9 (by decide) ?_
    refine lv_goto (tgt := 14) hx hb dX6_has_10 (by decide) ?_
    exact hret _ _ _ dX6_has_14 (bIt (bit_t.mp cq6))

theorem iqX6_isRow_X6 : ∀ w ∈ u_ws RX6 TX6 11, w ∈ wsX6_isRow := by decide +kernel
set_option maxHeartbeats 1000000 in
set_option maxRecDepth 100000 in
theorem c_X6_isRow (l : Launch) (G : kG) (mo u0 u1 u2 u3 u4 u5 sm sa le ra fa : Nat) (σ : Sg) (nw : Nat → Int32) (hR : Rel σ nw) (hB : Bd σ) (xa : Int32) : Met l yX6_isRow wsX6_isRow ({ frames := 1, cells := 0, slots := 0, locals := 22 } : Room) (cP G [.ref mo, .int xa] [ob mo 6 [.ref u0, .ref u1, .ref u2, .ref u3, .ref u4, .ref u5, .int (nI sm), .int (nI sa), .int (nI le), .int (nI ra), .int (nI fa)], ar G u0 481 nw]) (vp_Si (fun rv => rv = (bI (inr xa 0 ((nn σ : Int) - 1))))) 0 0 (fun _ => False) := by
  refine met_ro (cc := cX6_isRow) (maxL := 2) (ty := .boolean) (own := RX6) (by decide) rfl rfl (fun _ h => by rw [h]; exact bI_nar _) (Nat.le_of_ble_eq_true rfl) ?_
  intro p e s m args below meth cod Q hx hb hml hown hts hK hP hD hret ls hl
  have hl : lv_has ls 2 [(0, .ref mo), (1, .int xa)] := hl
  refine lv_iload_n hx hb dX6_isRow_0 rfl (lv_at hl 1 rfl) ?_
  refine lv_iconst (v := (nI 0)) hx hb dX6_isRow_1 (by decide) ?_
  refine lv_aload_n hx hb dX6_isRow_2 rfl (lv_at hl 0 rfl) ?_
  refine va_get (D := G.1) (ci := 6) (v := .ref u0) (C := RX6) (T := TX6) (N := 11) hx hb hts iqX6_isRow_X6 hown hK.1 hP 0 rfl rfl 0 (by decide) (hts (.fieldLink RX6 7 "PushedTablesModel" "now" "[I") (List.mem_of_getElem? (i := 1) rfl)) (fun _ h9 => h9) rfl dX6_isRow_3 ?_
  refine lv_iconst (v := (nI 0)) hx hb dX6_isRow_6 (by decide) ?_
  refine r_iald (e1 := 0) (v := (nI (nn σ))) hx hb hK.1 hP 1 0 rfl rfl (by omega) (by first | decide | assumption) (hR.n) dX6_isRow_7 ?_
  refine lv_iconst (v := (nI 1)) hx hb dX6_isRow_8 (by decide) ?_
  refine lv_isub hx hb dX6_isRow_9 ?_
  refine r_top (y := (nI (nn σ) - nI 1)) (rfl) ?_
  refine g_ro (k_S (n := 3) (As := [.int xa, .int (nI 0), .int (nI (nn σ) - nI 1)]) (rest := []) (wc := []) hx hb hml hown hts (c_X6_in (l := l) (G := G) (xa := xa) (xb := nI 0) (xc := nI (nn σ) - nI 1))  gX6_isRow_X6_in rfl rfl rfl (by decide +kernel) ⟨Nat.le_of_ble_eq_true rfl, Nat.le_of_ble_eq_true rfl⟩ rfl hK hP hD [] rfl (by decide)  hl.1 rfl (Nat.le_of_ble_eq_true rfl) dX6_isRow_10 ⟨Nat.le_of_ble_eq_true rfl, Nat.le_of_ble_eq_true rfl⟩) (fun r10 h10 => ?_)
  obtain rfl : (bI (ing xa (nI 0) (nI (nn σ) - nI 1))) = r10 := Eq.symm h10
  exact hret _ _ _ dX6_isRow_13 (by rw [ing_1 hB.n])

theorem iqX6_entries_X6 : ∀ w ∈ u_ws RX6 TX6 11, w ∈ wsX6_entries := by decide +kernel
set_option maxHeartbeats 1000000 in
set_option maxRecDepth 100000 in
theorem c_X6_entries (l : Launch) (G : kG) (mo u0 u1 u2 u3 u4 u5 sm sa le ra fa : Nat) (σ : Sg) (nw : Nat → Int32) (hR : Rel σ nw) (hB : Bd σ) (r : Nat) (hr : r < nn σ) : Met l yX6_entries wsX6_entries ({ frames := 0, cells := 0, slots := 0, locals := 0 } : Room) (cP G [.ref mo, .int (nI r)] [ob mo 6 [.ref u0, .ref u1, .ref u2, .ref u3, .ref u4, .ref u5, .int (nI sm), .int (nI sa), .int (nI le), .int (nI ra), .int (nI fa)], ar G u0 481 nw]) (vp_Si (fun rv => rv = (nI (cols σ r)))) 0 0 (fun _ => False) := by
  refine met_ro (cc := cX6_entries) (maxL := 2) (ty := .int) (own := RX6) (by decide) rfl rfl (fun _ _ => rfl) (Nat.le_of_ble_eq_true rfl) ?_
  intro p e s m args below meth cod Q hx hb hml hown hts hK hP hD hret ls hl
  have hl : lv_has ls 2 [(0, .ref mo), (1, .int (nI r))] := hl
  have h24 := hB.n
  refine lv_aload_n hx hb dX6_entries_0 rfl (lv_at hl 0 rfl) ?_
  refine va_get (D := G.1) (ci := 6) (v := .ref u0) (C := RX6) (T := TX6) (N := 11) hx hb hts iqX6_entries_X6 hown hK.1 hP 0 rfl rfl 0 (by decide) (hts (.fieldLink RX6 7 "PushedTablesModel" "now" "[I") (List.mem_of_getElem? (i := 1) rfl)) (fun _ h9 => h9) rfl dX6_entries_1 ?_
  refine lv_bipush (v := (nI 25)) hx hb dX6_entries_4 (by decide) ?_
  refine lv_iload_n hx hb dX6_entries_6 rfl (lv_at hl 1 rfl) ?_
  refine r_iadd (v := 25 + r) hx hb dX6_entries_7 rfl ?_
  refine r_iald (e1 := 25 + r) (v := (nI (cols σ r))) hx hb hK.1 hP 1 0 rfl rfl (by omega) (by first | decide | assumption) (hR.e (by omega)) dX6_entries_8 ?_
  exact hret _ _ _ dX6_entries_9 (rfl)

theorem iqX6_valueOf_X6 : ∀ w ∈ u_ws RX6 TX6 11, w ∈ wsX6_valueOf := by decide +kernel
set_option maxHeartbeats 1000000 in
set_option maxRecDepth 100000 in
theorem c_X6_valueOf (l : Launch) (G : kG) (mo u0 u1 u2 u3 u4 u5 sm sa le ra fa : Nat) (σ : Sg) (nw : Nat → Int32) (hR : Rel σ nw) (hB : Bd σ) (r c : Nat) (hr : r < nn σ) (hc : c < 16) : Met l yX6_valueOf wsX6_valueOf ({ frames := 1, cells := 0, slots := 0, locals := 21 } : Room) (cP G [.ref mo, .int (nI r), .int (nI c)] [ob mo 6 [.ref u0, .ref u1, .ref u2, .ref u3, .ref u4, .ref u5, .int (nI sm), .int (nI sa), .int (nI le), .int (nI ra), .int (nI fa)], ar G u0 481 nw]) (vp_Si (fun rv => rv = (nI (vv σ (r * 16 + c))))) 0 0 (fun _ => False) := by
  refine met_ro (cc := cX6_valueOf) (maxL := 3) (ty := .int) (own := RX6) (by decide) rfl rfl (fun _ _ => rfl) (Nat.le_of_ble_eq_true rfl) ?_
  intro p e s m args below meth cod Q hx hb hml hown hts hK hP hD hret ls hl
  have hl : lv_has ls 3 [(0, .ref mo), (1, .int (nI r)), (2, .int (nI c))] := hl
  have h24 := hB.n
  have hcb := cols_bit σ r hc
  have hcl := cols_lt σ r
  refine lv_aload_n hx hb dX6_valueOf_0 rfl (lv_at hl 0 rfl) ?_
  refine lv_iload_n hx hb dX6_valueOf_1 rfl (lv_at hl 1 rfl) ?_
  refine g_ro (k_V (q0 := 0) (ci := 6) (n := 1) (As := [.int (nI r)]) (rest := []) (wc := [ob mo 6 [.ref u0, .ref u1, .ref u2, .ref u3, .ref u4, .ref u5, .int (nI sm), .int (nI sa), .int (nI le), .int (nI ra), .int (nI fa)], ar G u0 481 nw]) hx hb hml hown hts (c_X6_entries (l := l) (G := G) (mo := mo) (u0 := u0) (u1 := u1) (u2 := u2) (u3 := u3) (u4 := u4) (u5 := u5) (sm := sm) (sa := sa) (le := le) (ra := ra) (fa := fa) (σ := by first | assumption | omega) (nw := nw) (hR := by first | assumption | omega) (hB := by first | assumption | omega) (r := r) (hr := by first | assumption | omega))  gX6_valueOf_X6_entries rfl rfl rfl (by decide +kernel) ⟨Nat.le_of_ble_eq_true rfl, Nat.le_of_ble_eq_true rfl⟩ rfl hK hP hD [0, 1] rfl (by decide)  rfl rfl rfl hl.1 rfl (Nat.le_of_ble_eq_true rfl) dX6_valueOf_2 ⟨Nat.le_of_ble_eq_true rfl, Nat.le_of_ble_eq_true rfl⟩) (fun r2 h2 => ?_)
  obtain rfl : (nI (cols σ r)) = r2 := Eq.symm h2
  have b2 := cols_lt σ r
  refine lv_iload_n hx hb dX6_valueOf_5 rfl (lv_at hl 2 rfl) ?_
  refine g_ro (k_S (n := 2) (As := [.int (nI (cols σ r)), .int (nI c)]) (rest := []) (wc := []) hx hb hml hown hts (c_X6_has (l := l) (G := G) (m2 := cols σ r) (c := c) (hm2 := by first | assumption | omega) (hc := by first | assumption | omega))  gX6_valueOf_X6_has rfl rfl rfl (by decide +kernel) ⟨Nat.le_of_ble_eq_true rfl, Nat.le_of_ble_eq_true rfl⟩ rfl hK hP hD [] rfl (by decide)  hl.1 rfl (Nat.le_of_ble_eq_true rfl) dX6_valueOf_6 ⟨Nat.le_of_ble_eq_true rfl, Nat.le_of_ble_eq_true rfl⟩) (fun r6 h6 => ?_)
  obtain rfl : (bI ((cols σ r).testBit c)) = r6 := Eq.symm h6
  refine r_if_eq (P := ((cols σ r).testBit c) = false) (tgt := 29) hx hb dX6_valueOf_9 (by decide) (bI_eq0) (fun cq9 => ?_) (fun cq9 => ?_)
  · rw [hcb] at cq9
    refine lv_aload_n hx hb dX6_valueOf_29 rfl (lv_at hl 0 rfl) ?_
    refine va_get (D := G.1) (ci := 6) (v := .ref u0) (C := RX6) (T := TX6) (N := 11) hx hb hts iqX6_valueOf_X6 hown hK.1 hP 0 rfl rfl 0 (by decide) (hts (.fieldLink RX6 7 "PushedTablesModel" "now" "[I") (List.mem_of_getElem? (i := 1) rfl)) (fun _ h9 => h9) rfl dX6_valueOf_30 ?_
    refine lv_iconst (v := (nI 1)) hx hb dX6_valueOf_33 (by decide) ?_
    refine lv_iload_n hx hb dX6_valueOf_34 rfl (lv_at hl 1 rfl) ?_
    refine r_iadd (v := 1 + r) hx hb dX6_valueOf_35 rfl ?_
    refine r_iald (e1 := 1 + r) (v := (nI (dd σ r))) hx hb hK.1 hP 1 0 rfl rfl (by omega) (by first | decide | assumption) (hR.d (by omega)) dX6_valueOf_36 ?_
    exact hret _ _ _ dX6_valueOf_37 (by rw [ent_f.mp cq9])
  · rw [hcb] at cq9
    refine lv_aload_n hx hb dX6_valueOf_12 rfl (lv_at hl 0 rfl) ?_
    refine va_get (D := G.1) (ci := 6) (v := .ref u0) (C := RX6) (T := TX6) (N := 11) hx hb hts iqX6_valueOf_X6 hown hK.1 hP 0 rfl rfl 0 (by decide) (hts (.fieldLink RX6 7 "PushedTablesModel" "now" "[I") (List.mem_of_getElem? (i := 1) rfl)) (fun _ h9 => h9) rfl dX6_valueOf_13 ?_
    refine lv_bipush (v := (nI 73)) hx hb dX6_valueOf_16 (by decide) ?_
    refine lv_bipush (v := (nI 16)) hx hb dX6_valueOf_18 (by decide) ?_
    refine lv_iload_n hx hb dX6_valueOf_20 rfl (lv_at hl 1 rfl) ?_
    refine r_imul (v := 16 * r) hx hb dX6_valueOf_21 rfl ?_
    refine r_iadd (v := 73 + (16 * r)) hx hb dX6_valueOf_22 rfl ?_
    refine lv_iload_n hx hb dX6_valueOf_23 rfl (lv_at hl 2 rfl) ?_
    refine r_iadd (v := (73 + (16 * r)) + c) hx hb dX6_valueOf_24 rfl ?_
    refine r_iald (e1 := (73 + (16 * r)) + c) (v := (nI (vv σ (r * 16 + c)))) hx hb hK.1 hP 1 0 rfl rfl (by omega) (by first | decide | assumption) (hR.v hr hc (Bool.of_not_eq_false cq9)) dX6_valueOf_25 ?_
    refine lv_goto (tgt := 37) hx hb dX6_valueOf_26 (by decide) ?_
    exact hret _ _ _ dX6_valueOf_37 (rfl)

theorem iqX6_sharers_X6 : ∀ w ∈ u_ws RX6 TX6 11, w ∈ wsX6_sharers := by decide +kernel
set_option maxHeartbeats 1000000 in
set_option maxRecDepth 100000 in
theorem c_X6_sharers (l : Launch) (G : kG) (mo u0 u1 u2 u3 u4 u5 sm sa le ra fa : Nat) (σ : Sg) (nw : Nat → Int32) (hR : Rel σ nw) (hB : Bd σ) (f : Nat) (xf : Int32) (hxf : xf = e1 f) (hf : f < 24 ∨ f = 1000) : Met l yX6_sharers wsX6_sharers ({ frames := 0, cells := 0, slots := 0, locals := 0 } : Room) (cP G [.ref mo, .int xf] [ob mo 6 [.ref u0, .ref u1, .ref u2, .ref u3, .ref u4, .ref u5, .int (nI sm), .int (nI sa), .int (nI le), .int (nI ra), .int (nI fa)], ar G u0 481 nw]) (vp_Si (fun rv => rv = (nI (shr σ f)))) 0 0 (fun _ => False) := by
  subst hxf
  refine met_ro (cc := cX6_sharers) (maxL := 4) (ty := .int) (own := RX6) (by decide) rfl rfl (fun _ _ => rfl) (Nat.le_of_ble_eq_true rfl) ?_
  intro p e s m args below meth cod Q hx hb hml hown hts hK hP hD hret ls hl
  have hl : lv_has ls 4 [(0, .ref mo), (1, .int (e1 f))] := hl
  have h24 := hB.n
  refine lv_iconst (v := (nI 0)) hx hb dX6_sharers_0 (by decide) ?_
  refine lv_istore_n (lv' := [(2, .int (nI 0)), (0, .ref mo), (1, .int (e1 f))]) hx hb dX6_sharers_1 rfl hl (by decide) rfl (fun ls hl => ?_)
  refine lv_iconst (v := (nI 0)) hx hb dX6_sharers_2 (by decide) ?_
  refine lv_istore_n (lv' := [(3, .int (nI 0)), (2, .int (nI 0)), (0, .ref mo), (1, .int (e1 f))]) hx hb dX6_sharers_3 rfl hl (by decide) rfl (fun ls hl => ?_)
  have L4 : ∀ (fu : Nat) (c : Nat) (k : Nat), nn σ + 1 - c < fu → c ≤ nn σ → k = fb_ct (fun r => decide (ff σ r = f)) c → k ≤ c → ∀ (ls : Array Slot), lv_has ls 4 [(0, .ref mo), (1, .int (e1 f)), (2, .int (nI k)), (3, .int (nI c))] → W p l e ({ frames := 0, cells := 0, slots := 0, locals := 0 } : Room) s m args below meth cod s.heap [] 0 0 Q (F0 m 4 ls []) := by
    intro fu
    induction fu with
    | zero => intro c k hm; exact absurd hm (Nat.not_lt_zero _)
    | succ fu ih4 =>
      intro c k hm4 hc hk hkc ls hl
      refine lv_iload_n hx hb dX6_sharers_4 rfl (lv_at hl 3 rfl) ?_
      refine lv_aload_n hx hb dX6_sharers_5 rfl (lv_at hl 0 rfl) ?_
      refine va_get (D := G.1) (ci := 6) (v := .ref u0) (C := RX6) (T := TX6) (N := 11) hx hb hts iqX6_sharers_X6 hown hK.1 hP 0 rfl rfl 0 (by decide) (hts (.fieldLink RX6 7 "PushedTablesModel" "now" "[I") (List.mem_of_getElem? (i := 1) rfl)) (fun _ h9 => h9) rfl dX6_sharers_6 ?_
      refine lv_iconst (v := (nI 0)) hx hb dX6_sharers_9 (by decide) ?_
      refine r_iald (e1 := 0) (v := (nI (nn σ))) hx hb hK.1 hP 1 0 rfl rfl (by omega) (by first | decide | assumption) (hR.n) dX6_sharers_10 ?_
      refine r_icmp_ge (P := (nn σ) ≤ c) (tgt := 41) hx hb dX6_sharers_11 (by decide) (nI_leI (by omega) (by omega)) (fun cq11 => ?_) (fun cq11 => ?_)
      · refine lv_iload_n hx hb dX6_sharers_41 rfl (lv_at hl 2 rfl) ?_
        exact hret _ _ _ dX6_sharers_42 (by have e : c = nn σ := (by omega); rw [hk, e]; rfl)
      · refine lv_iload_n hx hb dX6_sharers_14 rfl (lv_at hl 2 rfl) ?_
        refine lv_aload_n hx hb dX6_sharers_15 rfl (lv_at hl 0 rfl) ?_
        refine va_get (D := G.1) (ci := 6) (v := .ref u0) (C := RX6) (T := TX6) (N := 11) hx hb hts iqX6_sharers_X6 hown hK.1 hP 0 rfl rfl 0 (by decide) (hts (.fieldLink RX6 7 "PushedTablesModel" "now" "[I") (List.mem_of_getElem? (i := 1) rfl)) (fun _ h9 => h9) rfl dX6_sharers_16 ?_
        refine lv_bipush (v := (nI 49)) hx hb dX6_sharers_19 (by decide) ?_
        refine lv_iload_n hx hb dX6_sharers_21 rfl (lv_at hl 3 rfl) ?_
        refine r_iadd (v := 49 + c) hx hb dX6_sharers_22 rfl ?_
        refine r_iald (e1 := 49 + c) (v := (e1 (ff σ c))) hx hb hK.1 hP 1 0 rfl rfl (by omega) (by first | decide | assumption) (hR.f (by omega)) dX6_sharers_23 ?_
        have bff := hB.f c
        refine lv_iload_n hx hb dX6_sharers_24 rfl (lv_at hl 1 rfl) ?_
        refine r_icmp_ne (P := (ff σ c) = f) (tgt := 32) hx hb dX6_sharers_25 (by decide) (e1_inj (by omega) (by omega)) (fun cq25 => ?_) (fun cq25 => ?_)
        · refine lv_iconst (v := (nI 0)) hx hb dX6_sharers_32 (by decide) ?_
          refine r_iadd (v := k + 0) hx hb dX6_sharers_33 rfl ?_
          refine lv_istore_n (lv' := [(2, .int (nI (k + 0))), (0, .ref mo), (1, .int (e1 f)), (3, .int (nI c))]) hx hb dX6_sharers_34 rfl hl (by decide) rfl (fun ls hl => ?_)
          refine r_iinc (v := c + 1) (lv' := [(3, .int (nI (c + 1))), (2, .int (nI (k + 0))), (0, .ref mo), (1, .int (e1 f))]) hx hb dX6_sharers_35 hl (k := 3) rfl (nI_1 _) (by decide) rfl (fun ls hl => ?_)
          refine lv_goto (tgt := 4) hx hb dX6_sharers_38 (by decide) ?_
          exact ih4 (c + 1) (k + 0) (by omega) (by omega) (ct_f (decide_eq_false cq25) hk) (by omega) ls (lv_sub hl [2, 3, 1, 0] rfl)
        · refine lv_iconst (v := (nI 1)) hx hb dX6_sharers_28 (by decide) ?_
          refine lv_goto (tgt := 33) hx hb dX6_sharers_29 (by decide) ?_
          refine r_iadd (v := k + 1) hx hb dX6_sharers_33 rfl ?_
          refine lv_istore_n (lv' := [(2, .int (nI (k + 1))), (0, .ref mo), (1, .int (e1 f)), (3, .int (nI c))]) hx hb dX6_sharers_34 rfl hl (by decide) rfl (fun ls hl => ?_)
          refine r_iinc (v := c + 1) (lv' := [(3, .int (nI (c + 1))), (2, .int (nI (k + 1))), (0, .ref mo), (1, .int (e1 f))]) hx hb dX6_sharers_35 hl (k := 3) rfl (nI_1 _) (by decide) rfl (fun ls hl => ?_)
          refine lv_goto (tgt := 4) hx hb dX6_sharers_38 (by decide) ?_
          exact ih4 (c + 1) (k + 1) (by omega) (by omega) (ct_t (decide_eq_true cq25) hk) (by omega) ls (lv_sub hl [2, 3, 1, 0] rfl)
  exact L4 ((nn σ + 1 - 0) + 1) 0 0 (Nat.lt_succ_self _) (by omega) (rfl) (Nat.le_refl _) ls (lv_sub hl [2, 3, 1, 0] rfl)
