theorem iqX4_valueRead_X4 : ∀ w ∈ u_ws RX4 TX4 8, w ∈ wsX4_valueRead := by decide +kernel
set_option maxHeartbeats 1000000 in
set_option maxRecDepth 100000 in
theorem c_X4_valueRead (l : Launch) (G : kG) (x g1 g2 g3 L pl nu np rr : Nat) (t td tv : Nat → Nat) (hL : L ≤ 100) (ht : ∀ k, t k < 256) (r c : Nat) (hr : r < 24) (hc : c < 16) : Met l yX4_valueRead wsX4_valueRead ({ frames := 1, cells := 0, slots := 0, locals := 21 } : Room) (cP G [.ref x, .int (nI r), .int (nI c)] [ob x 4 [.int (nI L), .ref g1, .int (nI pl), .int (nI nu), .int (nI np), .int (nI rr), .ref g2, .ref g3], arC G g1 100 (fun j => nI (t j)), ar G g2 24 (fun j => nI (td j)), ar G g3 384 (fun j => nI (tv j))]) (vp_Si (fun rv => rv = (nI (tv (r * 16 + c))))) 0 0 (fun _ => False) := by
  refine met_ro (cc := cX4_valueRead) (maxL := 3) (ty := .int) (own := RX4) (by decide) rfl rfl (fun _ _ => rfl) (Nat.le_of_ble_eq_true rfl) ?_
  intro p e s m args below meth cod Q hx hb hml hown hts hK hP hD hret ls hl
  have hl : lv_has ls 3 [(0, .ref x), (1, .int (nI r)), (2, .int (nI c))] := hl
  refine lv_aload_n hx hb dX4_valueRead_0 rfl (lv_at hl 0 rfl) ?_
  refine va_get (D := G.1) (ci := 4) (v := .ref g3) (C := RX4) (T := TX4) (N := 8) hx hb hts iqX4_valueRead_X4 hown hK.1 hP 0 rfl rfl 7 (by decide) (hts (.fieldLink RX4 35 "PushedTables$Text" "values" "[I") (List.mem_of_getElem? (i := 1) rfl)) (fun _ h9 => h9) rfl dX4_valueRead_1 ?_
  refine lv_iload_n hx hb dX4_valueRead_4 rfl (lv_at hl 1 rfl) ?_
  refine lv_bipush (v := (nI 16)) hx hb dX4_valueRead_5 (by decide) ?_
  refine r_imul (v := r * 16) hx hb dX4_valueRead_7 rfl ?_
  refine lv_iload_n hx hb dX4_valueRead_8 rfl (lv_at hl 2 rfl) ?_
  refine r_iadd (v := (r * 16) + c) hx hb dX4_valueRead_9 rfl ?_
  refine g_ro (k_SN (n := 2) (As := [.ref g3, .int (nI ((r * 16) + c))]) (rest := []) (wc := [ar G g3 384 (fun j => nI (tv j))]) hx hb hml hown hts (c_X5_numberAt_n (l := l) (G := G) (a := g3) (N := 384) (k := (r * 16) + c) (f := tv) (hN := by first | assumption | omega) (hk := by first | assumption | omega))  gX4_valueRead_X5_numberAt_n38 hK.2.2.2.2.2.2.2.1 (hts (.initialized RX5) (List.mem_of_getElem? (i := 3) rfl)) (hts (.static yX5_numberAt) (List.mem_of_getElem? (i := 2) rfl)) rfl rfl rfl (by decide +kernel) ⟨Nat.le_of_ble_eq_true rfl, Nat.le_of_ble_eq_true rfl⟩ rfl hK hP hD [3] rfl (by decide)  hl.1 rfl (Nat.le_of_ble_eq_true rfl) dX4_valueRead_10 ⟨Nat.le_of_ble_eq_true rfl, Nat.le_of_ble_eq_true rfl⟩) (fun r10 h10 => ?_)
  obtain rfl : (nI (tv ((r * 16) + c))) = r10 := Eq.symm h10
  exact hret _ _ _ dX4_valueRead_13 (rfl)

theorem iqX4_defaultRead_X4 : ∀ w ∈ u_ws RX4 TX4 8, w ∈ wsX4_defaultRead := by decide +kernel
set_option maxHeartbeats 1000000 in
set_option maxRecDepth 100000 in
theorem c_X4_defaultRead (l : Launch) (G : kG) (x g1 g2 g3 L pl nu np rr : Nat) (t td tv : Nat → Nat) (hL : L ≤ 100) (ht : ∀ k, t k < 256) (r : Nat) (hr : r < 24) : Met l yX4_defaultRead wsX4_defaultRead ({ frames := 1, cells := 0, slots := 0, locals := 21 } : Room) (cP G [.ref x, .int (nI r)] [ob x 4 [.int (nI L), .ref g1, .int (nI pl), .int (nI nu), .int (nI np), .int (nI rr), .ref g2, .ref g3], arC G g1 100 (fun j => nI (t j)), ar G g2 24 (fun j => nI (td j)), ar G g3 384 (fun j => nI (tv j))]) (vp_Si (fun rv => rv = (nI (td r)))) 0 0 (fun _ => False) := by
  refine met_ro (cc := cX4_defaultRead) (maxL := 2) (ty := .int) (own := RX4) (by decide) rfl rfl (fun _ _ => rfl) (Nat.le_of_ble_eq_true rfl) ?_
  intro p e s m args below meth cod Q hx hb hml hown hts hK hP hD hret ls hl
  have hl : lv_has ls 2 [(0, .ref x), (1, .int (nI r))] := hl
  refine lv_aload_n hx hb dX4_defaultRead_0 rfl (lv_at hl 0 rfl) ?_
  refine va_get (D := G.1) (ci := 4) (v := .ref g2) (C := RX4) (T := TX4) (N := 8) hx hb hts iqX4_defaultRead_X4 hown hK.1 hP 0 rfl rfl 6 (by decide) (hts (.fieldLink RX4 31 "PushedTables$Text" "defaults" "[I") (List.mem_of_getElem? (i := 1) rfl)) (fun _ h9 => h9) rfl dX4_defaultRead_1 ?_
  refine lv_iload_n hx hb dX4_defaultRead_4 rfl (lv_at hl 1 rfl) ?_
  refine g_ro (k_SN (n := 2) (As := [.ref g2, .int (nI r)]) (rest := []) (wc := [ar G g2 24 (fun j => nI (td j))]) hx hb hml hown hts (c_X5_numberAt_n (l := l) (G := G) (a := g2) (N := 24) (k := r) (f := td) (hN := by first | assumption | omega) (hk := by first | assumption | omega))  gX4_defaultRead_X5_numberAt_n38 hK.2.2.2.2.2.2.2.1 (hts (.initialized RX5) (List.mem_of_getElem? (i := 3) rfl)) (hts (.static yX5_numberAt) (List.mem_of_getElem? (i := 2) rfl)) rfl rfl rfl (by decide +kernel) ⟨Nat.le_of_ble_eq_true rfl, Nat.le_of_ble_eq_true rfl⟩ rfl hK hP hD [2] rfl (by decide)  hl.1 rfl (Nat.le_of_ble_eq_true rfl) dX4_defaultRead_5 ⟨Nat.le_of_ble_eq_true rfl, Nat.le_of_ble_eq_true rfl⟩) (fun r5 h5 => ?_)
  obtain rfl : (nI (td r)) = r5 := Eq.symm h5
  exact hret _ _ _ dX4_defaultRead_8 (rfl)

theorem iqX4_signHere_X4 : ∀ w ∈ u_ws RX4 TX4 8, w ∈ wsX4_signHere := by decide +kernel
set_option maxHeartbeats 1000000 in
set_option maxRecDepth 100000 in
theorem c_X4_signHere (l : Launch) (G : kG) (x g1 g2 g3 L pl nu np rr : Nat) (t td tv : Nat → Nat) (hL : L ≤ 100) (hpl : pl ≤ L) (ht : ∀ k, t k < 256) : Met l yX4_signHere wsX4_signHere ({ frames := 0, cells := 0, slots := 0, locals := 0 } : Room) (cP G [.ref x] [ob x 4 [.int (nI L), .ref g1, .int (nI pl), .int (nI nu), .int (nI np), .int (nI rr), .ref g2, .ref g3], arC G g1 100 (fun j => nI (t j)), ar G g2 24 (fun j => nI (td j)), ar G g3 384 (fun j => nI (tv j))]) (vp_Si (fun rv => rv = (nI (sg t L pl)))) 0 0 (fun _ => False) := by
  refine met_ro (cc := cX4_signHere) (maxL := 1) (ty := .char) (own := RX4) (by decide) rfl rfl (fun _ hq => by rw [hq]; exact (pk_charN (by have := sg_lt ht L pl; omega)).1) (Nat.le_of_ble_eq_true rfl) ?_
  intro p e s m args below meth cod Q hx hb hml hown hts hK hP hD hret ls hl
  have hl : lv_has ls 1 [(0, .ref x)] := hl
  refine lv_aload_n hx hb dX4_signHere_0 rfl (lv_at hl 0 rfl) ?_
  refine va_get (D := G.1) (ci := 4) (v := .int (nI pl)) (C := RX4) (T := TX4) (N := 8) hx hb hts iqX4_signHere_X4 hown hK.1 hP 0 rfl rfl 2 (by decide) (hts (.fieldLink RX4 19 "PushedTables$Text" "place" "I") (List.mem_of_getElem? (i := 1) rfl)) (fun _ h9 => h9) rfl dX4_signHere_1 ?_
  refine r_if_lt (P := False) (tgt := 30) hx hb dX4_signHere_4 (by decide) (nI_lt0 (by omega)) (fun cq4 => ?_) (fun cq4 => ?_)
  · exact cq4.elim
  · refine lv_aload_n hx hb dX4_signHere_7 rfl (lv_at hl 0 rfl) ?_
    refine va_get (D := G.1) (ci := 4) (v := .int (nI pl)) (C := RX4) (T := TX4) (N := 8) hx hb hts iqX4_signHere_X4 hown hK.1 hP 0 rfl rfl 2 (by decide) (hts (.fieldLink RX4 19 "PushedTables$Text" "place" "I") (List.mem_of_getElem? (i := 1) rfl)) (fun _ h9 => h9) rfl dX4_signHere_8 ?_
    refine lv_aload_n hx hb dX4_signHere_11 rfl (lv_at hl 0 rfl) ?_
    refine va_get (D := G.1) (ci := 4) (v := .int (nI L)) (C := RX4) (T := TX4) (N := 8) hx hb hts iqX4_signHere_X4 hown hK.1 hP 0 rfl rfl 0 (by decide) (hts (.fieldLink RX4 9 "PushedTables$Text" "length" "I") (List.mem_of_getElem? (i := 2) rfl)) (fun _ h9 => h9) rfl dX4_signHere_12 ?_
    refine r_icmp_ge (P := L ≤ pl) (tgt := 30) hx hb dX4_signHere_15 (by decide) (nI_leI (by omega) (by omega)) (fun cq15 => ?_) (fun cq15 => ?_)
    · refine lv_iconst (v := (nI 0)) hx hb dX4_signHere_30 (by decide) ?_
      exact hret _ _ _ dX4_signHere_31 (by unfold sg; rw [if_neg (by omega)])
    · refine lv_aload_n hx hb dX4_signHere_18 rfl (lv_at hl 0 rfl) ?_
      refine va_get (D := G.1) (ci := 4) (v := .ref g1) (C := RX4) (T := TX4) (N := 8) hx hb hts iqX4_signHere_X4 hown hK.1 hP 0 rfl rfl 1 (by decide) (hts (.fieldLink RX4 15 "PushedTables$Text" "signs" "[C") (List.mem_of_getElem? (i := 3) rfl)) (fun _ h9 => h9) rfl dX4_signHere_19 ?_
      refine lv_aload_n hx hb dX4_signHere_22 rfl (lv_at hl 0 rfl) ?_
      refine va_get (D := G.1) (ci := 4) (v := .int (nI pl)) (C := RX4) (T := TX4) (N := 8) hx hb hts iqX4_signHere_X4 hown hK.1 hP 0 rfl rfl 2 (by decide) (hts (.fieldLink RX4 19 "PushedTables$Text" "place" "I") (List.mem_of_getElem? (i := 1) rfl)) (fun _ h9 => h9) rfl dX4_signHere_23 ?_
      refine r_cald (e1 := pl) (v := (nI (t pl))) hx hb hK.1 hP 1 1 rfl rfl (by omega) (by first | decide | assumption) (rfl) dX4_signHere_26 ?_
      have b26 := ht pl
      refine lv_goto (tgt := 31) hx hb dX4_signHere_27 (by decide) ?_
      exact hret _ _ _ dX4_signHere_31 (by unfold sg; rw [if_pos (by omega)])

set_option maxHeartbeats 1000000 in
set_option maxRecDepth 100000 in
theorem c_X4_isDigitHere (l : Launch) (G : kG) (x g1 g2 g3 L pl nu np rr : Nat) (t td tv : Nat → Nat) (hL : L ≤ 100) (hpl : pl ≤ L) (ht : ∀ k, t k < 256) : Met l yX4_isDigitHere wsX4_isDigitHere ({ frames := 1, cells := 0, slots := 0, locals := 20 } : Room) (cP G [.ref x] [ob x 4 [.int (nI L), .ref g1, .int (nI pl), .int (nI nu), .int (nI np), .int (nI rr), .ref g2, .ref g3], arC G g1 100 (fun j => nI (t j)), ar G g2 24 (fun j => nI (td j)), ar G g3 384 (fun j => nI (tv j))]) (vp_Si (fun rv => rv = (bI (dg t L pl)))) 0 0 (fun _ => False) := by
  refine met_ro (cc := cX4_isDigitHere) (maxL := 1) (ty := .boolean) (own := RX4) (by decide) rfl rfl (fun _ h => by rw [h]; exact bI_nar _) (Nat.le_of_ble_eq_true rfl) ?_
  intro p e s m args below meth cod Q hx hb hml hown hts hK hP hD hret ls hl
  have hl : lv_has ls 1 [(0, .ref x)] := hl
  refine lv_aload_n hx hb dX4_isDigitHere_0 rfl (lv_at hl 0 rfl) ?_
  refine g_ro (k_V (q0 := 0) (ci := 4) (n := 0) (As := []) (rest := []) (wc := [ob x 4 [.int (nI L), .ref g1, .int (nI pl), .int (nI nu), .int (nI np), .int (nI rr), .ref g2, .ref g3], arC G g1 100 (fun j => nI (t j)), ar G g2 24 (fun j => nI (td j)), ar G g3 384 (fun j => nI (tv j))]) hx hb hml hown hts (c_X4_signHere (l := l) (G := G) (x := x) (g1 := g1) (g2 := g2) (g3 := g3) (L := L) (pl := pl) (nu := nu) (np := np) (rr := rr) (t := t) (td := td) (tv := tv) (hL := by first | assumption | omega) (hpl := by first | assumption | omega) (ht := by first | assumption | omega))  gX4_isDigitHere_X4_signHere rfl rfl rfl (by decide +kernel) ⟨Nat.le_of_ble_eq_true rfl, Nat.le_of_ble_eq_true rfl⟩ rfl hK hP hD [0, 1, 2, 3] rfl (by decide)  rfl rfl rfl hl.1 rfl (Nat.le_of_ble_eq_true rfl) dX4_isDigitHere_1 ⟨Nat.le_of_ble_eq_true rfl, Nat.le_of_ble_eq_true rfl⟩) (fun r1 h1 => ?_)
  obtain rfl : (nI (sg t L pl)) = r1 := Eq.symm h1
  have b1 := sg_lt (by assumption) L pl
  refine lv_bipush (v := (nI 48)) hx hb dX4_isDigitHere_4 (by decide) ?_
  refine r_icmp_lt (P := (sg t L pl) < 48) (tgt := 22) hx hb dX4_isDigitHere_6 (by decide) (nI_ltI (by omega) (by omega)) (fun cq6 => ?_) (fun cq6 => ?_)
  · refine lv_iconst (v := (nI 0)) hx hb dX4_isDigitHere_22 (by decide) ?_
    exact hret _ _ _ dX4_isDigitHere_23 (bIf (dg_f.mpr (by omega)))
  · refine lv_aload_n hx hb dX4_isDigitHere_9 rfl (lv_at hl 0 rfl) ?_
    refine g_ro (k_V (q0 := 0) (ci := 4) (n := 0) (As := []) (rest := []) (wc := [ob x 4 [.int (nI L), .ref g1, .int (nI pl), .int (nI nu), .int (nI np), .int (nI rr), .ref g2, .ref g3], arC G g1 100 (fun j => nI (t j)), ar G g2 24 (fun j => nI (td j)), ar G g3 384 (fun j => nI (tv j))]) hx hb hml hown hts (c_X4_signHere (l := l) (G := G) (x := x) (g1 := g1) (g2 := g2) (g3 := g3) (L := L) (pl := pl) (nu := nu) (np := np) (rr := rr) (t := t) (td := td) (tv := tv) (hL := by first | assumption | omega) (hpl := by first | assumption | omega) (ht := by first | assumption | omega))  gX4_isDigitHere_X4_signHere rfl rfl rfl (by decide +kernel) ⟨Nat.le_of_ble_eq_true rfl, Nat.le_of_ble_eq_true rfl⟩ rfl hK hP hD [0, 1, 2, 3] rfl (by decide)  rfl rfl rfl hl.1 rfl (Nat.le_of_ble_eq_true rfl) dX4_isDigitHere_10 ⟨Nat.le_of_ble_eq_true rfl, Nat.le_of_ble_eq_true rfl⟩) (fun r10 h10 => ?_)
    obtain rfl : (nI (sg t L pl)) = r10 := Eq.symm h10
    have b10 := sg_lt (by assumption) L pl
    refine lv_bipush (v := (nI 57)) hx hb dX4_isDigitHere_13 (by decide) ?_
    refine r_icmp_gt (P := 57 < (sg t L pl)) (tgt := 22) hx hb dX4_isDigitHere_15 (by decide) (nI_ltI (by omega) (by omega)) (fun cq15 => ?_) (fun cq15 => ?_)
    · refine lv_iconst (v := (nI 0)) hx hb dX4_isDigitHere_22 (by decide) ?_
      exact hret _ _ _ dX4_isDigitHere_23 (bIf (dg_f.mpr (by omega)))
    · refine lv_iconst (v := (nI 1)) hx hb dX4_isDigitHere_18 (by decide) ?_
      refine lv_goto (tgt := 23) hx hb dX4_isDigitHere_19 (by decide) ?_
      exact hret _ _ _ dX4_isDigitHere_23 (bIt (dg_t.mpr (by omega)))

theorem iqX4_skipSpaces_X4 : ∀ w ∈ u_ws RX4 TX4 8, w ∈ wsX4_skipSpaces := by decide +kernel
set_option maxHeartbeats 1000000 in
set_option maxRecDepth 100000 in
theorem c_X4_skipSpaces (l : Launch) (G : kG) (x g1 g2 g3 L pl nu np rr : Nat) (t td tv : Nat → Nat) (hL : L ≤ 100) (hpl : pl ≤ L) (ht : ∀ k, t k < 256) : Met l yX4_skipSpaces wsX4_skipSpaces ({ frames := 1, cells := 0, slots := 0, locals := 20 } : Room) (cP G [.ref x] [ob x 4 [.int (nI L), .ref g1, .int (nI pl), .int (nI nu), .int (nI np), .int (nI rr), .ref g2, .ref g3], arC G g1 100 (fun j => nI (t j)), ar G g2 24 (fun j => nI (td j)), ar G g3 384 (fun j => nI (tv j))]) (qV (fun H => va_P G.1 vwCl [ob x 4 [.int (nI L), .ref g1, .int (nI (sk t L pl)), .int (nI nu), .int (nI np), .int (nI rr), .ref g2, .ref g3], arC G g1 100 (fun j => nI (t j)), ar G g2 24 (fun j => nI (td j)), ar G g3 384 (fun j => nI (tv j))] H) (mA [ob x 4 [.int (nI L), .ref g1, .int (nI pl), .int (nI nu), .int (nI np), .int (nI rr), .ref g2, .ref g3], arC G g1 100 (fun j => nI (t j)), ar G g2 24 (fun j => nI (td j)), ar G g3 384 (fun j => nI (tv j))])) 0 0 (mA [ob x 4 [.int (nI L), .ref g1, .int (nI pl), .int (nI nu), .int (nI np), .int (nI rr), .ref g2, .ref g3], arC G g1 100 (fun j => nI (t j)), ar G g2 24 (fun j => nI (td j)), ar G g3 384 (fun j => nI (tv j))]) := by
  refine met_muV (cc := cX4_skipSpaces) (maxL := 1) (own := RX4) (by decide) rfl rfl (Nat.le_of_ble_eq_true rfl) ?_
  intro p e s m args below meth cod Q A hx hb hml hown hts hK hP hD hS hret ls hl
  have hl : lv_has ls 1 [(0, .ref x)] := hl
  have L0 : ∀ (fu : Nat) (pp : Nat), L + 1 - pp < fu → pp ≤ L → sk t L pl = sk t L pp → ∀ (H : Heap) (locs : List Loc), va_P G.1 vwCl [ob x 4 [.int (nI L), .ref g1, .int (nI pp), .int (nI nu), .int (nI np), .int (nI rr), .ref g2, .ref g3], arC G g1 100 (fun j => nI (t j)), ar G g2 24 (fun j => nI (td j)), ar G g3 384 (fun j => nI (tv j))] H → va_D A [ob x 4 [.int (nI L), .ref g1, .int (nI pp), .int (nI nu), .int (nI np), .int (nI rr), .ref g2, .ref g3], arC G g1 100 (fun j => nI (t j)), ar G g2 24 (fun j => nI (td j)), ar G g3 384 (fun j => nI (tv j))] → va_S A s.heap H locs → ∀ (ls : Array Slot), lv_has ls 1 [(0, .ref x)] → W p l e ({ frames := 1, cells := 0, slots := 0, locals := 20 } : Room) s m args below meth cod H locs 0 0 Q (F0 m 0 ls []) := by
    intro fu
    induction fu with
    | zero => intro pp hm; exact absurd hm (Nat.not_lt_zero _)
    | succ fu ih0 =>
      intro pp hm0 hp1 hp2 H locs hP hD hS ls hl
      have hP : va_P G.1 vwCl [ob x 4 [.int (nI L), .ref g1, .int (nI pp), .int (nI nu), .int (nI np), .int (nI rr), .ref g2, .ref g3], arC G g1 100 (fun j => nI (t j)), ar G g2 24 (fun j => nI (td j)), ar G g3 384 (fun j => nI (tv j))] H := hP
      have hD : va_D A [ob x 4 [.int (nI L), .ref g1, .int (nI pp), .int (nI nu), .int (nI np), .int (nI rr), .ref g2, .ref g3], arC G g1 100 (fun j => nI (t j)), ar G g2 24 (fun j => nI (td j)), ar G g3 384 (fun j => nI (tv j))] := hD
      refine lv_aload_n hx hb dX4_skipSpaces_0 rfl (lv_at hl 0 rfl) ?_
      refine va_get (D := G.1) (ci := 4) (v := .int (nI pp)) (C := RX4) (T := TX4) (N := 8) hx hb hts iqX4_skipSpaces_X4 hown hK.1 hP 0 rfl rfl 2 (by decide) (hts (.fieldLink RX4 19 "PushedTables$Text" "place" "I") (List.mem_of_getElem? (i := 1) rfl)) (fun _ h9 => h9) rfl dX4_skipSpaces_1 ?_
      refine lv_aload_n hx hb dX4_skipSpaces_4 rfl (lv_at hl 0 rfl) ?_
      refine va_get (D := G.1) (ci := 4) (v := .int (nI L)) (C := RX4) (T := TX4) (N := 8) hx hb hts iqX4_skipSpaces_X4 hown hK.1 hP 0 rfl rfl 0 (by decide) (hts (.fieldLink RX4 9 "PushedTables$Text" "length" "I") (List.mem_of_getElem? (i := 2) rfl)) (fun _ h9 => h9) rfl dX4_skipSpaces_5 ?_
      refine r_icmp_ge (P := L ≤ pp) (tgt := 33) hx hb dX4_skipSpaces_8 (by decide) (nI_leI (by omega) (by omega)) (fun cq8 => ?_) (fun cq8 => ?_)
      · exact hret _ _ _ _ hS dX4_skipSpaces_33 (by rw [hp2, sk_f (by omega)]; exact hP)
      · refine lv_aload_n hx hb dX4_skipSpaces_11 rfl (lv_at hl 0 rfl) ?_
        refine g_ro (k_V (q0 := 0) (ci := 4) (n := 0) (As := []) (rest := []) (wc := [ob x 4 [.int (nI L), .ref g1, .int (nI pp), .int (nI nu), .int (nI np), .int (nI rr), .ref g2, .ref g3], arC G g1 100 (fun j => nI (t j)), ar G g2 24 (fun j => nI (td j)), ar G g3 384 (fun j => nI (tv j))]) hx hb hml hown hts (c_X4_signHere (l := l) (G := G) (x := x) (g1 := g1) (g2 := g2) (g3 := g3) (L := L) (pl := pp) (nu := nu) (np := np) (rr := rr) (t := t) (td := td) (tv := tv) (hL := by first | assumption | omega) (hpl := by first | assumption | omega) (ht := by first | assumption | omega))  gX4_skipSpaces_X4_signHere rfl rfl rfl (by decide +kernel) ⟨Nat.le_of_ble_eq_true rfl, Nat.le_of_ble_eq_true rfl⟩ rfl hK hP hD [0, 1, 2, 3] rfl (by decide)  rfl rfl rfl hl.1 rfl (Nat.le_of_ble_eq_true rfl) dX4_skipSpaces_12 ⟨Nat.le_of_ble_eq_true rfl, Nat.le_of_ble_eq_true rfl⟩) (fun r12 h12 => ?_)
        obtain rfl : (nI (sg t L pp)) = r12 := Eq.symm h12
        have b12 := sg_lt (by assumption) L pp
        refine lv_bipush (v := (nI 32)) hx hb dX4_skipSpaces_15 (by decide) ?_
        refine r_icmp_ne (P := (sg t L pp) = 32) (tgt := 33) hx hb dX4_skipSpaces_17 (by decide) (nI_eq (by omega) (by omega)) (fun cq17 => ?_) (fun cq17 => ?_)
        · exact hret _ _ _ _ hS dX4_skipSpaces_33 (by rw [hp2, sk_f (fun z => cq17 (by unfold sg; rw [if_pos z.1]; exact z.2))]; exact hP)
        · refine lv_aload_n hx hb dX4_skipSpaces_20 rfl (lv_at hl 0 rfl) ?_
          refine lv_dup hx hb dX4_skipSpaces_21 rfl ?_
          refine va_get (D := G.1) (ci := 4) (v := .int (nI pp)) (C := RX4) (T := TX4) (N := 8) hx hb hts iqX4_skipSpaces_X4 hown hK.1 hP 0 rfl rfl 2 (by decide) (hts (.fieldLink RX4 19 "PushedTables$Text" "place" "I") (List.mem_of_getElem? (i := 1) rfl)) (fun _ h9 => h9) rfl dX4_skipSpaces_22 ?_
          refine lv_iconst (v := (nI 1)) hx hb dX4_skipSpaces_25 (by decide) ?_
          refine r_iadd (v := pp + 1) hx hb dX4_skipSpaces_26 rfl ?_
          refine va_put (D := G.1) (ci := 4) (v := .int (nI (pp + 1))) (ty := .int) (C := RX4) (T := TX4) (N := 8) hx hb hts iqX4_skipSpaces_X4 tyX4 tyX4_ok nmX4 hown hK.1 hP hD hS 0 rfl rfl 2 (by decide) (hts (.fieldLink RX4 19 "PushedTables$Text" "place" "I") (List.mem_of_getElem? (i := 1) rfl)) (fun _ h9 => h9) rfl (by decide +kernel) rfl rfl (Nat.le_of_ble_eq_true rfl) dX4_skipSpaces_27 (fun H locs hP hD hS => ?_)
          have hP : va_P G.1 vwCl [ob x 4 [.int (nI L), .ref g1, .int (nI (pp + 1)), .int (nI nu), .int (nI np), .int (nI rr), .ref g2, .ref g3], arC G g1 100 (fun j => nI (t j)), ar G g2 24 (fun j => nI (td j)), ar G g3 384 (fun j => nI (tv j))] H := hP
          have hD : va_D A [ob x 4 [.int (nI L), .ref g1, .int (nI (pp + 1)), .int (nI nu), .int (nI np), .int (nI rr), .ref g2, .ref g3], arC G g1 100 (fun j => nI (t j)), ar G g2 24 (fun j => nI (td j)), ar G g3 384 (fun j => nI (tv j))] := hD
          refine lv_goto (tgt := 0) hx hb dX4_skipSpaces_30 (by decide) ?_
          exact ih0 (pp + 1) (by omega) (by omega) (by rw [hp2]; exact sk_t (by omega) (by unfold sg at cq17; rw [if_pos (by omega)] at cq17; exact cq17)) _ _ hP hD hS ls (lv_sub hl [0] rfl)
  exact L0 ((L + 1 - pl) + 1) pl (Nat.lt_succ_self _) (hpl) (rfl) _ _ hP hD hS ls (lv_sub hl [0] rfl)

theorem iqX4_takeDigit_X4 : ∀ w ∈ u_ws RX4 TX4 8, w ∈ wsX4_takeDigit := by decide +kernel
set_option maxHeartbeats 1000000 in
set_option maxRecDepth 100000 in
theorem c_X4_takeDigit (l : Launch) (G : kG) (x g1 g2 g3 L pl nu np rr : Nat) (t td tv : Nat → Nat) (hL : L ≤ 100) (hpl : pl ≤ L) (ht : ∀ k, t k < 256) (hd : dg t L pl = true) : Met l yX4_takeDigit wsX4_takeDigit ({ frames := 1, cells := 0, slots := 0, locals := 20 } : Room) (cP G [.ref x] [ob x 4 [.int (nI L), .ref g1, .int (nI pl), .int (nI nu), .int (nI np), .int (nI rr), .ref g2, .ref g3], arC G g1 100 (fun j => nI (t j)), ar G g2 24 (fun j => nI (td j)), ar G g3 384 (fun j => nI (tv j))]) (qI (fun rv H => rv = (nI (sg t L pl - 48)) ∧ va_P G.1 vwCl [ob x 4 [.int (nI L), .ref g1, .int (nI (pl + 1)), .int (nI nu), .int (nI np), .int (nI rr), .ref g2, .ref g3], arC G g1 100 (fun j => nI (t j)), ar G g2 24 (fun j => nI (td j)), ar G g3 384 (fun j => nI (tv j))] H) (mA [ob x 4 [.int (nI L), .ref g1, .int (nI pl), .int (nI nu), .int (nI np), .int (nI rr), .ref g2, .ref g3], arC G g1 100 (fun j => nI (t j)), ar G g2 24 (fun j => nI (td j)), ar G g3 384 (fun j => nI (tv j))])) 0 0 (mA [ob x 4 [.int (nI L), .ref g1, .int (nI pl), .int (nI nu), .int (nI np), .int (nI rr), .ref g2, .ref g3], arC G g1 100 (fun j => nI (t j)), ar G g2 24 (fun j => nI (td j)), ar G g3 384 (fun j => nI (tv j))]) := by
  refine met_muI (cc := cX4_takeDigit) (maxL := 2) (ty := .int) (own := RX4) (by decide) rfl rfl (fun _ _ _ => rfl) (Nat.le_of_ble_eq_true rfl) ?_
  intro p e s m args below meth cod Q A hx hb hml hown hts hK hP hD hS hret ls hl
  have hl : lv_has ls 2 [(0, .ref x)] := hl
  have hd1 := dg_t.mp hd
  have hd2 := dg_lt hd
  refine lv_aload_n hx hb dX4_takeDigit_0 rfl (lv_at hl 0 rfl) ?_
  refine g_ro (k_V (q0 := 0) (ci := 4) (n := 0) (As := []) (rest := []) (wc := [ob x 4 [.int (nI L), .ref g1, .int (nI pl), .int (nI nu), .int (nI np), .int (nI rr), .ref g2, .ref g3], arC G g1 100 (fun j => nI (t j)), ar G g2 24 (fun j => nI (td j)), ar G g3 384 (fun j => nI (tv j))]) hx hb hml hown hts (c_X4_signHere (l := l) (G := G) (x := x) (g1 := g1) (g2 := g2) (g3 := g3) (L := L) (pl := pl) (nu := nu) (np := np) (rr := rr) (t := t) (td := td) (tv := tv) (hL := by first | assumption | omega) (hpl := by first | assumption | omega) (ht := by first | assumption | omega))  gX4_takeDigit_X4_signHere rfl rfl rfl (by decide +kernel) ⟨Nat.le_of_ble_eq_true rfl, Nat.le_of_ble_eq_true rfl⟩ rfl hK hP hD [0, 1, 2, 3] rfl (by decide)  rfl rfl rfl hl.1 rfl (Nat.le_of_ble_eq_true rfl) dX4_takeDigit_1 ⟨Nat.le_of_ble_eq_true rfl, Nat.le_of_ble_eq_true rfl⟩) (fun r1 h1 => ?_)
  obtain rfl : (nI (sg t L pl)) = r1 := Eq.symm h1
  have b1 := sg_lt (by assumption) L pl
  refine lv_bipush (v := (nI 48)) hx hb dX4_takeDigit_4 (by decide) ?_
  refine r_isub (v := (sg t L pl) - 48) hx hb dX4_takeDigit_6 (by omega) rfl ?_
  refine lv_istore_n (lv' := [(1, .int (nI ((sg t L pl) - 48))), (0, .ref x)]) hx hb dX4_takeDigit_7 rfl hl (by decide) rfl (fun ls hl => ?_)
  refine lv_aload_n hx hb dX4_takeDigit_8 rfl (lv_at hl 1 rfl) ?_
  refine lv_dup hx hb dX4_takeDigit_9 rfl ?_
  refine va_get (D := G.1) (ci := 4) (v := .int (nI pl)) (C := RX4) (T := TX4) (N := 8) hx hb hts iqX4_takeDigit_X4 hown hK.1 hP 0 rfl rfl 2 (by decide) (hts (.fieldLink RX4 19 "PushedTables$Text" "place" "I") (List.mem_of_getElem? (i := 1) rfl)) (fun _ h9 => h9) rfl dX4_takeDigit_10 ?_
  refine lv_iconst (v := (nI 1)) hx hb dX4_takeDigit_13 (by decide) ?_
  refine r_iadd (v := pl + 1) hx hb dX4_takeDigit_14 rfl ?_
  refine va_put (D := G.1) (ci := 4) (v := .int (nI (pl + 1))) (ty := .int) (C := RX4) (T := TX4) (N := 8) hx hb hts iqX4_takeDigit_X4 tyX4 tyX4_ok nmX4 hown hK.1 hP hD hS 0 rfl rfl 2 (by decide) (hts (.fieldLink RX4 19 "PushedTables$Text" "place" "I") (List.mem_of_getElem? (i := 1) rfl)) (fun _ h9 => h9) rfl (by decide +kernel) rfl rfl (Nat.le_of_ble_eq_true rfl) dX4_takeDigit_15 (fun H locs hP hD hS => ?_)
  have hP : va_P G.1 vwCl [ob x 4 [.int (nI L), .ref g1, .int (nI (pl + 1)), .int (nI nu), .int (nI np), .int (nI rr), .ref g2, .ref g3], arC G g1 100 (fun j => nI (t j)), ar G g2 24 (fun j => nI (td j)), ar G g3 384 (fun j => nI (tv j))] H := hP
  have hD : va_D A [ob x 4 [.int (nI L), .ref g1, .int (nI (pl + 1)), .int (nI nu), .int (nI np), .int (nI rr), .ref g2, .ref g3], arC G g1 100 (fun j => nI (t j)), ar G g2 24 (fun j => nI (td j)), ar G g3 384 (fun j => nI (tv j))] := hD
  refine lv_iload_n hx hb dX4_takeDigit_18 rfl (lv_at hl 0 rfl) ?_
  exact hret _ _ _ _ _ hS dX4_takeDigit_19 (⟨rfl, hP⟩)

theorem iqX4_takeSign_X4 : ∀ w ∈ u_ws RX4 TX4 8, w ∈ wsX4_takeSign := by decide +kernel
set_option maxHeartbeats 1000000 in
set_option maxRecDepth 100000 in
theorem c_X4_takeSign (l : Launch) (G : kG) (x g1 g2 g3 L pl nu np rr : Nat) (t td tv : Nat → Nat) (hL : L ≤ 100) (hpl : pl ≤ L) (ht : ∀ k, t k < 256) (w : Nat) (hw : w < 256) (hw0 : 0 < w) : Met l yX4_takeSign wsX4_takeSign ({ frames := 2, cells := 0, slots := 0, locals := 40 } : Room) (cP G [.ref x, .int (nI w)] [ob x 4 [.int (nI L), .ref g1, .int (nI pl), .int (nI nu), .int (nI np), .int (nI rr), .ref g2, .ref g3], arC G g1 100 (fun j => nI (t j)), ar G g2 24 (fun j => nI (td j)), ar G g3 384 (fun j => nI (tv j))]) (qI (fun rv H => ∃ (p2 : Nat), rv = (bI (decide (sg t L (sk t L pl) = w))) ∧ (p2 = if sg t L (sk t L pl) = w then sk t L pl + 1 else sk t L pl) ∧ p2 ≤ L ∧ va_P G.1 vwCl [ob x 4 [.int (nI L), .ref g1, .int (nI p2), .int (nI nu), .int (nI np), .int (nI rr), .ref g2, .ref g3], arC G g1 100 (fun j => nI (t j)), ar G g2 24 (fun j => nI (td j)), ar G g3 384 (fun j => nI (tv j))] H) (mA [ob x 4 [.int (nI L), .ref g1, .int (nI pl), .int (nI nu), .int (nI np), .int (nI rr), .ref g2, .ref g3], arC G g1 100 (fun j => nI (t j)), ar G g2 24 (fun j => nI (td j)), ar G g3 384 (fun j => nI (tv j))])) 0 0 (mA [ob x 4 [.int (nI L), .ref g1, .int (nI pl), .int (nI nu), .int (nI np), .int (nI rr), .ref g2, .ref g3], arC G g1 100 (fun j => nI (t j)), ar G g2 24 (fun j => nI (td j)), ar G g3 384 (fun j => nI (tv j))]) := by
  refine met_muI (cc := cX4_takeSign) (maxL := 2) (ty := .boolean) (own := RX4) (by decide) rfl rfl (fun _ _ h => by obtain ⟨_, rfl, _⟩ := h; exact bI_nar _) (Nat.le_of_ble_eq_true rfl) ?_
  intro p e s m args below meth cod Q A hx hb hml hown hts hK hP hD hS hret ls hl
  have hl : lv_has ls 2 [(0, .ref x), (1, .int (nI w))] := hl
  refine lv_aload_n hx hb dX4_takeSign_0 rfl (lv_at hl 0 rfl) ?_
  refine g_V (k_V (q0 := 0) (ci := 4) (n := 0) (As := []) (rest := []) (wc := [ob x 4 [.int (nI L), .ref g1, .int (nI pl), .int (nI nu), .int (nI np), .int (nI rr), .ref g2, .ref g3], arC G g1 100 (fun j => nI (t j)), ar G g2 24 (fun j => nI (td j)), ar G g3 384 (fun j => nI (tv j))]) hx hb hml hown hts (c_X4_skipSpaces (l := l) (G := G) (x := x) (g1 := g1) (g2 := g2) (g3 := g3) (L := L) (pl := pl) (nu := nu) (np := np) (rr := rr) (t := t) (td := td) (tv := tv) (hL := by first | assumption | omega) (hpl := by first | assumption | omega) (ht := by first | assumption | omega))  gX4_takeSign_X4_skipSpaces rfl rfl rfl (by decide +kernel) ⟨Nat.le_of_ble_eq_true rfl, Nat.le_of_ble_eq_true rfl⟩ rfl hK hP hD [0, 1, 2, 3] rfl (by decide)  rfl rfl rfl hl.1 rfl (Nat.le_of_ble_eq_true rfl) dX4_takeSign_1 ⟨Nat.le_of_ble_eq_true rfl, Nat.le_of_ble_eq_true rfl⟩) hP hD hS [0, 1, 2, 3] rfl (fun H locs hB1 back hS => ?_)
  have hP1 := hB1
  obtain ⟨hP, hD⟩ := back [ob x 4 [.int (nI L), .ref g1, .int (nI (sk t L pl)), .int (nI nu), .int (nI np), .int (nI rr), .ref g2, .ref g3], arC G g1 100 (fun j => nI (t j)), ar G g2 24 (fun j => nI (td j)), ar G g3 384 (fun j => nI (tv j))] rfl hP1
  have hP : va_P G.1 vwCl [ob x 4 [.int (nI L), .ref g1, .int (nI (sk t L pl)), .int (nI nu), .int (nI np), .int (nI rr), .ref g2, .ref g3], arC G g1 100 (fun j => nI (t j)), ar G g2 24 (fun j => nI (td j)), ar G g3 384 (fun j => nI (tv j))] H := hP
  have hD : va_D A [ob x 4 [.int (nI L), .ref g1, .int (nI (sk t L pl)), .int (nI nu), .int (nI np), .int (nI rr), .ref g2, .ref g3], arC G g1 100 (fun j => nI (t j)), ar G g2 24 (fun j => nI (td j)), ar G g3 384 (fun j => nI (tv j))] := hD
  have s1 := sk_le (t := t) hpl
  have sgb := sg_lt ht L (sk t L pl)
  refine lv_aload_n hx hb dX4_takeSign_4 rfl (lv_at hl 0 rfl) ?_
  refine g_ro (k_V (q0 := 0) (ci := 4) (n := 0) (As := []) (rest := []) (wc := [ob x 4 [.int (nI L), .ref g1, .int (nI (sk t L pl)), .int (nI nu), .int (nI np), .int (nI rr), .ref g2, .ref g3], arC G g1 100 (fun j => nI (t j)), ar G g2 24 (fun j => nI (td j)), ar G g3 384 (fun j => nI (tv j))]) hx hb hml hown hts (c_X4_signHere (l := l) (G := G) (x := x) (g1 := g1) (g2 := g2) (g3 := g3) (L := L) (pl := (sk t L pl)) (nu := nu) (np := np) (rr := rr) (t := t) (td := td) (tv := tv) (hL := by first | assumption | omega) (hpl := by first | assumption | omega) (ht := by first | assumption | omega))  gX4_takeSign_X4_signHere rfl rfl rfl (by decide +kernel) ⟨Nat.le_of_ble_eq_true rfl, Nat.le_of_ble_eq_true rfl⟩ rfl hK hP hD [0, 1, 2, 3] rfl (by decide)  rfl rfl rfl hl.1 rfl (Nat.le_of_ble_eq_true rfl) dX4_takeSign_5 ⟨Nat.le_of_ble_eq_true rfl, Nat.le_of_ble_eq_true rfl⟩) (fun r5 h5 => ?_)
  obtain rfl : (nI (sg t L (sk t L pl))) = r5 := Eq.symm h5
  have b5 := sg_lt (by assumption) L (sk t L pl)
  refine lv_iload_n hx hb dX4_takeSign_8 rfl (lv_at hl 1 rfl) ?_
  refine r_icmp_eq (P := (sg t L (sk t L pl)) = w) (tgt := 14) hx hb dX4_takeSign_9 (by decide) (nI_eq (by omega) (by omega)) (fun cq9 => ?_) (fun cq9 => ?_)
  · have s2 : sk t L pl < L := sg_pos (t := t) (by omega)
    refine lv_aload_n hx hb dX4_takeSign_14 rfl (lv_at hl 0 rfl) ?_
    refine lv_dup hx hb dX4_takeSign_15 rfl ?_
    refine va_get (D := G.1) (ci := 4) (v := .int (nI (sk t L pl))) (C := RX4) (T := TX4) (N := 8) hx hb hts iqX4_takeSign_X4 hown hK.1 hP 0 rfl rfl 2 (by decide) (hts (.fieldLink RX4 19 "PushedTables$Text" "place" "I") (List.mem_of_getElem? (i := 1) rfl)) (fun _ h9 => h9) rfl dX4_takeSign_16 ?_
    refine lv_iconst (v := (nI 1)) hx hb dX4_takeSign_19 (by decide) ?_
    refine r_iadd (v := (sk t L pl) + 1) hx hb dX4_takeSign_20 rfl ?_
    refine va_put (D := G.1) (ci := 4) (v := .int (nI ((sk t L pl) + 1))) (ty := .int) (C := RX4) (T := TX4) (N := 8) hx hb hts iqX4_takeSign_X4 tyX4 tyX4_ok nmX4 hown hK.1 hP hD hS 0 rfl rfl 2 (by decide) (hts (.fieldLink RX4 19 "PushedTables$Text" "place" "I") (List.mem_of_getElem? (i := 1) rfl)) (fun _ h9 => h9) rfl (by decide +kernel) rfl rfl (Nat.le_of_ble_eq_true rfl) dX4_takeSign_21 (fun H locs hP hD hS => ?_)
    have hP : va_P G.1 vwCl [ob x 4 [.int (nI L), .ref g1, .int (nI ((sk t L pl) + 1)), .int (nI nu), .int (nI np), .int (nI rr), .ref g2, .ref g3], arC G g1 100 (fun j => nI (t j)), ar G g2 24 (fun j => nI (td j)), ar G g3 384 (fun j => nI (tv j))] H := hP
    have hD : va_D A [ob x 4 [.int (nI L), .ref g1, .int (nI ((sk t L pl) + 1)), .int (nI nu), .int (nI np), .int (nI rr), .ref g2, .ref g3], arC G g1 100 (fun j => nI (t j)), ar G g2 24 (fun j => nI (td j)), ar G g3 384 (fun j => nI (tv j))] := hD
    refine lv_iconst (v := (nI 1)) hx hb dX4_takeSign_24 (by decide) ?_
    exact hret _ _ _ _ _ hS dX4_takeSign_25 (⟨(sk t L pl) + 1, bIt (decide_eq_true cq9), by rw [if_pos cq9], by omega, hP⟩)
  · refine lv_iconst (v := (nI 0)) hx hb dX4_takeSign_12 (by decide) ?_
    exact hret _ _ _ _ _ hS dX4_takeSign_13 (⟨(sk t L pl), bIf (decide_eq_false cq9), by rw [if_neg cq9], s1, hP⟩)

theorem iqX4_readNumber_X4 : ∀ w ∈ u_ws RX4 TX4 8, w ∈ wsX4_readNumber := by decide +kernel
set_option maxHeartbeats 1000000 in
set_option maxRecDepth 100000 in
theorem c_X4_readNumber (l : Launch) (G : kG) (x g1 g2 g3 L pl nu np rr : Nat) (t td tv : Nat → Nat) (hL : L ≤ 100) (hpl : pl ≤ L) (ht : ∀ k, t k < 256) : Met l yX4_readNumber wsX4_readNumber ({ frames := 2, cells := 0, slots := 0, locals := 41 } : Room) (cP G [.ref x] [ob x 4 [.int (nI L), .ref g1, .int (nI pl), .int (nI nu), .int (nI np), .int (nI rr), .ref g2, .ref g3], arC G g1 100 (fun j => nI (t j)), ar G g2 24 (fun j => nI (td j)), ar G g3 384 (fun j => nI (tv j))]) (qI (fun rv H => ∃ (p2 : Nat) (n2 : Nat) (np2 : Nat), rv = (bI (nmO t L (sk t L pl))) ∧ p2 = nmP t L (sk t L pl) ∧ p2 ≤ L ∧ (nmO t L (sk t L pl) = true → n2 = nmV t L (sk t L pl) ∧ np2 = sk t L pl ∧ n2 < 100) ∧ va_P G.1 vwCl [ob x 4 [.int (nI L), .ref g1, .int (nI p2), .int (nI n2), .int (nI np2), .int (nI rr), .ref g2, .ref g3], arC G g1 100 (fun j => nI (t j)), ar G g2 24 (fun j => nI (td j)), ar G g3 384 (fun j => nI (tv j))] H) (mA [ob x 4 [.int (nI L), .ref g1, .int (nI pl), .int (nI nu), .int (nI np), .int (nI rr), .ref g2, .ref g3], arC G g1 100 (fun j => nI (t j)), ar G g2 24 (fun j => nI (td j)), ar G g3 384 (fun j => nI (tv j))])) 0 0 (mA [ob x 4 [.int (nI L), .ref g1, .int (nI pl), .int (nI nu), .int (nI np), .int (nI rr), .ref g2, .ref g3], arC G g1 100 (fun j => nI (t j)), ar G g2 24 (fun j => nI (td j)), ar G g3 384 (fun j => nI (tv j))]) := by
  refine met_muI (cc := cX4_readNumber) (maxL := 1) (ty := .boolean) (own := RX4) (by decide) rfl rfl (fun _ _ h => by obtain ⟨_, _, _, rfl, _⟩ := h; exact bI_nar _) (Nat.le_of_ble_eq_true rfl) ?_
  intro p e s m args below meth cod Q A hx hb hml hown hts hK hP hD hS hret ls hl
  have hl : lv_has ls 1 [(0, .ref x)] := hl
  refine lv_aload_n hx hb dX4_readNumber_0 rfl (lv_at hl 0 rfl) ?_
  refine g_V (k_V (q0 := 0) (ci := 4) (n := 0) (As := []) (rest := []) (wc := [ob x 4 [.int (nI L), .ref g1, .int (nI pl), .int (nI nu), .int (nI np), .int (nI rr), .ref g2, .ref g3], arC G g1 100 (fun j => nI (t j)), ar G g2 24 (fun j => nI (td j)), ar G g3 384 (fun j => nI (tv j))]) hx hb hml hown hts (c_X4_skipSpaces (l := l) (G := G) (x := x) (g1 := g1) (g2 := g2) (g3 := g3) (L := L) (pl := pl) (nu := nu) (np := np) (rr := rr) (t := t) (td := td) (tv := tv) (hL := by first | assumption | omega) (hpl := by first | assumption | omega) (ht := by first | assumption | omega))  gX4_readNumber_X4_skipSpaces rfl rfl rfl (by decide +kernel) ⟨Nat.le_of_ble_eq_true rfl, Nat.le_of_ble_eq_true rfl⟩ rfl hK hP hD [0, 1, 2, 3] rfl (by decide)  rfl rfl rfl hl.1 rfl (Nat.le_of_ble_eq_true rfl) dX4_readNumber_1 ⟨Nat.le_of_ble_eq_true rfl, Nat.le_of_ble_eq_true rfl⟩) hP hD hS [0, 1, 2, 3] rfl (fun H locs hB1 back hS => ?_)
  have hP1 := hB1
  obtain ⟨hP, hD⟩ := back [ob x 4 [.int (nI L), .ref g1, .int (nI (sk t L pl)), .int (nI nu), .int (nI np), .int (nI rr), .ref g2, .ref g3], arC G g1 100 (fun j => nI (t j)), ar G g2 24 (fun j => nI (td j)), ar G g3 384 (fun j => nI (tv j))] rfl hP1
  have hP : va_P G.1 vwCl [ob x 4 [.int (nI L), .ref g1, .int (nI (sk t L pl)), .int (nI nu), .int (nI np), .int (nI rr), .ref g2, .ref g3], arC G g1 100 (fun j => nI (t j)), ar G g2 24 (fun j => nI (td j)), ar G g3 384 (fun j => nI (tv j))] H := hP
  have hD : va_D A [ob x 4 [.int (nI L), .ref g1, .int (nI (sk t L pl)), .int (nI nu), .int (nI np), .int (nI rr), .ref g2, .ref g3], arC G g1 100 (fun j => nI (t j)), ar G g2 24 (fun j => nI (td j)), ar G g3 384 (fun j => nI (tv j))] := hD
  have s1 := sk_le (t := t) hpl
  have sgb := sg_lt ht L (sk t L pl)
  refine lv_aload_n hx hb dX4_readNumber_4 rfl (lv_at hl 0 rfl) ?_
  refine g_ro (k_V (q0 := 0) (ci := 4) (n := 0) (As := []) (rest := []) (wc := [ob x 4 [.int (nI L), .ref g1, .int (nI (sk t L pl)), .int (nI nu), .int (nI np), .int (nI rr), .ref g2, .ref g3], arC G g1 100 (fun j => nI (t j)), ar G g2 24 (fun j => nI (td j)), ar G g3 384 (fun j => nI (tv j))]) hx hb hml hown hts (c_X4_isDigitHere (l := l) (G := G) (x := x) (g1 := g1) (g2 := g2) (g3 := g3) (L := L) (pl := (sk t L pl)) (nu := nu) (np := np) (rr := rr) (t := t) (td := td) (tv := tv) (hL := by first | assumption | omega) (hpl := by first | assumption | omega) (ht := by first | assumption | omega))  gX4_readNumber_X4_isDigitHere rfl rfl rfl (by decide +kernel) ⟨Nat.le_of_ble_eq_true rfl, Nat.le_of_ble_eq_true rfl⟩ rfl hK hP hD [0, 1, 2, 3] rfl (by decide)  rfl rfl rfl hl.1 rfl (Nat.le_of_ble_eq_true rfl) dX4_readNumber_5 ⟨Nat.le_of_ble_eq_true rfl, Nat.le_of_ble_eq_true rfl⟩) (fun r5 h5 => ?_)
  obtain rfl : (bI (dg t L (sk t L pl))) = r5 := Eq.symm h5
  refine r_if_ne (P := (dg t L (sk t L pl)) = false) (tgt := 13) hx hb dX4_readNumber_8 (by decide) (bI_eq0) (fun cq8 => ?_) (fun cq8 => ?_)
  · have d8 := Bool.of_not_eq_false cq8
    have d9 := dg_t.mp d8
    have l8 := dg_lt d8
    refine lv_aload_n hx hb dX4_readNumber_13 rfl (lv_at hl 0 rfl) ?_
    refine lv_aload_n hx hb dX4_readNumber_14 rfl (lv_at hl 0 rfl) ?_
    refine va_get (D := G.1) (ci := 4) (v := .int (nI (sk t L pl))) (C := RX4) (T := TX4) (N := 8) hx hb hts iqX4_readNumber_X4 hown hK.1 hP 0 rfl rfl 2 (by decide) (hts (.fieldLink RX4 19 "PushedTables$Text" "place" "I") (List.mem_of_getElem? (i := 1) rfl)) (fun _ h9 => h9) rfl dX4_readNumber_15 ?_
    refine va_put (D := G.1) (ci := 4) (v := .int (nI (sk t L pl))) (ty := .int) (C := RX4) (T := TX4) (N := 8) hx hb hts iqX4_readNumber_X4 tyX4 tyX4_ok nmX4 hown hK.1 hP hD hS 0 rfl rfl 4 (by decide) (hts (.fieldLink RX4 25 "PushedTables$Text" "numberPlace" "I") (List.mem_of_getElem? (i := 2) rfl)) (fun _ h9 => h9) rfl (by decide +kernel) rfl rfl (Nat.le_of_ble_eq_true rfl) dX4_readNumber_18 (fun H locs hP hD hS => ?_)
    have hP : va_P G.1 vwCl [ob x 4 [.int (nI L), .ref g1, .int (nI (sk t L pl)), .int (nI nu), .int (nI (sk t L pl)), .int (nI rr), .ref g2, .ref g3], arC G g1 100 (fun j => nI (t j)), ar G g2 24 (fun j => nI (td j)), ar G g3 384 (fun j => nI (tv j))] H := hP
    have hD : va_D A [ob x 4 [.int (nI L), .ref g1, .int (nI (sk t L pl)), .int (nI nu), .int (nI (sk t L pl)), .int (nI rr), .ref g2, .ref g3], arC G g1 100 (fun j => nI (t j)), ar G g2 24 (fun j => nI (td j)), ar G g3 384 (fun j => nI (tv j))] := hD
    refine lv_aload_n hx hb dX4_readNumber_21 rfl (lv_at hl 0 rfl) ?_
    refine lv_aload_n hx hb dX4_readNumber_22 rfl (lv_at hl 0 rfl) ?_
    refine g_I (k_V (q0 := 0) (ci := 4) (n := 0) (As := []) (rest := [.ref x]) (wc := [ob x 4 [.int (nI L), .ref g1, .int (nI (sk t L pl)), .int (nI nu), .int (nI (sk t L pl)), .int (nI rr), .ref g2, .ref g3], arC G g1 100 (fun j => nI (t j)), ar G g2 24 (fun j => nI (td j)), ar G g3 384 (fun j => nI (tv j))]) hx hb hml hown hts (c_X4_takeDigit (l := l) (G := G) (x := x) (g1 := g1) (g2 := g2) (g3 := g3) (L := L) (pl := (sk t L pl)) (nu := nu) (np := (sk t L pl)) (rr := rr) (t := t) (td := td) (tv := tv) (hL := by first | assumption | omega) (hpl := by first | assumption | omega) (ht := by first | assumption | omega) (hd := by first | assumption | omega))  gX4_readNumber_X4_takeDigit rfl rfl rfl (by decide +kernel) ⟨Nat.le_of_ble_eq_true rfl, Nat.le_of_ble_eq_true rfl⟩ rfl hK hP hD [0, 1, 2, 3] rfl (by decide)  rfl rfl rfl hl.1 rfl (Nat.le_of_ble_eq_true rfl) dX4_readNumber_23 ⟨Nat.le_of_ble_eq_true rfl, Nat.le_of_ble_eq_true rfl⟩) hP hD hS [0, 1, 2, 3] rfl (fun r23 H locs hB23 back hS => ?_)
    obtain ⟨he23, hP1⟩ := hB23
    obtain rfl := Eq.symm he23
    obtain ⟨hP, hD⟩ := back [ob x 4 [.int (nI L), .ref g1, .int (nI ((sk t L pl) + 1)), .int (nI nu), .int (nI (sk t L pl)), .int (nI rr), .ref g2, .ref g3], arC G g1 100 (fun j => nI (t j)), ar G g2 24 (fun j => nI (td j)), ar G g3 384 (fun j => nI (tv j))] rfl hP1
    have hP : va_P G.1 vwCl [ob x 4 [.int (nI L), .ref g1, .int (nI ((sk t L pl) + 1)), .int (nI nu), .int (nI (sk t L pl)), .int (nI rr), .ref g2, .ref g3], arC G g1 100 (fun j => nI (t j)), ar G g2 24 (fun j => nI (td j)), ar G g3 384 (fun j => nI (tv j))] H := hP
    have hD : va_D A [ob x 4 [.int (nI L), .ref g1, .int (nI ((sk t L pl) + 1)), .int (nI nu), .int (nI (sk t L pl)), .int (nI rr), .ref g2, .ref g3], arC G g1 100 (fun j => nI (t j)), ar G g2 24 (fun j => nI (td j)), ar G g3 384 (fun j => nI (tv j))] := hD
    refine va_put (D := G.1) (ci := 4) (v := .int (nI (sg t L (sk t L pl) - 48))) (ty := .int) (C := RX4) (T := TX4) (N := 8) hx hb hts iqX4_readNumber_X4 tyX4 tyX4_ok nmX4 hown hK.1 hP hD hS 0 rfl rfl 3 (by decide) (hts (.fieldLink RX4 22 "PushedTables$Text" "number" "I") (List.mem_of_getElem? (i := 3) rfl)) (fun _ h9 => h9) rfl (by decide +kernel) rfl rfl (Nat.le_of_ble_eq_true rfl) dX4_readNumber_26 (fun H locs hP hD hS => ?_)
    have hP : va_P G.1 vwCl [ob x 4 [.int (nI L), .ref g1, .int (nI ((sk t L pl) + 1)), .int (nI (sg t L (sk t L pl) - 48)), .int (nI (sk t L pl)), .int (nI rr), .ref g2, .ref g3], arC G g1 100 (fun j => nI (t j)), ar G g2 24 (fun j => nI (td j)), ar G g3 384 (fun j => nI (tv j))] H := hP
    have hD : va_D A [ob x 4 [.int (nI L), .ref g1, .int (nI ((sk t L pl) + 1)), .int (nI (sg t L (sk t L pl) - 48)), .int (nI (sk t L pl)), .int (nI rr), .ref g2, .ref g3], arC G g1 100 (fun j => nI (t j)), ar G g2 24 (fun j => nI (td j)), ar G g3 384 (fun j => nI (tv j))] := hD
    refine lv_aload_n hx hb dX4_readNumber_29 rfl (lv_at hl 0 rfl) ?_
    refine va_get (D := G.1) (ci := 4) (v := .int (nI (sg t L (sk t L pl) - 48))) (C := RX4) (T := TX4) (N := 8) hx hb hts iqX4_readNumber_X4 hown hK.1 hP 0 rfl rfl 3 (by decide) (hts (.fieldLink RX4 22 "PushedTables$Text" "number" "I") (List.mem_of_getElem? (i := 3) rfl)) (fun _ h9 => h9) rfl dX4_readNumber_30 ?_
    refine r_if_eq (P := (sg t L (sk t L pl) - 48) = 0) (tgt := 59) hx hb dX4_readNumber_33 (by decide) (nI_eq0 (by omega)) (fun cq33 => ?_) (fun cq33 => ?_)
    · refine lv_aload_n hx hb dX4_readNumber_59 rfl (lv_at hl 0 rfl) ?_
      refine g_ro (k_V (q0 := 0) (ci := 4) (n := 0) (As := []) (rest := []) (wc := [ob x 4 [.int (nI L), .ref g1, .int (nI ((sk t L pl) + 1)), .int (nI (sg t L (sk t L pl) - 48)), .int (nI (sk t L pl)), .int (nI rr), .ref g2, .ref g3], arC G g1 100 (fun j => nI (t j)), ar G g2 24 (fun j => nI (td j)), ar G g3 384 (fun j => nI (tv j))]) hx hb hml hown hts (c_X4_isDigitHere (l := l) (G := G) (x := x) (g1 := g1) (g2 := g2) (g3 := g3) (L := L) (pl := ((sk t L pl) + 1)) (nu := sg t L (sk t L pl) - 48) (np := (sk t L pl)) (rr := rr) (t := t) (td := td) (tv := tv) (hL := by first | assumption | omega) (hpl := by first | assumption | omega) (ht := by first | assumption | omega))  gX4_readNumber_X4_isDigitHere rfl rfl rfl (by decide +kernel) ⟨Nat.le_of_ble_eq_true rfl, Nat.le_of_ble_eq_true rfl⟩ rfl hK hP hD [0, 1, 2, 3] rfl (by decide)  rfl rfl rfl hl.1 rfl (Nat.le_of_ble_eq_true rfl) dX4_readNumber_60 ⟨Nat.le_of_ble_eq_true rfl, Nat.le_of_ble_eq_true rfl⟩) (fun r60 h60 => ?_)
      obtain rfl : (bI (dg t L ((sk t L pl) + 1))) = r60 := Eq.symm h60
      refine r_if_ne (P := (dg t L ((sk t L pl) + 1)) = false) (tgt := 70) hx hb dX4_readNumber_63 (by decide) (bI_eq0) (fun cq63 => ?_) (fun cq63 => ?_)
      · refine lv_iconst (v := (nI 0)) hx hb dX4_readNumber_70 (by decide) ?_
        have W := nmW_0 cq33
        have O := nmO_f (t := t) (L := L) (s := (sk t L pl)) (by rw [nmE_f W]; exact Bool.of_not_eq_false cq63)
        exact hret _ _ _ _ _ hS dX4_readNumber_71 (⟨((sk t L pl) + 1), sg t L (sk t L pl) - 48, (sk t L pl), bIf O, by rw [nmP_t d8, nmE_f W], by omega, no_t O, hP⟩)
      · refine lv_iconst (v := (nI 1)) hx hb dX4_readNumber_66 (by decide) ?_
        refine lv_goto (tgt := 71) hx hb dX4_readNumber_67 (by decide) ?_
        have W := nmW_0 cq33
        exact hret _ _ _ _ _ hS dX4_readNumber_71 (⟨((sk t L pl) + 1), sg t L (sk t L pl) - 48, (sk t L pl), bIt (nmO_t d8 (by rw [nmE_f W]; exact cq63)), by rw [nmP_t d8, nmE_f W], by omega, fun _ => ⟨(nmV_f W).symm, rfl, by omega⟩, hP⟩)
    · refine lv_aload_n hx hb dX4_readNumber_36 rfl (lv_at hl 0 rfl) ?_
      refine g_ro (k_V (q0 := 0) (ci := 4) (n := 0) (As := []) (rest := []) (wc := [ob x 4 [.int (nI L), .ref g1, .int (nI ((sk t L pl) + 1)), .int (nI (sg t L (sk t L pl) - 48)), .int (nI (sk t L pl)), .int (nI rr), .ref g2, .ref g3], arC G g1 100 (fun j => nI (t j)), ar G g2 24 (fun j => nI (td j)), ar G g3 384 (fun j => nI (tv j))]) hx hb hml hown hts (c_X4_isDigitHere (l := l) (G := G) (x := x) (g1 := g1) (g2 := g2) (g3 := g3) (L := L) (pl := ((sk t L pl) + 1)) (nu := sg t L (sk t L pl) - 48) (np := (sk t L pl)) (rr := rr) (t := t) (td := td) (tv := tv) (hL := by first | assumption | omega) (hpl := by first | assumption | omega) (ht := by first | assumption | omega))  gX4_readNumber_X4_isDigitHere rfl rfl rfl (by decide +kernel) ⟨Nat.le_of_ble_eq_true rfl, Nat.le_of_ble_eq_true rfl⟩ rfl hK hP hD [0, 1, 2, 3] rfl (by decide)  rfl rfl rfl hl.1 rfl (Nat.le_of_ble_eq_true rfl) dX4_readNumber_37 ⟨Nat.le_of_ble_eq_true rfl, Nat.le_of_ble_eq_true rfl⟩) (fun r37 h37 => ?_)
      obtain rfl : (bI (dg t L ((sk t L pl) + 1))) = r37 := Eq.symm h37
      refine r_if_eq (P := (dg t L ((sk t L pl) + 1)) = false) (tgt := 59) hx hb dX4_readNumber_40 (by decide) (bI_eq0) (fun cq40 => ?_) (fun cq40 => ?_)
      · refine lv_aload_n hx hb dX4_readNumber_59 rfl (lv_at hl 0 rfl) ?_
        refine g_ro (k_V (q0 := 0) (ci := 4) (n := 0) (As := []) (rest := []) (wc := [ob x 4 [.int (nI L), .ref g1, .int (nI ((sk t L pl) + 1)), .int (nI (sg t L (sk t L pl) - 48)), .int (nI (sk t L pl)), .int (nI rr), .ref g2, .ref g3], arC G g1 100 (fun j => nI (t j)), ar G g2 24 (fun j => nI (td j)), ar G g3 384 (fun j => nI (tv j))]) hx hb hml hown hts (c_X4_isDigitHere (l := l) (G := G) (x := x) (g1 := g1) (g2 := g2) (g3 := g3) (L := L) (pl := ((sk t L pl) + 1)) (nu := sg t L (sk t L pl) - 48) (np := (sk t L pl)) (rr := rr) (t := t) (td := td) (tv := tv) (hL := by first | assumption | omega) (hpl := by first | assumption | omega) (ht := by first | assumption | omega))  gX4_readNumber_X4_isDigitHere rfl rfl rfl (by decide +kernel) ⟨Nat.le_of_ble_eq_true rfl, Nat.le_of_ble_eq_true rfl⟩ rfl hK hP hD [0, 1, 2, 3] rfl (by decide)  rfl rfl rfl hl.1 rfl (Nat.le_of_ble_eq_true rfl) dX4_readNumber_60 ⟨Nat.le_of_ble_eq_true rfl, Nat.le_of_ble_eq_true rfl⟩) (fun r60 h60 => ?_)
        obtain rfl : (bI (dg t L ((sk t L pl) + 1))) = r60 := Eq.symm h60
        refine r_if_ne (P := (dg t L ((sk t L pl) + 1)) = false) (tgt := 70) hx hb dX4_readNumber_63 (by decide) (bI_eq0) (fun cq63 => ?_) (fun cq63 => ?_)
        · refine lv_iconst (v := (nI 0)) hx hb dX4_readNumber_70 (by decide) ?_
          have W := nmW_f (s := (sk t L pl)) cq40
          have O := nmO_f (t := t) (L := L) (s := (sk t L pl)) (by rw [nmE_f W]; exact Bool.of_not_eq_false cq63)
          exact hret _ _ _ _ _ hS dX4_readNumber_71 (⟨((sk t L pl) + 1), sg t L (sk t L pl) - 48, (sk t L pl), bIf O, by rw [nmP_t d8, nmE_f W], by omega, no_t O, hP⟩)
        · refine lv_iconst (v := (nI 1)) hx hb dX4_readNumber_66 (by decide) ?_
          refine lv_goto (tgt := 71) hx hb dX4_readNumber_67 (by decide) ?_
          have W := nmW_f (s := (sk t L pl)) cq40
          exact hret _ _ _ _ _ hS dX4_readNumber_71 (⟨((sk t L pl) + 1), sg t L (sk t L pl) - 48, (sk t L pl), bIt (nmO_t d8 (by rw [nmE_f W]; exact cq63)), by rw [nmP_t d8, nmE_f W], by omega, fun _ => ⟨(nmV_f W).symm, rfl, by omega⟩, hP⟩)
      · have d40 := Bool.of_not_eq_false cq40
        have d41 := dg_t.mp d40
        have l40 := dg_lt d40
        refine lv_aload_n hx hb dX4_readNumber_43 rfl (lv_at hl 0 rfl) ?_
        refine lv_aload_n hx hb dX4_readNumber_44 rfl (lv_at hl 0 rfl) ?_
        refine va_get (D := G.1) (ci := 4) (v := .int (nI (sg t L (sk t L pl) - 48))) (C := RX4) (T := TX4) (N := 8) hx hb hts iqX4_readNumber_X4 hown hK.1 hP 0 rfl rfl 3 (by decide) (hts (.fieldLink RX4 22 "PushedTables$Text" "number" "I") (List.mem_of_getElem? (i := 3) rfl)) (fun _ h9 => h9) rfl dX4_readNumber_45 ?_
        refine lv_bipush (v := (nI 10)) hx hb dX4_readNumber_48 (by decide) ?_
        refine r_imul (v := (sg t L (sk t L pl) - 48) * 10) hx hb dX4_readNumber_50 rfl ?_
        refine lv_aload_n hx hb dX4_readNumber_51 rfl (lv_at hl 0 rfl) ?_
        refine g_I (k_V (q0 := 0) (ci := 4) (n := 0) (As := []) (rest := [.int (nI ((sg t L (sk t L pl) - 48) * 10)), .ref x]) (wc := [ob x 4 [.int (nI L), .ref g1, .int (nI ((sk t L pl) + 1)), .int (nI (sg t L (sk t L pl) - 48)), .int (nI (sk t L pl)), .int (nI rr), .ref g2, .ref g3], arC G g1 100 (fun j => nI (t j)), ar G g2 24 (fun j => nI (td j)), ar G g3 384 (fun j => nI (tv j))]) hx hb hml hown hts (c_X4_takeDigit (l := l) (G := G) (x := x) (g1 := g1) (g2 := g2) (g3 := g3) (L := L) (pl := ((sk t L pl) + 1)) (nu := sg t L (sk t L pl) - 48) (np := (sk t L pl)) (rr := rr) (t := t) (td := td) (tv := tv) (hL := by first | assumption | omega) (hpl := by first | assumption | omega) (ht := by first | assumption | omega) (hd := by first | assumption | omega))  gX4_readNumber_X4_takeDigit rfl rfl rfl (by decide +kernel) ⟨Nat.le_of_ble_eq_true rfl, Nat.le_of_ble_eq_true rfl⟩ rfl hK hP hD [0, 1, 2, 3] rfl (by decide)  rfl rfl rfl hl.1 rfl (Nat.le_of_ble_eq_true rfl) dX4_readNumber_52 ⟨Nat.le_of_ble_eq_true rfl, Nat.le_of_ble_eq_true rfl⟩) hP hD hS [0, 1, 2, 3] rfl (fun r52 H locs hB52 back hS => ?_)
        obtain ⟨he52, hP1⟩ := hB52
        obtain rfl := Eq.symm he52
        obtain ⟨hP, hD⟩ := back [ob x 4 [.int (nI L), .ref g1, .int (nI (((sk t L pl) + 1) + 1)), .int (nI (sg t L (sk t L pl) - 48)), .int (nI (sk t L pl)), .int (nI rr), .ref g2, .ref g3], arC G g1 100 (fun j => nI (t j)), ar G g2 24 (fun j => nI (td j)), ar G g3 384 (fun j => nI (tv j))] rfl hP1
        have hP : va_P G.1 vwCl [ob x 4 [.int (nI L), .ref g1, .int (nI (((sk t L pl) + 1) + 1)), .int (nI (sg t L (sk t L pl) - 48)), .int (nI (sk t L pl)), .int (nI rr), .ref g2, .ref g3], arC G g1 100 (fun j => nI (t j)), ar G g2 24 (fun j => nI (td j)), ar G g3 384 (fun j => nI (tv j))] H := hP
        have hD : va_D A [ob x 4 [.int (nI L), .ref g1, .int (nI (((sk t L pl) + 1) + 1)), .int (nI (sg t L (sk t L pl) - 48)), .int (nI (sk t L pl)), .int (nI rr), .ref g2, .ref g3], arC G g1 100 (fun j => nI (t j)), ar G g2 24 (fun j => nI (td j)), ar G g3 384 (fun j => nI (tv j))] := hD
        refine r_iadd (v := ((sg t L (sk t L pl) - 48) * 10) + (sg t L ((sk t L pl) + 1) - 48)) hx hb dX4_readNumber_55 rfl ?_
        refine va_put (D := G.1) (ci := 4) (v := .int (nI (((sg t L (sk t L pl) - 48) * 10) + (sg t L ((sk t L pl) + 1) - 48)))) (ty := .int) (C := RX4) (T := TX4) (N := 8) hx hb hts iqX4_readNumber_X4 tyX4 tyX4_ok nmX4 hown hK.1 hP hD hS 0 rfl rfl 3 (by decide) (hts (.fieldLink RX4 22 "PushedTables$Text" "number" "I") (List.mem_of_getElem? (i := 3) rfl)) (fun _ h9 => h9) rfl (by decide +kernel) rfl rfl (Nat.le_of_ble_eq_true rfl) dX4_readNumber_56 (fun H locs hP hD hS => ?_)
        have hP : va_P G.1 vwCl [ob x 4 [.int (nI L), .ref g1, .int (nI (((sk t L pl) + 1) + 1)), .int (nI (((sg t L (sk t L pl) - 48) * 10) + (sg t L ((sk t L pl) + 1) - 48))), .int (nI (sk t L pl)), .int (nI rr), .ref g2, .ref g3], arC G g1 100 (fun j => nI (t j)), ar G g2 24 (fun j => nI (td j)), ar G g3 384 (fun j => nI (tv j))] H := hP
        have hD : va_D A [ob x 4 [.int (nI L), .ref g1, .int (nI (((sk t L pl) + 1) + 1)), .int (nI (((sg t L (sk t L pl) - 48) * 10) + (sg t L ((sk t L pl) + 1) - 48))), .int (nI (sk t L pl)), .int (nI rr), .ref g2, .ref g3], arC G g1 100 (fun j => nI (t j)), ar G g2 24 (fun j => nI (td j)), ar G g3 384 (fun j => nI (tv j))] := hD
        refine lv_aload_n hx hb dX4_readNumber_59 rfl (lv_at hl 0 rfl) ?_
        refine g_ro (k_V (q0 := 0) (ci := 4) (n := 0) (As := []) (rest := []) (wc := [ob x 4 [.int (nI L), .ref g1, .int (nI (((sk t L pl) + 1) + 1)), .int (nI (((sg t L (sk t L pl) - 48) * 10) + (sg t L ((sk t L pl) + 1) - 48))), .int (nI (sk t L pl)), .int (nI rr), .ref g2, .ref g3], arC G g1 100 (fun j => nI (t j)), ar G g2 24 (fun j => nI (td j)), ar G g3 384 (fun j => nI (tv j))]) hx hb hml hown hts (c_X4_isDigitHere (l := l) (G := G) (x := x) (g1 := g1) (g2 := g2) (g3 := g3) (L := L) (pl := (((sk t L pl) + 1) + 1)) (nu := ((sg t L (sk t L pl) - 48) * 10) + (sg t L ((sk t L pl) + 1) - 48)) (np := (sk t L pl)) (rr := rr) (t := t) (td := td) (tv := tv) (hL := by first | assumption | omega) (hpl := by first | assumption | omega) (ht := by first | assumption | omega))  gX4_readNumber_X4_isDigitHere rfl rfl rfl (by decide +kernel) ⟨Nat.le_of_ble_eq_true rfl, Nat.le_of_ble_eq_true rfl⟩ rfl hK hP hD [0, 1, 2, 3] rfl (by decide)  rfl rfl rfl hl.1 rfl (Nat.le_of_ble_eq_true rfl) dX4_readNumber_60 ⟨Nat.le_of_ble_eq_true rfl, Nat.le_of_ble_eq_true rfl⟩) (fun r60 h60 => ?_)
        obtain rfl : (bI (dg t L (((sk t L pl) + 1) + 1))) = r60 := Eq.symm h60
        refine r_if_ne (P := (dg t L (((sk t L pl) + 1) + 1)) = false) (tgt := 70) hx hb dX4_readNumber_63 (by decide) (bI_eq0) (fun cq63 => ?_) (fun cq63 => ?_)
        · refine lv_iconst (v := (nI 0)) hx hb dX4_readNumber_70 (by decide) ?_
          have W := nmW_t (s := (sk t L pl)) cq33 d40
          have O := nmO_f (t := t) (L := L) (s := (sk t L pl)) (by rw [nmE_t W]; exact Bool.of_not_eq_false cq63)
          exact hret _ _ _ _ _ hS dX4_readNumber_71 (⟨(((sk t L pl) + 1) + 1), ((sg t L (sk t L pl) - 48) * 10) + (sg t L ((sk t L pl) + 1) - 48), (sk t L pl), bIf O, by rw [nmP_t d8, nmE_t W], by omega, no_t O, hP⟩)
        · refine lv_iconst (v := (nI 1)) hx hb dX4_readNumber_66 (by decide) ?_
          refine lv_goto (tgt := 71) hx hb dX4_readNumber_67 (by decide) ?_
          have W := nmW_t (s := (sk t L pl)) cq33 d40
          exact hret _ _ _ _ _ hS dX4_readNumber_71 (⟨(((sk t L pl) + 1) + 1), ((sg t L (sk t L pl) - 48) * 10) + (sg t L ((sk t L pl) + 1) - 48), (sk t L pl), bIt (nmO_t d8 (by rw [nmE_t W]; exact cq63)), by rw [nmP_t d8, nmE_t W], by omega, fun _ => ⟨(nmV_t W).symm, rfl, by omega⟩, hP⟩)
  · refine lv_iconst (v := (nI 0)) hx hb dX4_readNumber_11 (by decide) ?_
    exact hret _ _ _ _ _ hS dX4_readNumber_12 (⟨(sk t L pl), nu, np, bIf (nmO_n cq8), by rw [nmP_f cq8], s1, no_t (nmO_n cq8), hP⟩)
