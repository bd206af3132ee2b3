/-! the class's public methods -/
theorem row_n {x : Int32} {n : Nat} (h : inr x 0 ((n : Int) - 1) = true) : ∃ r, r < n ∧ x = nI r := by
  have h := inr_t.mp h
  refine ⟨x.toInt.toNat, by omega, ?_⟩
  have hb := fb_rng x
  rw [i_eq, nI_toInt (by omega)]
  omega
theorem inr_nI {c : Nat} {b : Int} (hc : (c : Int) ≤ b) (h : c < 2 ^ 31) : inr (nI c) 0 b = true := by
  rw [inr_t, nI_toInt h]; omega
theorem no_f {b : Bool} (h : b = true) (h2 : b = false) : False := by rw [h] at h2; cases h2
theorem iqX5_isRow_X5 : ∀ w ∈ u_ws RX5 TX5 4, w ∈ wsX5_isRow := by decide +kernel
theorem iqX5_isRow_X3 : ∀ w ∈ u_ws RX3 TX3 2, w ∈ wsX5_isRow := by decide +kernel
theorem iqX5_isRow_X1 : ∀ w ∈ u_ws RX1 TX1 5, w ∈ wsX5_isRow := by decide +kernel
set_option maxHeartbeats 1000000 in
set_option maxRecDepth 100000 in
theorem c_X5_isRow (l : Launch) (G : kG) (z t t2 h x : Nat) (o a1 a2 a3 a4 q n0 : Nat) (xa : Int32) (hn : n0 ≤ 24) : Met l yX5_isRow wsX5_isRow ({ frames := 0, cells := 0, slots := 0, locals := 0 } : Room) (cP G [.ref z, .int xa] [ob z 5 [.ref t, .ref t2, .ref h, .ref x], ob t 3 [.ref o, .ref q], ob o 1 [.int (nI n0), .ref a1, .ref a2, .ref a3, .ref a4]]) (vp_Si (fun rv => rv = (bI (inr xa 0 ((n0 : Int) - 1))))) 0 0 (fun _ => False) := by
  refine met_ro (cc := cX5_isRow) (maxL := 2) (ty := .boolean) (own := RX5) (by decide) rfl rfl (fun _ h => by rw [h]; exact bI_nar _) (Nat.le_of_ble_eq_true rfl) ?_
  intro p e s m args below meth cod Q hx hb hml hown hts hK hP hD hret ls hl
  have hl : lv_has ls 2 [(0, .ref z), (1, .int xa)] := hl
  refine lv_iload_n hx hb dX5_isRow_0 rfl (lv_at hl 1 rfl) ?_
  refine r_if_lt (P := xa.toInt < 0) (tgt := 22) hx hb dX5_isRow_1 (by decide) (ii_lt0) (fun cq1 => ?_) (fun cq1 => ?_)
  · refine lv_iconst (v := (nI 0)) hx hb dX5_isRow_22 (by decide) ?_
    exact hret _ _ _ dX5_isRow_23 (bIf (inr_f.mpr (by omega)))
  · refine lv_iload_n hx hb dX5_isRow_4 rfl (lv_at hl 1 rfl) ?_
    refine lv_aload_n hx hb dX5_isRow_5 rfl (lv_at hl 0 rfl) ?_
    refine va_get (D := G.1) (ci := 5) (v := .ref t) (C := RX5) (T := TX5) (N := 4) hx hb hts iqX5_isRow_X5 hown hK.1 hP 0 rfl rfl 0 (by decide) (hts (.fieldLink RX5 12 "PushedTables" "table" "LPushedTables$Table;") (List.mem_of_getElem? (i := 1) rfl)) (fun _ h9 => h9) rfl dX5_isRow_6 ?_
    refine va_get (D := G.1) (ci := 3) (v := .ref o) (C := RX3) (T := TX3) (N := 2) hx hb hts iqX5_isRow_X3 hown hK.1 hP 1 rfl rfl 0 (by decide) (hts (.fieldLink RX5 37 "PushedTables$Table" "state" "LPushedTables$State;") (List.mem_of_getElem? (i := 2) rfl)) (fun _ h9 => h9) rfl dX5_isRow_9 ?_
    refine va_get (D := G.1) (ci := 1) (v := .int (nI n0)) (C := RX1) (T := TX1) (N := 5) hx hb hts iqX5_isRow_X1 hown hK.1 hP 2 rfl rfl 0 (by decide) (hts (.fieldLink RX5 41 "PushedTables$State" "rowCount" "I") (List.mem_of_getElem? (i := 3) rfl)) (fun _ h9 => h9) rfl dX5_isRow_12 ?_
    refine r_icmp_ge (P := ((n0 : Nat) : Int) ≤ xa.toInt) (tgt := 22) hx hb dX5_isRow_15 (by decide) (ii_nle (by omega)) (fun cq15 => ?_) (fun cq15 => ?_)
    · refine lv_iconst (v := (nI 0)) hx hb dX5_isRow_22 (by decide) ?_
      exact hret _ _ _ dX5_isRow_23 (bIf (inr_f.mpr (by omega)))
    · refine lv_iconst (v := (nI 1)) hx hb dX5_isRow_18 (by decide) ?_
      refine lv_goto (tgt := 23) hx hb dX5_isRow_19 (by decide) ?_
      exact hret _ _ _ dX5_isRow_23 (bIt (inr_t.mpr (by omega)))

set_option maxHeartbeats 1000000 in
set_option maxRecDepth 100000 in
theorem c_X5_add_bad (l : Launch) (G : kG) (z : Nat) (xa : Int32) (hbad : inr xa 0 99 = false) : Met l yX5_add wsX5_add ({ frames := 3, cells := 0, slots := 0, locals := 82 } : Room) (cP G [.ref z, .int xa] []) (vp_Si (fun rv => rv = (-1))) 0 0 (fun _ => False) := by
  refine met_ro (cc := cX5_add) (maxL := 2) (ty := .int) (own := RX5) (by decide) rfl rfl (fun _ _ => rfl) (Nat.le_of_ble_eq_true rfl) ?_
  intro p e s m args below meth cod Q hx hb hml hown hts hK hP hD hret ls hl
  have hl : lv_has ls 2 [(0, .ref z), (1, .int xa)] := hl
  refine lv_iload_n hx hb dX5_add_0 rfl (lv_at hl 1 rfl) ?_
  refine g_ro (k_S (n := 1) (As := [.int xa]) (rest := []) (wc := []) hx hb hml hown hts (c_X5_isValue (l := l) (G := G) (xa := xa))  gX5_add_X5_isValue rfl rfl rfl (by decide +kernel) ⟨Nat.le_of_ble_eq_true rfl, Nat.le_of_ble_eq_true rfl⟩ rfl hK hP hD [] rfl (by decide)  hl.1 rfl (Nat.le_of_ble_eq_true rfl) dX5_add_1 ⟨Nat.le_of_ble_eq_true rfl, Nat.le_of_ble_eq_true rfl⟩) (fun r1 h1 => ?_)
  obtain rfl : (bI (inr xa 0 99)) = r1 := Eq.symm h1
  refine r_if_ne (P := (inr xa 0 99) = false) (tgt := 9) hx hb dX5_add_4 (by decide) (bI_eq0) (fun cq4 => ?_) (fun cq4 => ?_)
  · exact absurd hbad cq4
  · refine lv_iconst (v := (-1)) hx hb dX5_add_7 (by decide) ?_
    exact hret _ _ _ dX5_add_8 (rfl)

theorem iqX5_add_full_X5 : ∀ w ∈ u_ws RX5 TX5 4, w ∈ wsX5_add := by decide +kernel
theorem iqX5_add_full_X3 : ∀ w ∈ u_ws RX3 TX3 2, w ∈ wsX5_add := by decide +kernel
theorem iqX5_add_full_X1 : ∀ w ∈ u_ws RX1 TX1 5, w ∈ wsX5_add := by decide +kernel
set_option maxHeartbeats 1000000 in
set_option maxRecDepth 100000 in
theorem c_X5_add_full (l : Launch) (G : kG) (z t t2 h x : Nat) (o a1 a2 a3 a4 q n0 : Nat) (v : Nat) (hv9 : v < 100) (hn : n0 = 24) : Met l yX5_add wsX5_add ({ frames := 3, cells := 0, slots := 0, locals := 82 } : Room) (cP G [.ref z, .int (nI v)] [ob z 5 [.ref t, .ref t2, .ref h, .ref x], ob t 3 [.ref o, .ref q], ob o 1 [.int (nI n0), .ref a1, .ref a2, .ref a3, .ref a4]]) (vp_Si (fun rv => rv = (-3))) 0 0 (fun _ => False) := by
  refine met_ro (cc := cX5_add) (maxL := 2) (ty := .int) (own := RX5) (by decide) rfl rfl (fun _ _ => rfl) (Nat.le_of_ble_eq_true rfl) ?_
  intro p e s m args below meth cod Q hx hb hml hown hts hK hP hD hret ls hl
  have hl : lv_has ls 2 [(0, .ref z), (1, .int (nI v))] := hl
  refine lv_iload_n hx hb dX5_add_0 rfl (lv_at hl 1 rfl) ?_
  refine g_ro (k_S (n := 1) (As := [.int (nI v)]) (rest := []) (wc := []) hx hb hml hown hts (c_X5_isValue (l := l) (G := G) (xa := nI v))  gX5_add_X5_isValue rfl rfl rfl (by decide +kernel) ⟨Nat.le_of_ble_eq_true rfl, Nat.le_of_ble_eq_true rfl⟩ rfl hK hP hD [] rfl (by decide)  hl.1 rfl (Nat.le_of_ble_eq_true rfl) dX5_add_1 ⟨Nat.le_of_ble_eq_true rfl, Nat.le_of_ble_eq_true rfl⟩) (fun r1 h1 => ?_)
  obtain rfl : (bI (inr (nI v) 0 99)) = r1 := Eq.symm h1
  refine r_if_ne (P := (inr (nI v) 0 99) = false) (tgt := 9) hx hb dX5_add_4 (by decide) (bI_eq0) (fun cq4 => ?_) (fun cq4 => ?_)
  · refine lv_aload_n hx hb dX5_add_9 rfl (lv_at hl 0 rfl) ?_
    refine va_get (D := G.1) (ci := 5) (v := .ref t) (C := RX5) (T := TX5) (N := 4) hx hb hts iqX5_add_full_X5 hown hK.1 hP 0 rfl rfl 0 (by decide) (hts (.fieldLink RX5 12 "PushedTables" "table" "LPushedTables$Table;") (List.mem_of_getElem? (i := 1) rfl)) (fun _ h9 => h9) rfl dX5_add_10 ?_
    refine va_get (D := G.1) (ci := 3) (v := .ref o) (C := RX3) (T := TX3) (N := 2) hx hb hts iqX5_add_full_X3 hown hK.1 hP 1 rfl rfl 0 (by decide) (hts (.fieldLink RX5 37 "PushedTables$Table" "state" "LPushedTables$State;") (List.mem_of_getElem? (i := 2) rfl)) (fun _ h9 => h9) rfl dX5_add_13 ?_
    refine va_get (D := G.1) (ci := 1) (v := .int (nI n0)) (C := RX1) (T := TX1) (N := 5) hx hb hts iqX5_add_full_X1 hown hK.1 hP 2 rfl rfl 0 (by decide) (hts (.fieldLink RX5 41 "PushedTables$State" "rowCount" "I") (List.mem_of_getElem? (i := 3) rfl)) (fun _ h9 => h9) rfl dX5_add_16 ?_
    refine lv_bipush (v := (nI 24)) hx hb dX5_add_19 (by decide) ?_
    refine r_icmp_lt (P := n0 < 24) (tgt := 27) hx hb dX5_add_21 (by decide) (nI_ltI (by omega) (by omega)) (fun cq21 => ?_) (fun cq21 => ?_)
    · exact absurd cq21 (by omega)
    · refine lv_bipush (v := (-3)) hx hb dX5_add_24 (by decide) ?_
      exact hret _ _ _ dX5_add_26 (rfl)
  · exact (no_f (inr_nI (by omega) (by omega)) cq4).elim

set_option maxHeartbeats 1000000 in
set_option maxRecDepth 100000 in
theorem c_X5_set_bad (l : Launch) (G : kG) (z t t2 h x : Nat) (o a1 a2 a3 a4 q n0 : Nat) (xa xb xc : Int32) (hn : n0 ≤ 24) (hbad : inr xa 0 ((n0 : Int) - 1) = false ∨ inr xb 0 15 = false ∨ inr xc 0 99 = false) : Met l yX5_set wsX5_set ({ frames := 5, cells := 0, slots := 0, locals := 116 } : Room) (cP G [.ref z, .int xa, .int xb, .int xc] [ob z 5 [.ref t, .ref t2, .ref h, .ref x], ob t 3 [.ref o, .ref q], ob o 1 [.int (nI n0), .ref a1, .ref a2, .ref a3, .ref a4]]) (vp_Si (fun rv => rv = (-1))) 0 0 (fun _ => False) := by
  refine met_ro (cc := cX5_set) (maxL := 5) (ty := .int) (own := RX5) (by decide) rfl rfl (fun _ _ => rfl) (Nat.le_of_ble_eq_true rfl) ?_
  intro p e s m args below meth cod Q hx hb hml hown hts hK hP hD hret ls hl
  have hl : lv_has ls 5 [(0, .ref z), (1, .int xa), (2, .int xb), (3, .int xc)] := hl
  refine lv_aload_n hx hb dX5_set_0 rfl (lv_at hl 0 rfl) ?_
  refine lv_iload_n hx hb dX5_set_1 rfl (lv_at hl 1 rfl) ?_
  refine g_ro (k_V (q0 := 0) (ci := 5) (n := 1) (As := [.int xa]) (rest := []) (wc := [ob z 5 [.ref t, .ref t2, .ref h, .ref x], ob t 3 [.ref o, .ref q], ob o 1 [.int (nI n0), .ref a1, .ref a2, .ref a3, .ref a4]]) hx hb hml hown hts (c_X5_isRow (l := l) (G := G) (z := z) (t := t) (t2 := t2) (h := h) (x := x) (o := o) (a1 := a1) (a2 := a2) (a3 := a3) (a4 := a4) (q := q) (n0 := n0) (xa := xa) (hn := by first | assumption | omega))  gX5_set_X5_isRow rfl rfl rfl (by decide +kernel) ⟨Nat.le_of_ble_eq_true rfl, Nat.le_of_ble_eq_true rfl⟩ rfl hK hP hD [0, 1, 2] rfl (by decide)  rfl rfl rfl hl.1 rfl (Nat.le_of_ble_eq_true rfl) dX5_set_2 ⟨Nat.le_of_ble_eq_true rfl, Nat.le_of_ble_eq_true rfl⟩) (fun r2 h2 => ?_)
  obtain rfl : (bI (inr xa 0 ((n0 : Int) - 1))) = r2 := Eq.symm h2
  refine r_if_eq (P := (inr xa 0 ((n0 : Int) - 1)) = false) (tgt := 22) hx hb dX5_set_5 (by decide) (bI_eq0) (fun cq5 => ?_) (fun cq5 => ?_)
  · refine lv_iconst (v := (-1)) hx hb dX5_set_22 (by decide) ?_
    exact hret _ _ _ dX5_set_23 (rfl)
  · refine lv_iload_n hx hb dX5_set_8 rfl (lv_at hl 2 rfl) ?_
    refine g_ro (k_S (n := 1) (As := [.int xb]) (rest := []) (wc := []) hx hb hml hown hts (c_X5_isColumn (l := l) (G := G) (xa := xb))  gX5_set_X5_isColumn rfl rfl rfl (by decide +kernel) ⟨Nat.le_of_ble_eq_true rfl, Nat.le_of_ble_eq_true rfl⟩ rfl hK hP hD [] rfl (by decide)  hl.1 rfl (Nat.le_of_ble_eq_true rfl) dX5_set_9 ⟨Nat.le_of_ble_eq_true rfl, Nat.le_of_ble_eq_true rfl⟩) (fun r9 h9 => ?_)
    obtain rfl : (bI (inr xb 0 15)) = r9 := Eq.symm h9
    refine r_if_eq (P := (inr xb 0 15) = false) (tgt := 22) hx hb dX5_set_12 (by decide) (bI_eq0) (fun cq12 => ?_) (fun cq12 => ?_)
    · refine lv_iconst (v := (-1)) hx hb dX5_set_22 (by decide) ?_
      exact hret _ _ _ dX5_set_23 (rfl)
    · refine lv_iload_n hx hb dX5_set_15 rfl (lv_at hl 3 rfl) ?_
      refine g_ro (k_S (n := 1) (As := [.int xc]) (rest := []) (wc := []) hx hb hml hown hts (c_X5_isValue (l := l) (G := G) (xa := xc))  gX5_set_X5_isValue rfl rfl rfl (by decide +kernel) ⟨Nat.le_of_ble_eq_true rfl, Nat.le_of_ble_eq_true rfl⟩ rfl hK hP hD [] rfl (by decide)  hl.1 rfl (Nat.le_of_ble_eq_true rfl) dX5_set_16 ⟨Nat.le_of_ble_eq_true rfl, Nat.le_of_ble_eq_true rfl⟩) (fun r16 h16 => ?_)
      obtain rfl : (bI (inr xc 0 99)) = r16 := Eq.symm h16
      refine r_if_ne (P := (inr xc 0 99) = false) (tgt := 24) hx hb dX5_set_19 (by decide) (bI_eq0) (fun cq19 => ?_) (fun cq19 => ?_)
      · exact (hbad.elim cq5 (fun z => z.elim cq12 cq19)).elim
      · refine lv_iconst (v := (-1)) hx hb dX5_set_22 (by decide) ?_
        exact hret _ _ _ dX5_set_23 (rfl)

set_option maxHeartbeats 1000000 in
set_option maxRecDepth 100000 in
theorem c_X5_setDefault_bad (l : Launch) (G : kG) (z t t2 h x : Nat) (o a1 a2 a3 a4 q n0 : Nat) (xa xb : Int32) (hn : n0 ≤ 24) (hbad : inr xa 0 ((n0 : Int) - 1) = false ∨ inr xb 0 99 = false) : Met l yX5_setDefault wsX5_setDefault ({ frames := 5, cells := 0, slots := 0, locals := 116 } : Room) (cP G [.ref z, .int xa, .int xb] [ob z 5 [.ref t, .ref t2, .ref h, .ref x], ob t 3 [.ref o, .ref q], ob o 1 [.int (nI n0), .ref a1, .ref a2, .ref a3, .ref a4]]) (vp_Si (fun rv => rv = (-1))) 0 0 (fun _ => False) := by
  refine met_ro (cc := cX5_setDefault) (maxL := 3) (ty := .int) (own := RX5) (by decide) rfl rfl (fun _ _ => rfl) (Nat.le_of_ble_eq_true rfl) ?_
  intro p e s m args below meth cod Q hx hb hml hown hts hK hP hD hret ls hl
  have hl : lv_has ls 3 [(0, .ref z), (1, .int xa), (2, .int xb)] := hl
  refine lv_aload_n hx hb dX5_setDefault_0 rfl (lv_at hl 0 rfl) ?_
  refine lv_iload_n hx hb dX5_setDefault_1 rfl (lv_at hl 1 rfl) ?_
  refine g_ro (k_V (q0 := 0) (ci := 5) (n := 1) (As := [.int xa]) (rest := []) (wc := [ob z 5 [.ref t, .ref t2, .ref h, .ref x], ob t 3 [.ref o, .ref q], ob o 1 [.int (nI n0), .ref a1, .ref a2, .ref a3, .ref a4]]) hx hb hml hown hts (c_X5_isRow (l := l) (G := G) (z := z) (t := t) (t2 := t2) (h := h) (x := x) (o := o) (a1 := a1) (a2 := a2) (a3 := a3) (a4 := a4) (q := q) (n0 := n0) (xa := xa) (hn := by first | assumption | omega))  gX5_setDefault_X5_isRow rfl rfl rfl (by decide +kernel) ⟨Nat.le_of_ble_eq_true rfl, Nat.le_of_ble_eq_true rfl⟩ rfl hK hP hD [0, 1, 2] rfl (by decide)  rfl rfl rfl hl.1 rfl (Nat.le_of_ble_eq_true rfl) dX5_setDefault_2 ⟨Nat.le_of_ble_eq_true rfl, Nat.le_of_ble_eq_true rfl⟩) (fun r2 h2 => ?_)
  obtain rfl : (bI (inr xa 0 ((n0 : Int) - 1))) = r2 := Eq.symm h2
  refine r_if_eq (P := (inr xa 0 ((n0 : Int) - 1)) = false) (tgt := 15) hx hb dX5_setDefault_5 (by decide) (bI_eq0) (fun cq5 => ?_) (fun cq5 => ?_)
  · refine lv_iconst (v := (-1)) hx hb dX5_setDefault_15 (by decide) ?_
    exact hret _ _ _ dX5_setDefault_16 (rfl)
  · refine lv_iload_n hx hb dX5_setDefault_8 rfl (lv_at hl 2 rfl) ?_
    refine g_ro (k_S (n := 1) (As := [.int xb]) (rest := []) (wc := []) hx hb hml hown hts (c_X5_isValue (l := l) (G := G) (xa := xb))  gX5_setDefault_X5_isValue rfl rfl rfl (by decide +kernel) ⟨Nat.le_of_ble_eq_true rfl, Nat.le_of_ble_eq_true rfl⟩ rfl hK hP hD [] rfl (by decide)  hl.1 rfl (Nat.le_of_ble_eq_true rfl) dX5_setDefault_9 ⟨Nat.le_of_ble_eq_true rfl, Nat.le_of_ble_eq_true rfl⟩) (fun r9 h9 => ?_)
    obtain rfl : (bI (inr xb 0 99)) = r9 := Eq.symm h9
    refine r_if_ne (P := (inr xb 0 99) = false) (tgt := 17) hx hb dX5_setDefault_12 (by decide) (bI_eq0) (fun cq12 => ?_) (fun cq12 => ?_)
    · exact (hbad.elim cq5 cq12).elim
    · refine lv_iconst (v := (-1)) hx hb dX5_setDefault_15 (by decide) ?_
      exact hret _ _ _ dX5_setDefault_16 (rfl)

theorem iqX5_removeLast_bad_X5 : ∀ w ∈ u_ws RX5 TX5 4, w ∈ wsX5_removeLast := by decide +kernel
theorem iqX5_removeLast_bad_X3 : ∀ w ∈ u_ws RX3 TX3 2, w ∈ wsX5_removeLast := by decide +kernel
theorem iqX5_removeLast_bad_X1 : ∀ w ∈ u_ws RX1 TX1 5, w ∈ wsX5_removeLast := by decide +kernel
set_option maxHeartbeats 1000000 in
set_option maxRecDepth 100000 in
theorem c_X5_removeLast_bad (l : Launch) (G : kG) (z t t2 h x : Nat) (o a1 a2 a3 a4 q n0 : Nat) (hn : n0 = 0) : Met l yX5_removeLast wsX5_removeLast ({ frames := 4, cells := 0, slots := 0, locals := 91 } : Room) (cP G [.ref z] [ob z 5 [.ref t, .ref t2, .ref h, .ref x], ob t 3 [.ref o, .ref q], ob o 1 [.int (nI n0), .ref a1, .ref a2, .ref a3, .ref a4]]) (vp_Si (fun rv => rv = (-2))) 0 0 (fun _ => False) := by
  refine met_ro (cc := cX5_removeLast) (maxL := 1) (ty := .int) (own := RX5) (by decide) rfl rfl (fun _ _ => rfl) (Nat.le_of_ble_eq_true rfl) ?_
  intro p e s m args below meth cod Q hx hb hml hown hts hK hP hD hret ls hl
  have hl : lv_has ls 1 [(0, .ref z)] := hl
  refine lv_aload_n hx hb dX5_removeLast_0 rfl (lv_at hl 0 rfl) ?_
  refine va_get (D := G.1) (ci := 5) (v := .ref t) (C := RX5) (T := TX5) (N := 4) hx hb hts iqX5_removeLast_bad_X5 hown hK.1 hP 0 rfl rfl 0 (by decide) (hts (.fieldLink RX5 12 "PushedTables" "table" "LPushedTables$Table;") (List.mem_of_getElem? (i := 1) rfl)) (fun _ h9 => h9) rfl dX5_removeLast_1 ?_
  refine va_get (D := G.1) (ci := 3) (v := .ref o) (C := RX3) (T := TX3) (N := 2) hx hb hts iqX5_removeLast_bad_X3 hown hK.1 hP 1 rfl rfl 0 (by decide) (hts (.fieldLink RX5 37 "PushedTables$Table" "state" "LPushedTables$State;") (List.mem_of_getElem? (i := 2) rfl)) (fun _ h9 => h9) rfl dX5_removeLast_4 ?_
  refine va_get (D := G.1) (ci := 1) (v := .int (nI n0)) (C := RX1) (T := TX1) (N := 5) hx hb hts iqX5_removeLast_bad_X1 hown hK.1 hP 2 rfl rfl 0 (by decide) (hts (.fieldLink RX5 41 "PushedTables$State" "rowCount" "I") (List.mem_of_getElem? (i := 3) rfl)) (fun _ h9 => h9) rfl dX5_removeLast_7 ?_
  refine r_if_gt (P := 0 < n0) (tgt := 16) hx hb dX5_removeLast_10 (by decide) (nI_gt0 (by omega)) (fun cq10 => ?_) (fun cq10 => ?_)
  · exact absurd cq10 (by omega)
  · refine lv_bipush (v := (-2)) hx hb dX5_removeLast_13 (by decide) ?_
    exact hret _ _ _ dX5_removeLast_15 (rfl)

set_option maxHeartbeats 1000000 in
set_option maxRecDepth 100000 in
theorem c_X5_slim_bad (l : Launch) (G : kG) (z t t2 h x : Nat) (o a1 a2 a3 a4 q n0 : Nat) (xa : Int32) (hn : n0 ≤ 24) (hbad : inr xa 0 ((n0 : Int) - 1) = false) : Met l yX5_slim wsX5_slim ({ frames := 5, cells := 0, slots := 0, locals := 116 } : Room) (cP G [.ref z, .int xa] [ob z 5 [.ref t, .ref t2, .ref h, .ref x], ob t 3 [.ref o, .ref q], ob o 1 [.int (nI n0), .ref a1, .ref a2, .ref a3, .ref a4]]) (vp_Si (fun rv => rv = (-1))) 0 0 (fun _ => False) := by
  refine met_ro (cc := cX5_slim) (maxL := 2) (ty := .int) (own := RX5) (by decide) rfl rfl (fun _ _ => rfl) (Nat.le_of_ble_eq_true rfl) ?_
  intro p e s m args below meth cod Q hx hb hml hown hts hK hP hD hret ls hl
  have hl : lv_has ls 2 [(0, .ref z), (1, .int xa)] := hl
  refine lv_aload_n hx hb dX5_slim_0 rfl (lv_at hl 0 rfl) ?_
  refine lv_iload_n hx hb dX5_slim_1 rfl (lv_at hl 1 rfl) ?_
  refine g_ro (k_V (q0 := 0) (ci := 5) (n := 1) (As := [.int xa]) (rest := []) (wc := [ob z 5 [.ref t, .ref t2, .ref h, .ref x], ob t 3 [.ref o, .ref q], ob o 1 [.int (nI n0), .ref a1, .ref a2, .ref a3, .ref a4]]) hx hb hml hown hts (c_X5_isRow (l := l) (G := G) (z := z) (t := t) (t2 := t2) (h := h) (x := x) (o := o) (a1 := a1) (a2 := a2) (a3 := a3) (a4 := a4) (q := q) (n0 := n0) (xa := xa) (hn := by first | assumption | omega))  gX5_slim_X5_isRow rfl rfl rfl (by decide +kernel) ⟨Nat.le_of_ble_eq_true rfl, Nat.le_of_ble_eq_true rfl⟩ rfl hK hP hD [0, 1, 2] rfl (by decide)  rfl rfl rfl hl.1 rfl (Nat.le_of_ble_eq_true rfl) dX5_slim_2 ⟨Nat.le_of_ble_eq_true rfl, Nat.le_of_ble_eq_true rfl⟩) (fun r2 h2 => ?_)
  obtain rfl : (bI (inr xa 0 ((n0 : Int) - 1))) = r2 := Eq.symm h2
  refine r_if_ne (P := (inr xa 0 ((n0 : Int) - 1)) = false) (tgt := 10) hx hb dX5_slim_5 (by decide) (bI_eq0) (fun cq5 => ?_) (fun cq5 => ?_)
  · exact absurd hbad cq5
  · refine lv_iconst (v := (-1)) hx hb dX5_slim_8 (by decide) ?_
    exact hret _ _ _ dX5_slim_9 (rfl)

theorem iqX5_undo_bad_X5 : ∀ w ∈ u_ws RX5 TX5 4, w ∈ wsX5_undo := by decide +kernel
set_option maxHeartbeats 1000000 in
set_option maxRecDepth 100000 in
theorem c_X5_undo_bad (l : Launch) (G : kG) (z t t2 h x : Nat) (st : Nat) (y0 y1 y2 y3 y4 : Nat → Nat) (k sz : Nat) (cs : Nat → Sg) (hk : k < 5) (hsz : sz ≤ 5) (h0 : sz = 0) : Met l yX5_undo wsX5_undo ({ frames := 4, cells := 0, slots := 0, locals := 91 } : Room) (cP G [.ref z] [ob z 5 [.ref t, .ref t2, .ref h, .ref x], ob h 0 [.int (nI sz), .ref st]]) (vp_Si (fun rv => rv = (-2))) 0 0 (fun _ => False) := by
  refine met_ro (cc := cX5_undo) (maxL := 2) (ty := .int) (own := RX5) (by decide) rfl rfl (fun _ _ => rfl) (Nat.le_of_ble_eq_true rfl) ?_
  intro p e s m args below meth cod Q hx hb hml hown hts hK hP hD hret ls hl
  have hl : lv_has ls 2 [(0, .ref z)] := hl
  refine lv_aload_n hx hb dX5_undo_0 rfl (lv_at hl 0 rfl) ?_
  refine va_get (D := G.1) (ci := 5) (v := .ref h) (C := RX5) (T := TX5) (N := 4) hx hb hts iqX5_undo_bad_X5 hown hK.1 hP 0 rfl rfl 2 (by decide) (hts (.fieldLink RX5 22 "PushedTables" "history" "LPushedTables$History;") (List.mem_of_getElem? (i := 1) rfl)) (fun _ h9 => h9) rfl dX5_undo_1 ?_
  refine g_roN (k_V (q0 := 1) (ci := 0) (n := 0) (As := []) (rest := []) (wc := [ob h 0 [.int (nI sz), .ref st]]) hx hb hml hown hts (c_X0_takeLatest_no (l := l) (G := G) (h := h) (st := st) (sz := sz) (h0 := by first | assumption | omega))  gX5_undo_X0_takeLatest rfl rfl rfl (by decide +kernel) ⟨Nat.le_of_ble_eq_true rfl, Nat.le_of_ble_eq_true rfl⟩ rfl hK hP hD [1] rfl (by decide)  rfl rfl rfl hl.1 rfl (Nat.le_of_ble_eq_true rfl) dX5_undo_4 ⟨Nat.le_of_ble_eq_true rfl, Nat.le_of_ble_eq_true rfl⟩) ?_
  refine lv_astore_nN (lv' := [(1, .null), (0, .ref z)]) hx hb dX5_undo_7 rfl hl (by decide) rfl (fun ls hl => ?_)
  refine lv_aload_nN hx hb dX5_undo_8 rfl (lv_at hl 0 rfl) ?_
  refine lv_ifnonnullN hx hb dX5_undo_9 ?_
  refine lv_bipush (v := (-2)) hx hb dX5_undo_12 (by decide) ?_
  exact hret _ _ _ dX5_undo_14 (rfl)

set_option maxHeartbeats 1000000 in
set_option maxRecDepth 100000 in
theorem c_X5_append_bad (l : Launch) (G : kG) (z : Nat) (xa : Int32) (hbad : inr xa 1 255 = false) : Met l yX5_append wsX5_append ({ frames := 1, cells := 0, slots := 0, locals := 21 } : Room) (cP G [.ref z, .int xa] []) (vp_Si (fun rv => rv = (-1))) 0 0 (fun _ => False) := by
  refine met_ro (cc := cX5_append) (maxL := 2) (ty := .int) (own := RX5) (by decide) rfl rfl (fun _ _ => rfl) (Nat.le_of_ble_eq_true rfl) ?_
  intro p e s m args below meth cod Q hx hb hml hown hts hK hP hD hret ls hl
  have hl : lv_has ls 2 [(0, .ref z), (1, .int xa)] := hl
  refine lv_iload_n hx hb dX5_append_0 rfl (lv_at hl 1 rfl) ?_
  refine lv_iconst (v := (nI 1)) hx hb dX5_append_1 (by decide) ?_
  refine r_icmp_lt (P := xa.toInt < ((1 : Nat) : Int)) (tgt := 12) hx hb dX5_append_2 (by decide) (ii_ltn (by omega)) (fun cq2 => ?_) (fun cq2 => ?_)
  · refine lv_iconst (v := (-1)) hx hb dX5_append_12 (by decide) ?_
    exact hret _ _ _ dX5_append_13 (rfl)
  · refine lv_iload_n hx hb dX5_append_5 rfl (lv_at hl 1 rfl) ?_
    refine lv_sipush (v := (nI 255)) hx hb dX5_append_6 (by decide) ?_
    refine r_icmp_le (P := xa.toInt ≤ ((255 : Nat) : Int)) (tgt := 14) hx hb dX5_append_9 (by decide) (ii_len (by omega)) (fun cq9 => ?_) (fun cq9 => ?_)
    · exact (inr_f.mp hbad (by omega)).elim
    · refine lv_iconst (v := (-1)) hx hb dX5_append_12 (by decide) ?_
      exact hret _ _ _ dX5_append_13 (rfl)

theorem iqX5_append_full_X5 : ∀ w ∈ u_ws RX5 TX5 4, w ∈ wsX5_append := by decide +kernel
theorem iqX5_append_full_X4 : ∀ w ∈ u_ws RX4 TX4 8, w ∈ wsX5_append := by decide +kernel
set_option maxHeartbeats 1000000 in
set_option maxRecDepth 100000 in
theorem c_X5_append_full (l : Launch) (G : kG) (z t t2 h x : Nat) (g1 g2 g3 L pl nu np rr : Nat) (tx td tv : Nat → Nat) (hL : L ≤ 100) (ht : ∀ k, tx k < 256) (w : Nat) (hw1 : 1 ≤ w) (hw : w ≤ 255) (hL2 : L = 100) : Met l yX5_append wsX5_append ({ frames := 1, cells := 0, slots := 0, locals := 21 } : Room) (cP G [.ref z, .int (nI w)] [ob z 5 [.ref t, .ref t2, .ref h, .ref x], ob x 4 [.int (nI L), .ref g1, .int (nI pl), .int (nI nu), .int (nI np), .int (nI rr), .ref g2, .ref g3]]) (vp_Si (fun rv => rv = (-3))) 0 0 (fun _ => False) := by
  refine met_ro (cc := cX5_append) (maxL := 2) (ty := .int) (own := RX5) (by decide) rfl rfl (fun _ _ => rfl) (Nat.le_of_ble_eq_true rfl) ?_
  intro p e s m args below meth cod Q hx hb hml hown hts hK hP hD hret ls hl
  have hl : lv_has ls 2 [(0, .ref z), (1, .int (nI w))] := hl
  refine lv_iload_n hx hb dX5_append_0 rfl (lv_at hl 1 rfl) ?_
  refine lv_iconst (v := (nI 1)) hx hb dX5_append_1 (by decide) ?_
  refine r_icmp_lt (P := w < 1) (tgt := 12) hx hb dX5_append_2 (by decide) (nI_ltI (by omega) (by omega)) (fun cq2 => ?_) (fun cq2 => ?_)
  · exact absurd cq2 (by omega)
  · refine lv_iload_n hx hb dX5_append_5 rfl (lv_at hl 1 rfl) ?_
    refine lv_sipush (v := (nI 255)) hx hb dX5_append_6 (by decide) ?_
    refine r_icmp_le (P := w ≤ 255) (tgt := 14) hx hb dX5_append_9 (by decide) (nI_leI (by omega) (by omega)) (fun cq9 => ?_) (fun cq9 => ?_)
    · refine lv_aload_n hx hb dX5_append_14 rfl (lv_at hl 0 rfl) ?_
      refine va_get (D := G.1) (ci := 5) (v := .ref x) (C := RX5) (T := TX5) (N := 4) hx hb hts iqX5_append_full_X5 hown hK.1 hP 0 rfl rfl 3 (by decide) (hts (.fieldLink RX5 29 "PushedTables" "text" "LPushedTables$Text;") (List.mem_of_getElem? (i := 1) rfl)) (fun _ h9 => h9) rfl dX5_append_15 ?_
      refine va_get (D := G.1) (ci := 4) (v := .int (nI L)) (C := RX4) (T := TX4) (N := 8) hx hb hts iqX5_append_full_X4 hown hK.1 hP 1 rfl rfl 0 (by decide) (hts (.fieldLink RX5 112 "PushedTables$Text" "length" "I") (List.mem_of_getElem? (i := 2) rfl)) (fun _ h9 => h9) rfl dX5_append_18 ?_
      refine lv_bipush (v := (nI 100)) hx hb dX5_append_21 (by decide) ?_
      refine r_icmp_lt (P := L < 100) (tgt := 29) hx hb dX5_append_23 (by decide) (nI_ltI (by omega) (by omega)) (fun cq23 => ?_) (fun cq23 => ?_)
      · exact absurd cq23 (by omega)
      · refine lv_bipush (v := (-3)) hx hb dX5_append_26 (by decide) ?_
        exact hret _ _ _ dX5_append_28 (rfl)
    · exact absurd hw cq9

set_option maxHeartbeats 1000000 in
set_option maxRecDepth 100000 in
theorem c_X5_get_bad (l : Launch) (G : kG) (z t t2 h x : Nat) (o a1 a2 a3 a4 q n0 : Nat) (xa xb : Int32) (hn : n0 ≤ 24) (hbad : inr xa 0 ((n0 : Int) - 1) = false ∨ inr xb 0 15 = false) : Met l yX5_get wsX5_get ({ frames := 3, cells := 0, slots := 0, locals := 66 } : Room) (cP G [.ref z, .int xa, .int xb] [ob z 5 [.ref t, .ref t2, .ref h, .ref x], ob t 3 [.ref o, .ref q], ob o 1 [.int (nI n0), .ref a1, .ref a2, .ref a3, .ref a4]]) (vp_Si (fun rv => rv = (-1))) 0 0 (fun _ => False) := by
  refine met_ro (cc := cX5_get) (maxL := 3) (ty := .int) (own := RX5) (by decide) rfl rfl (fun _ _ => rfl) (Nat.le_of_ble_eq_true rfl) ?_
  intro p e s m args below meth cod Q hx hb hml hown hts hK hP hD hret ls hl
  have hl : lv_has ls 3 [(0, .ref z), (1, .int xa), (2, .int xb)] := hl
  refine lv_aload_n hx hb dX5_get_0 rfl (lv_at hl 0 rfl) ?_
  refine lv_iload_n hx hb dX5_get_1 rfl (lv_at hl 1 rfl) ?_
  refine g_ro (k_V (q0 := 0) (ci := 5) (n := 1) (As := [.int xa]) (rest := []) (wc := [ob z 5 [.ref t, .ref t2, .ref h, .ref x], ob t 3 [.ref o, .ref q], ob o 1 [.int (nI n0), .ref a1, .ref a2, .ref a3, .ref a4]]) hx hb hml hown hts (c_X5_isRow (l := l) (G := G) (z := z) (t := t) (t2 := t2) (h := h) (x := x) (o := o) (a1 := a1) (a2 := a2) (a3 := a3) (a4 := a4) (q := q) (n0 := n0) (xa := xa) (hn := by first | assumption | omega))  gX5_get_X5_isRow rfl rfl rfl (by decide +kernel) ⟨Nat.le_of_ble_eq_true rfl, Nat.le_of_ble_eq_true rfl⟩ rfl hK hP hD [0, 1, 2] rfl (by decide)  rfl rfl rfl hl.1 rfl (Nat.le_of_ble_eq_true rfl) dX5_get_2 ⟨Nat.le_of_ble_eq_true rfl, Nat.le_of_ble_eq_true rfl⟩) (fun r2 h2 => ?_)
  obtain rfl : (bI (inr xa 0 ((n0 : Int) - 1))) = r2 := Eq.symm h2
  refine r_if_eq (P := (inr xa 0 ((n0 : Int) - 1)) = false) (tgt := 15) hx hb dX5_get_5 (by decide) (bI_eq0) (fun cq5 => ?_) (fun cq5 => ?_)
  · refine lv_iconst (v := (-1)) hx hb dX5_get_15 (by decide) ?_
    exact hret _ _ _ dX5_get_16 (rfl)
  · refine lv_iload_n hx hb dX5_get_8 rfl (lv_at hl 2 rfl) ?_
    refine g_ro (k_S (n := 1) (As := [.int xb]) (rest := []) (wc := []) hx hb hml hown hts (c_X5_isColumn (l := l) (G := G) (xa := xb))  gX5_get_X5_isColumn rfl rfl rfl (by decide +kernel) ⟨Nat.le_of_ble_eq_true rfl, Nat.le_of_ble_eq_true rfl⟩ rfl hK hP hD [] rfl (by decide)  hl.1 rfl (Nat.le_of_ble_eq_true rfl) dX5_get_9 ⟨Nat.le_of_ble_eq_true rfl, Nat.le_of_ble_eq_true rfl⟩) (fun r9 h9 => ?_)
    obtain rfl : (bI (inr xb 0 15)) = r9 := Eq.symm h9
    refine r_if_ne (P := (inr xb 0 15) = false) (tgt := 17) hx hb dX5_get_12 (by decide) (bI_eq0) (fun cq12 => ?_) (fun cq12 => ?_)
    · exact (hbad.elim cq5 cq12).elim
    · refine lv_iconst (v := (-1)) hx hb dX5_get_15 (by decide) ?_
      exact hret _ _ _ dX5_get_16 (rfl)

set_option maxHeartbeats 1000000 in
set_option maxRecDepth 100000 in
theorem c_X5_like_bad (l : Launch) (G : kG) (z t t2 h x : Nat) (o a1 a2 a3 a4 q n0 : Nat) (xa : Int32) (hn : n0 ≤ 24) (hbad : inr xa 0 ((n0 : Int) - 1) = false) : Met l yX5_like wsX5_like ({ frames := 4, cells := 0, slots := 0, locals := 92 } : Room) (cP G [.ref z, .int xa] [ob z 5 [.ref t, .ref t2, .ref h, .ref x], ob t 3 [.ref o, .ref q], ob o 1 [.int (nI n0), .ref a1, .ref a2, .ref a3, .ref a4]]) (vp_Si (fun rv => rv = (-1))) 0 0 (fun _ => False) := by
  refine met_ro (cc := cX5_like) (maxL := 2) (ty := .int) (own := RX5) (by decide) rfl rfl (fun _ _ => rfl) (Nat.le_of_ble_eq_true rfl) ?_
  intro p e s m args below meth cod Q hx hb hml hown hts hK hP hD hret ls hl
  have hl : lv_has ls 2 [(0, .ref z), (1, .int xa)] := hl
  refine lv_aload_n hx hb dX5_like_0 rfl (lv_at hl 0 rfl) ?_
  refine lv_iload_n hx hb dX5_like_1 rfl (lv_at hl 1 rfl) ?_
  refine g_ro (k_V (q0 := 0) (ci := 5) (n := 1) (As := [.int xa]) (rest := []) (wc := [ob z 5 [.ref t, .ref t2, .ref h, .ref x], ob t 3 [.ref o, .ref q], ob o 1 [.int (nI n0), .ref a1, .ref a2, .ref a3, .ref a4]]) hx hb hml hown hts (c_X5_isRow (l := l) (G := G) (z := z) (t := t) (t2 := t2) (h := h) (x := x) (o := o) (a1 := a1) (a2 := a2) (a3 := a3) (a4 := a4) (q := q) (n0 := n0) (xa := xa) (hn := by first | assumption | omega))  gX5_like_X5_isRow rfl rfl rfl (by decide +kernel) ⟨Nat.le_of_ble_eq_true rfl, Nat.le_of_ble_eq_true rfl⟩ rfl hK hP hD [0, 1, 2] rfl (by decide)  rfl rfl rfl hl.1 rfl (Nat.le_of_ble_eq_true rfl) dX5_like_2 ⟨Nat.le_of_ble_eq_true rfl, Nat.le_of_ble_eq_true rfl⟩) (fun r2 h2 => ?_)
  obtain rfl : (bI (inr xa 0 ((n0 : Int) - 1))) = r2 := Eq.symm h2
  refine r_if_ne (P := (inr xa 0 ((n0 : Int) - 1)) = false) (tgt := 10) hx hb dX5_like_5 (by decide) (bI_eq0) (fun cq5 => ?_) (fun cq5 => ?_)
  · exact absurd hbad cq5
  · refine lv_iconst (v := (-1)) hx hb dX5_like_8 (by decide) ?_
    exact hret _ _ _ dX5_like_9 (rfl)

set_option maxHeartbeats 1000000 in
set_option maxRecDepth 100000 in
theorem c_X5_form_bad (l : Launch) (G : kG) (z : Nat) (xa xb : Int32) (hbad : inr xa 0 23 = false ∨ inr xb 0 2 = false) : Met l yX5_form wsX5_form ({ frames := 3, cells := 0, slots := 0, locals := 66 } : Room) (cP G [.ref z, .int xa, .int xb] []) (vp_Si (fun rv => rv = (-1))) 0 0 (fun _ => False) := by
  refine met_ro (cc := cX5_form) (maxL := 4) (ty := .int) (own := RX5) (by decide) rfl rfl (fun _ _ => rfl) (Nat.le_of_ble_eq_true rfl) ?_
  intro p e s m args below meth cod Q hx hb hml hown hts hK hP hD hret ls hl
  have hl : lv_has ls 4 [(0, .ref z), (1, .int xa), (2, .int xb)] := hl
  refine lv_iload_n hx hb dX5_form_0 rfl (lv_at hl 1 rfl) ?_
  refine r_if_lt (P := xa.toInt < 0) (tgt := 19) hx hb dX5_form_1 (by decide) (ii_lt0) (fun cq1 => ?_) (fun cq1 => ?_)
  · refine lv_iconst (v := (-1)) hx hb dX5_form_19 (by decide) ?_
    exact hret _ _ _ dX5_form_20 (rfl)
  · refine lv_iload_n hx hb dX5_form_4 rfl (lv_at hl 1 rfl) ?_
    refine lv_bipush (v := (nI 24)) hx hb dX5_form_5 (by decide) ?_
    refine r_icmp_ge (P := ((24 : Nat) : Int) ≤ xa.toInt) (tgt := 19) hx hb dX5_form_7 (by decide) (ii_nle (by omega)) (fun cq7 => ?_) (fun cq7 => ?_)
    · refine lv_iconst (v := (-1)) hx hb dX5_form_19 (by decide) ?_
      exact hret _ _ _ dX5_form_20 (rfl)
    · refine lv_iload_n hx hb dX5_form_10 rfl (lv_at hl 2 rfl) ?_
      refine r_if_lt (P := xb.toInt < 0) (tgt := 19) hx hb dX5_form_11 (by decide) (ii_lt0) (fun cq11 => ?_) (fun cq11 => ?_)
      · refine lv_iconst (v := (-1)) hx hb dX5_form_19 (by decide) ?_
        exact hret _ _ _ dX5_form_20 (rfl)
      · refine lv_iload_n hx hb dX5_form_14 rfl (lv_at hl 2 rfl) ?_
        refine lv_iconst (v := (nI 2)) hx hb dX5_form_15 (by decide) ?_
        refine r_icmp_le (P := xb.toInt ≤ ((2 : Nat) : Int)) (tgt := 21) hx hb dX5_form_16 (by decide) (ii_len (by omega)) (fun cq16 => ?_) (fun cq16 => ?_)
        · exact (hbad.elim (fun z => inr_f.mp z (by omega)) (fun z => inr_f.mp z (by omega))).elim
        · refine lv_iconst (v := (-1)) hx hb dX5_form_19 (by decide) ?_
          exact hret _ _ _ dX5_form_20 (rfl)

set_option maxHeartbeats 1000000 in
set_option maxRecDepth 100000 in
theorem c_X5_cell_bad (l : Launch) (G : kG) (z : Nat) (xa xb : Int32) (hbad : inr xa 0 799 = false ∨ inr xb 0 1 = false) : Met l yX5_cell wsX5_cell ({ frames := 2, cells := 0, slots := 0, locals := 42 } : Room) (cP G [.ref z, .int xa, .int xb] []) (vp_Si (fun rv => rv = (-1))) 0 0 (fun _ => False) := by
  refine met_ro (cc := cX5_cell) (maxL := 3) (ty := .int) (own := RX5) (by decide) rfl rfl (fun _ _ => rfl) (Nat.le_of_ble_eq_true rfl) ?_
  intro p e s m args below meth cod Q hx hb hml hown hts hK hP hD hret ls hl
  have hl : lv_has ls 3 [(0, .ref z), (1, .int xa), (2, .int xb)] := hl
  refine lv_iload_n hx hb dX5_cell_0 rfl (lv_at hl 1 rfl) ?_
  refine r_if_lt (P := xa.toInt < 0) (tgt := 20) hx hb dX5_cell_1 (by decide) (ii_lt0) (fun cq1 => ?_) (fun cq1 => ?_)
  · refine lv_iconst (v := (-1)) hx hb dX5_cell_20 (by decide) ?_
    exact hret _ _ _ dX5_cell_21 (rfl)
  · refine lv_iload_n hx hb dX5_cell_4 rfl (lv_at hl 1 rfl) ?_
    refine lv_sipush (v := (nI 800)) hx hb dX5_cell_5 (by decide) ?_
    refine r_icmp_ge (P := ((800 : Nat) : Int) ≤ xa.toInt) (tgt := 20) hx hb dX5_cell_8 (by decide) (ii_nle (by omega)) (fun cq8 => ?_) (fun cq8 => ?_)
    · refine lv_iconst (v := (-1)) hx hb dX5_cell_20 (by decide) ?_
      exact hret _ _ _ dX5_cell_21 (rfl)
    · refine lv_iload_n hx hb dX5_cell_11 rfl (lv_at hl 2 rfl) ?_
      refine r_if_lt (P := xb.toInt < 0) (tgt := 20) hx hb dX5_cell_12 (by decide) (ii_lt0) (fun cq12 => ?_) (fun cq12 => ?_)
      · refine lv_iconst (v := (-1)) hx hb dX5_cell_20 (by decide) ?_
        exact hret _ _ _ dX5_cell_21 (rfl)
      · refine lv_iload_n hx hb dX5_cell_15 rfl (lv_at hl 2 rfl) ?_
        refine lv_iconst (v := (nI 1)) hx hb dX5_cell_16 (by decide) ?_
        refine r_icmp_le (P := xb.toInt ≤ ((1 : Nat) : Int)) (tgt := 22) hx hb dX5_cell_17 (by decide) (ii_len (by omega)) (fun cq17 => ?_) (fun cq17 => ?_)
        · exact (hbad.elim (fun z => inr_f.mp z (by omega)) (fun z => inr_f.mp z (by omega))).elim
        · refine lv_iconst (v := (-1)) hx hb dX5_cell_20 (by decide) ?_
          exact hret _ _ _ dX5_cell_21 (rfl)

set_option maxHeartbeats 1000000 in
set_option maxRecDepth 100000 in
theorem c_X5_fit_bad (l : Launch) (G : kG) (z : Nat) (xa : Int32) (hbad : inr xa 1 65535 = false) : Met l yX5_fit wsX5_fit ({ frames := 3, cells := 0, slots := 0, locals := 66 } : Room) (cP G [.ref z, .int xa] []) (vp_Si (fun rv => rv = (-1))) 0 0 (fun _ => False) := by
  refine met_ro (cc := cX5_fit) (maxL := 2) (ty := .int) (own := RX5) (by decide) rfl rfl (fun _ _ => rfl) (Nat.le_of_ble_eq_true rfl) ?_
  intro p e s m args below meth cod Q hx hb hml hown hts hK hP hD hret ls hl
  have hl : lv_has ls 2 [(0, .ref z), (1, .int xa)] := hl
  refine lv_iload_n hx hb dX5_fit_0 rfl (lv_at hl 1 rfl) ?_
  refine lv_iconst (v := (nI 1)) hx hb dX5_fit_1 (by decide) ?_
  refine r_icmp_lt (P := xa.toInt < ((1 : Nat) : Int)) (tgt := 11) hx hb dX5_fit_2 (by decide) (ii_ltn (by omega)) (fun cq2 => ?_) (fun cq2 => ?_)
  · refine lv_iconst (v := (-1)) hx hb dX5_fit_11 (by decide) ?_
    exact hret _ _ _ dX5_fit_12 (rfl)
  · refine lv_iload_n hx hb dX5_fit_5 rfl (lv_at hl 1 rfl) ?_
    refine lv_ldc (v := (nI 65535)) hx hb hown (hts (.constant RX5 166 (nI 65535)) (List.mem_of_getElem? (i := 1) rfl)) dX5_fit_6 ?_
    refine r_icmp_le (P := xa.toInt ≤ ((65535 : Nat) : Int)) (tgt := 13) hx hb dX5_fit_8 (by decide) (ii_len (by omega)) (fun cq8 => ?_) (fun cq8 => ?_)
    · exact (inr_f.mp hbad (by omega)).elim
    · refine lv_iconst (v := (-1)) hx hb dX5_fit_11 (by decide) ?_
      exact hret _ _ _ dX5_fit_12 (rfl)

set_option maxHeartbeats 1000000 in
set_option maxRecDepth 100000 in
theorem c_X5_endBy_bad (l : Launch) (G : kG) (z : Nat) (xa : Int32) (hbad : inr xa 0 1 = false) : Met l yX5_endBy wsX5_endBy ({ frames := 6, cells := 0, slots := 0, locals := 138 } : Room) (cP G [.ref z, .int xa] []) (vp_Si (fun rv => rv = (-1))) 0 0 (fun _ => False) := by
  refine met_ro (cc := cX5_endBy) (maxL := 2) (ty := .int) (own := RX5) (by decide) rfl rfl (fun _ _ => rfl) (Nat.le_of_ble_eq_true rfl) ?_
  intro p e s m args below meth cod Q hx hb hml hown hts hK hP hD hret ls hl
  have hl : lv_has ls 2 [(0, .ref z), (1, .int xa)] := hl
  refine lv_iload_n hx hb dX5_endBy_0 rfl (lv_at hl 1 rfl) ?_
  refine r_if_eq (P := xa.toInt = 0) (tgt := 11) hx hb dX5_endBy_1 (by decide) (ii_eq0) (fun cq1 => ?_) (fun cq1 => ?_)
  · exact (inr_f.mp hbad (by omega)).elim
  · refine lv_iload_n hx hb dX5_endBy_4 rfl (lv_at hl 1 rfl) ?_
    refine lv_iconst (v := (nI 1)) hx hb dX5_endBy_5 (by decide) ?_
    refine r_icmp_eq (P := xa.toInt = ((1 : Nat) : Int)) (tgt := 11) hx hb dX5_endBy_6 (by decide) (ii_eqn (by omega)) (fun cq6 => ?_) (fun cq6 => ?_)
    · exact (inr_f.mp hbad (by omega)).elim
    · refine lv_iconst (v := (-1)) hx hb dX5_endBy_9 (by decide) ?_
      exact hret _ _ _ dX5_endBy_10 (rfl)

set_option maxHeartbeats 1000000 in
set_option maxRecDepth 100000 in
theorem c_X5_row_bad (l : Launch) (G : kG) (z t t2 h x : Nat) (o a1 a2 a3 a4 q n0 : Nat) (xa xb : Int32) (hn : n0 ≤ 24) (hbad : inr xa 0 ((n0 : Int) - 1) = false ∨ inr xb 0 4 = false) : Met l yX5_row wsX5_row ({ frames := 4, cells := 0, slots := 0, locals := 87 } : Room) (cP G [.ref z, .int xa, .int xb] [ob z 5 [.ref t, .ref t2, .ref h, .ref x], ob t 3 [.ref o, .ref q], ob o 1 [.int (nI n0), .ref a1, .ref a2, .ref a3, .ref a4]]) (vp_Si (fun rv => rv = (-1))) 0 0 (fun _ => False) := by
  refine met_ro (cc := cX5_row) (maxL := 3) (ty := .int) (own := RX5) (by decide) rfl rfl (fun _ _ => rfl) (Nat.le_of_ble_eq_true rfl) ?_
  intro p e s m args below meth cod Q hx hb hml hown hts hK hP hD hret ls hl
  have hl : lv_has ls 3 [(0, .ref z), (1, .int xa), (2, .int xb)] := hl
  refine lv_aload_n hx hb dX5_row_0 rfl (lv_at hl 0 rfl) ?_
  refine lv_iload_n hx hb dX5_row_1 rfl (lv_at hl 1 rfl) ?_
  refine g_ro (k_V (q0 := 0) (ci := 5) (n := 1) (As := [.int xa]) (rest := []) (wc := [ob z 5 [.ref t, .ref t2, .ref h, .ref x], ob t 3 [.ref o, .ref q], ob o 1 [.int (nI n0), .ref a1, .ref a2, .ref a3, .ref a4]]) hx hb hml hown hts (c_X5_isRow (l := l) (G := G) (z := z) (t := t) (t2 := t2) (h := h) (x := x) (o := o) (a1 := a1) (a2 := a2) (a3 := a3) (a4 := a4) (q := q) (n0 := n0) (xa := xa) (hn := by first | assumption | omega))  gX5_row_X5_isRow rfl rfl rfl (by decide +kernel) ⟨Nat.le_of_ble_eq_true rfl, Nat.le_of_ble_eq_true rfl⟩ rfl hK hP hD [0, 1, 2] rfl (by decide)  rfl rfl rfl hl.1 rfl (Nat.le_of_ble_eq_true rfl) dX5_row_2 ⟨Nat.le_of_ble_eq_true rfl, Nat.le_of_ble_eq_true rfl⟩) (fun r2 h2 => ?_)
  obtain rfl : (bI (inr xa 0 ((n0 : Int) - 1))) = r2 := Eq.symm h2
  refine r_if_ne (P := (inr xa 0 ((n0 : Int) - 1)) = false) (tgt := 10) hx hb dX5_row_5 (by decide) (bI_eq0) (fun cq5 => ?_) (fun cq5 => ?_)
  · have hb4 := inr_f.mp (hbad.elim (fun z => absurd z cq5) id)
    refine lv_iload_n hx hb dX5_row_10 rfl (lv_at hl 2 rfl) ?_
    rcases (show xb.toInt < 0 ∨ 0 ≤ xb.toInt by omega) with cq11 | cq11
    · refine lv_tableOut (tgt := 114) hx hb dX5_row_11 (Or.inl cq11) (by decide) ?_
      refine lv_iconst (v := (-1)) hx hb dX5_row_114 (by decide) ?_
      exact hret _ _ _ dX5_row_115 (rfl)
    rcases (show 4 < xb.toInt ∨ xb.toInt ≤ 4 by omega) with dq11 | dq11
    · refine lv_tableOut (tgt := 114) hx hb dX5_row_11 (Or.inr dq11) (by decide) ?_
      refine lv_iconst (v := (-1)) hx hb dX5_row_114 (by decide) ?_
      exact hret _ _ _ dX5_row_115 (rfl)
    have sw11 : xb.toInt = 0 ∨ xb.toInt = 1 ∨ xb.toInt = 2 ∨ xb.toInt = 3 ∨ xb.toInt = 4 := by omega
    rcases sw11 with sw11 | sw11 | sw11 | sw11 | sw11
    · exact (hb4 (by omega)).elim
    · exact (hb4 (by omega)).elim
    · exact (hb4 (by omega)).elim
    · exact (hb4 (by omega)).elim
    · exact (hb4 (by omega)).elim
  · refine lv_iconst (v := (-1)) hx hb dX5_row_8 (by decide) ?_
    exact hret _ _ _ dX5_row_9 (rfl)

set_option maxHeartbeats 1000000 in
set_option maxRecDepth 100000 in
theorem c_X5_count_bad (l : Launch) (G : kG) (z : Nat) (xa : Int32) (hbad : inr xa 0 8 = false) : Met l yX5_count wsX5_count ({ frames := 5, cells := 0, slots := 0, locals := 109 } : Room) (cP G [.ref z, .int xa] []) (vp_Si (fun rv => rv = (-1))) 0 0 (fun _ => False) := by
  refine met_ro (cc := cX5_count) (maxL := 2) (ty := .int) (own := RX5) (by decide) rfl rfl (fun _ _ => rfl) (Nat.le_of_ble_eq_true rfl) ?_
  intro p e s m args below meth cod Q hx hb hml hown hts hK hP hD hret ls hl
  have hl : lv_has ls 2 [(0, .ref z), (1, .int xa)] := hl
  have hb8 := inr_f.mp hbad
  refine lv_iload_n hx hb dX5_count_0 rfl (lv_at hl 1 rfl) ?_
  rcases (show xa.toInt < 0 ∨ 0 ≤ xa.toInt by omega) with cq1 | cq1
  · refine lv_tableOut (tgt := 153) hx hb dX5_count_1 (Or.inl cq1) (by decide) ?_
    refine lv_iconst (v := (-1)) hx hb dX5_count_153 (by decide) ?_
    exact hret _ _ _ dX5_count_154 (rfl)
  rcases (show 8 < xa.toInt ∨ xa.toInt ≤ 8 by omega) with dq1 | dq1
  · refine lv_tableOut (tgt := 153) hx hb dX5_count_1 (Or.inr dq1) (by decide) ?_
    refine lv_iconst (v := (-1)) hx hb dX5_count_153 (by decide) ?_
    exact hret _ _ _ dX5_count_154 (rfl)
  have sw1 : xa.toInt = 0 ∨ xa.toInt = 1 ∨ xa.toInt = 2 ∨ xa.toInt = 3 ∨ xa.toInt = 4 ∨ xa.toInt = 5 ∨ xa.toInt = 6 ∨ xa.toInt = 7 ∨ xa.toInt = 8 := by omega
  rcases sw1 with sw1 | sw1 | sw1 | sw1 | sw1 | sw1 | sw1 | sw1 | sw1
  · exact (hb8 (by omega)).elim
  · exact (hb8 (by omega)).elim
  · exact (hb8 (by omega)).elim
  · exact (hb8 (by omega)).elim
  · exact (hb8 (by omega)).elim
  · exact (hb8 (by omega)).elim
  · exact (hb8 (by omega)).elim
  · exact (hb8 (by omega)).elim
  · exact (hb8 (by omega)).elim
