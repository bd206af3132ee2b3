set_option maxHeartbeats 1000000 in
set_option maxRecDepth 100000 in
theorem c_X5_isColumn (l : Launch) (G : kG) (xa : Int32) : Met l yX5_isColumn wsX5_isColumn ({ frames := 0, cells := 0, slots := 0, locals := 0 } : Room) (cP G [.int xa] []) (vp_Si (fun rv => rv = (bI (inr xa 0 15)))) 0 0 (fun _ => False) := by
  refine met_ro (cc := cX5_isColumn) (maxL := 1) (ty := .boolean) (own := RX5) (by decide) rfl rfl (fun _ h => by rw [h]; exact bI_nar _) (Nat.le_of_ble_eq_true rfl) ?_
  intro p e s m args below meth cod Q hx hb hml hown hts hK hP hD hret ls hl
  have hl : lv_has ls 1 [(0, .int xa)] := hl
  refine lv_iload_n hx hb dX5_isColumn_0 rfl (lv_at hl 0 rfl) ?_
  refine r_if_lt (P := xa.toInt < 0) (tgt := 14) hx hb dX5_isColumn_1 (by decide) (ii_lt0) (fun cq1 => ?_) (fun cq1 => ?_)
  · refine lv_iconst (v := (nI 0)) hx hb dX5_isColumn_14 (by decide) ?_
    exact hret _ _ _ dX5_isColumn_15 (bIf (inr_f.mpr (by omega)))
  · refine lv_iload_n hx hb dX5_isColumn_4 rfl (lv_at hl 0 rfl) ?_
    refine lv_bipush (v := (nI 16)) hx hb dX5_isColumn_5 (by decide) ?_
    refine r_icmp_ge (P := ((16 : Nat) : Int) ≤ xa.toInt) (tgt := 14) hx hb dX5_isColumn_7 (by decide) (ii_nle (by omega)) (fun cq7 => ?_) (fun cq7 => ?_)
    · refine lv_iconst (v := (nI 0)) hx hb dX5_isColumn_14 (by decide) ?_
      exact hret _ _ _ dX5_isColumn_15 (bIf (inr_f.mpr (by omega)))
    · refine lv_iconst (v := (nI 1)) hx hb dX5_isColumn_10 (by decide) ?_
      refine lv_goto (tgt := 15) hx hb dX5_isColumn_11 (by decide) ?_
      exact hret _ _ _ dX5_isColumn_15 (bIt (inr_t.mpr (by omega)))

set_option maxHeartbeats 1000000 in
set_option maxRecDepth 100000 in
theorem c_X5_isValue (l : Launch) (G : kG) (xa : Int32) : Met l yX5_isValue wsX5_isValue ({ frames := 0, cells := 0, slots := 0, locals := 0 } : Room) (cP G [.int xa] []) (vp_Si (fun rv => rv = (bI (inr xa 0 99)))) 0 0 (fun _ => False) := by
  refine met_ro (cc := cX5_isValue) (maxL := 1) (ty := .boolean) (own := RX5) (by decide) rfl rfl (fun _ h => by rw [h]; exact bI_nar _) (Nat.le_of_ble_eq_true rfl) ?_
  intro p e s m args below meth cod Q hx hb hml hown hts hK hP hD hret ls hl
  have hl : lv_has ls 1 [(0, .int xa)] := hl
  refine lv_iload_n hx hb dX5_isValue_0 rfl (lv_at hl 0 rfl) ?_
  refine r_if_lt (P := xa.toInt < 0) (tgt := 14) hx hb dX5_isValue_1 (by decide) (ii_lt0) (fun cq1 => ?_) (fun cq1 => ?_)
  · refine lv_iconst (v := (nI 0)) hx hb dX5_isValue_14 (by decide) ?_
    exact hret _ _ _ dX5_isValue_15 (bIf (inr_f.mpr (by omega)))
  · refine lv_iload_n hx hb dX5_isValue_4 rfl (lv_at hl 0 rfl) ?_
    refine lv_bipush (v := (nI 99)) hx hb dX5_isValue_5 (by decide) ?_
    refine r_icmp_gt (P := ((99 : Nat) : Int) < xa.toInt) (tgt := 14) hx hb dX5_isValue_7 (by decide) (ii_nlt (by omega)) (fun cq7 => ?_) (fun cq7 => ?_)
    · refine lv_iconst (v := (nI 0)) hx hb dX5_isValue_14 (by decide) ?_
      exact hret _ _ _ dX5_isValue_15 (bIf (inr_f.mpr (by omega)))
    · refine lv_iconst (v := (nI 1)) hx hb dX5_isValue_10 (by decide) ?_
      refine lv_goto (tgt := 15) hx hb dX5_isValue_11 (by decide) ?_
      exact hret _ _ _ dX5_isValue_15 (bIt (inr_t.mpr (by omega)))

theorem iqX4_allowNumber_X4 : ∀ w ∈ u_ws RX4 TX4 8, w ∈ wsX4_allowNumber := by decide +kernel
set_option maxHeartbeats 1000000 in
set_option maxRecDepth 100000 in
theorem c_X4_allowNumber (l : Launch) (G : kG) (x g1 g2 g3 L pl nu np rr : Nat) (t td tv : Nat → Nat) (hL : L ≤ 100) (hpl : pl ≤ L) (ht : ∀ k, t k < 256) (okb : Bool) : Met l yX4_allowNumber wsX4_allowNumber ({ frames := 0, cells := 0, slots := 0, locals := 0 } : Room) (cP G [.ref x, .int (bI okb)] [ob x 4 [.int (nI L), .ref g1, .int (nI pl), .int (nI nu), .int (nI np), .int (nI rr), .ref g2, .ref g3], arC G g1 100 (fun j => nI (t j)), ar G g2 24 (fun j => nI (td j)), ar G g3 384 (fun j => nI (tv j))]) (qI (fun rv H => ∃ (p2 : Nat), rv = (bI okb) ∧ (p2 = (if okb = true then pl else np)) ∧ va_P G.1 vwCl [ob x 4 [.int (nI L), .ref g1, .int (nI p2), .int (nI nu), .int (nI np), .int (nI rr), .ref g2, .ref g3], arC G g1 100 (fun j => nI (t j)), ar G g2 24 (fun j => nI (td j)), ar G g3 384 (fun j => nI (tv j))] H) (mA [ob x 4 [.int (nI L), .ref g1, .int (nI pl), .int (nI nu), .int (nI np), .int (nI rr), .ref g2, .ref g3], arC G g1 100 (fun j => nI (t j)), ar G g2 24 (fun j => nI (td j)), ar G g3 384 (fun j => nI (tv j))])) 0 0 (mA [ob x 4 [.int (nI L), .ref g1, .int (nI pl), .int (nI nu), .int (nI np), .int (nI rr), .ref g2, .ref g3], arC G g1 100 (fun j => nI (t j)), ar G g2 24 (fun j => nI (td j)), ar G g3 384 (fun j => nI (tv j))]) := by
  refine met_muI (cc := cX4_allowNumber) (maxL := 2) (ty := .boolean) (own := RX4) (by decide) rfl rfl (fun _ _ h => by obtain ⟨_, rfl, _⟩ := h; exact bI_nar _) (Nat.le_of_ble_eq_true rfl) ?_
  intro p e s m args below meth cod Q A hx hb hml hown hts hK hP hD hS hret ls hl
  have hl : lv_has ls 2 [(0, .ref x), (1, .int (bI okb))] := hl
  refine lv_iload_n hx hb dX4_allowNumber_0 rfl (lv_at hl 1 rfl) ?_
  refine r_if_ne (P := okb = false) (tgt := 12) hx hb dX4_allowNumber_1 (by decide) (bI_eq0) (fun cq1 => ?_) (fun cq1 => ?_)
  · refine lv_iload_n hx hb dX4_allowNumber_12 rfl (lv_at hl 1 rfl) ?_
    exact hret _ _ _ _ _ hS dX4_allowNumber_13 (⟨pl, rfl, by rw [if_pos (Bool.of_not_eq_false cq1)], hP⟩)
  · refine lv_aload_n hx hb dX4_allowNumber_4 rfl (lv_at hl 0 rfl) ?_
    refine lv_aload_n hx hb dX4_allowNumber_5 rfl (lv_at hl 0 rfl) ?_
    refine va_get (D := G.1) (ci := 4) (v := .int (nI np)) (C := RX4) (T := TX4) (N := 8) hx hb hts iqX4_allowNumber_X4 hown hK.1 hP 0 rfl rfl 4 (by decide) (hts (.fieldLink RX4 25 "PushedTables$Text" "numberPlace" "I") (List.mem_of_getElem? (i := 1) rfl)) (fun _ h9 => h9) rfl dX4_allowNumber_6 ?_
    refine va_put (D := G.1) (ci := 4) (v := .int (nI np)) (ty := .int) (C := RX4) (T := TX4) (N := 8) hx hb hts iqX4_allowNumber_X4 tyX4 tyX4_ok nmX4 hown hK.1 hP hD hS 0 rfl rfl 2 (by decide) (hts (.fieldLink RX4 19 "PushedTables$Text" "place" "I") (List.mem_of_getElem? (i := 2) rfl)) (fun _ h9 => h9) rfl (by decide +kernel) rfl rfl (Nat.le_of_ble_eq_true rfl) dX4_allowNumber_9 (fun H locs hP hD hS => ?_)
    have hP : va_P G.1 vwCl [ob x 4 [.int (nI L), .ref g1, .int (nI np), .int (nI nu), .int (nI np), .int (nI rr), .ref g2, .ref g3], arC G g1 100 (fun j => nI (t j)), ar G g2 24 (fun j => nI (td j)), ar G g3 384 (fun j => nI (tv j))] H := hP
    have hD : va_D A [ob x 4 [.int (nI L), .ref g1, .int (nI np), .int (nI nu), .int (nI np), .int (nI rr), .ref g2, .ref g3], arC G g1 100 (fun j => nI (t j)), ar G g2 24 (fun j => nI (td j)), ar G g3 384 (fun j => nI (tv j))] := hD
    refine lv_iload_n hx hb dX4_allowNumber_12 rfl (lv_at hl 1 rfl) ?_
    exact hret _ _ _ _ _ hS dX4_allowNumber_13 (⟨np, rfl, by rw [cq1]; rfl, hP⟩)

theorem iqX4_readEntries_X4 : ∀ w ∈ u_ws RX4 TX4 8, w ∈ wsX4_readEntries := by decide +kernel
set_option maxHeartbeats 1000000 in
set_option maxRecDepth 100000 in
theorem c_X4_readEntries (l : Launch) (G : kG) (x g1 g2 g3 L pl nu np rr : Nat) (t td tv : Nat → Nat) (hL : L ≤ 100) (hpl : pl ≤ L) (ht : ∀ k, t k < 256) (r d : Nat) (hr : r < 24) (hd : d < 100) (htd : ∀ k, td k < 100) (htv : ∀ k, tv k < 100) : Met l yX4_readEntries wsX4_readEntries ({ frames := 3, cells := 0, slots := 0, locals := 61 } : Room) (cP G [.ref x, .int (nI r), .int (nI d)] [ob x 4 [.int (nI L), .ref g1, .int (nI pl), .int (nI nu), .int (nI np), .int (nI rr), .ref g2, .ref g3], arC G g1 100 (fun j => nI (t j)), ar G g2 24 (fun j => nI (td j)), ar G g3 384 (fun j => nI (tv j))]) (qI (fun rv H => ∃ (ok2 : Bool) (p2 : Nat) (n2 : Nat) (np2 : Nat) (tv2 : Nat → Nat), rv = (bI ok2) ∧ (∃ n, reE t L d r n pl tv = some (ok2, p2, tv2)) ∧ p2 ≤ L ∧ (∀ k, tv2 k < 100) ∧ va_P G.1 vwCl [ob x 4 [.int (nI L), .ref g1, .int (nI p2), .int (nI n2), .int (nI np2), .int (nI rr), .ref g2, .ref g3], arC G g1 100 (fun j => nI (t j)), ar G g2 24 (fun j => nI (td j)), ar G g3 384 (fun j => nI (tv2 j))] H) (mA [ob x 4 [.int (nI L), .ref g1, .int (nI pl), .int (nI nu), .int (nI np), .int (nI rr), .ref g2, .ref g3], arC G g1 100 (fun j => nI (t j)), ar G g2 24 (fun j => nI (td j)), ar G g3 384 (fun j => nI (tv j))])) 0 0 (mA [ob x 4 [.int (nI L), .ref g1, .int (nI pl), .int (nI nu), .int (nI np), .int (nI rr), .ref g2, .ref g3], arC G g1 100 (fun j => nI (t j)), ar G g2 24 (fun j => nI (td j)), ar G g3 384 (fun j => nI (tv j))]) := by
  refine met_muI (cc := cX4_readEntries) (maxL := 6) (ty := .boolean) (own := RX4) (by decide) rfl rfl (fun _ _ h => by obtain ⟨_, _, _, _, _, rfl, _⟩ := h; exact bI_nar _) (Nat.le_of_ble_eq_true rfl) ?_
  intro p e s m args below meth cod Q A hx hb hml hown hts hK hP hD hS hret ls hl
  have hl : lv_has ls 6 [(0, .ref x), (1, .int (nI r)), (2, .int (nI d))] := hl
  refine lv_aload_n hx hb dX4_readEntries_0 rfl (lv_at hl 0 rfl) ?_
  refine lv_bipush (v := (nI 59)) hx hb dX4_readEntries_1 (by decide) ?_
  refine g_I (k_V (q0 := 0) (ci := 4) (n := 1) (As := [.int (nI 59)]) (rest := []) (wc := [ob x 4 [.int (nI L), .ref g1, .int (nI pl), .int (nI nu), .int (nI np), .int (nI rr), .ref g2, .ref g3], arC G g1 100 (fun j => nI (t j)), ar G g2 24 (fun j => nI (td j)), ar G g3 384 (fun j => nI (tv j))]) hx hb hml hown hts (c_X4_takeSign (l := l) (G := G) (x := x) (g1 := g1) (g2 := g2) (g3 := g3) (L := L) (pl := pl) (nu := nu) (np := np) (rr := rr) (t := t) (td := td) (tv := tv) (hL := by first | assumption | omega) (hpl := by first | assumption | omega) (ht := by first | assumption | omega) (w := 59) (hw := by first | assumption | omega) (hw0 := by first | assumption | omega))  gX4_readEntries_X4_takeSign rfl rfl rfl (by decide +kernel) ⟨Nat.le_of_ble_eq_true rfl, Nat.le_of_ble_eq_true rfl⟩ rfl hK hP hD [0, 1, 2, 3] rfl (by decide)  rfl rfl rfl hl.1 rfl (Nat.le_of_ble_eq_true rfl) dX4_readEntries_3 ⟨Nat.le_of_ble_eq_true rfl, Nat.le_of_ble_eq_true rfl⟩) hP hD hS [0, 1, 2, 3] rfl (fun r3 H locs hB3 back hS => ?_)
  obtain ⟨p23, he3, hp23, hp33, hP1⟩ := hB3
  obtain rfl := Eq.symm he3
  obtain ⟨hP, hD⟩ := back [ob x 4 [.int (nI L), .ref g1, .int (nI p23), .int (nI nu), .int (nI np), .int (nI rr), .ref g2, .ref g3], arC G g1 100 (fun j => nI (t j)), ar G g2 24 (fun j => nI (td j)), ar G g3 384 (fun j => nI (tv j))] rfl hP1
  have hP : va_P G.1 vwCl [ob x 4 [.int (nI L), .ref g1, .int (nI p23), .int (nI nu), .int (nI np), .int (nI rr), .ref g2, .ref g3], arC G g1 100 (fun j => nI (t j)), ar G g2 24 (fun j => nI (td j)), ar G g3 384 (fun j => nI (tv j))] H := hP
  have hD : va_D A [ob x 4 [.int (nI L), .ref g1, .int (nI p23), .int (nI nu), .int (nI np), .int (nI rr), .ref g2, .ref g3], arC G g1 100 (fun j => nI (t j)), ar G g2 24 (fun j => nI (td j)), ar G g3 384 (fun j => nI (tv j))] := hD
  refine r_if_eq (P := (decide (sg t L (sk t L pl) = 59)) = false) (tgt := 11) hx hb dX4_readEntries_6 (by decide) (bI_eq0) (fun cq6 => ?_) (fun cq6 => ?_)
  · have N0 := of_decide_eq_false cq6
    have e3 : p23 = sk t L pl := by rw [hp23, if_neg N0]
    refine lv_iconst (v := (e1 1000)) hx hb dX4_readEntries_11 (by decide) ?_
    refine lv_istore_n (lv' := [(3, .int (e1 1000)), (0, .ref x), (1, .int (nI r)), (2, .int (nI d))]) hx hb dX4_readEntries_12 rfl hl (by decide) rfl (fun ls hl => ?_)
    refine lv_iconst (v := (nI 0)) hx hb dX4_readEntries_13 (by decide) ?_
    refine lv_istore (lv' := [(4, .int (nI 0)), (3, .int (e1 1000)), (0, .ref x), (1, .int (nI r)), (2, .int (nI d))]) hx hb dX4_readEntries_14 hl (by decide) rfl (fun ls hl => ?_)
    have L16 : ∀ (fu : Nat) (bf : Nat) (tn : Nat) (pp : Nat) (nu2 : Nat) (np2 : Nat) (tv2 : Nat → Nat), 17 - tn < fu → pp ≤ L → (bf = 1000 ∧ tn = 0) ∨ (bf < 16 ∧ tn ≤ bf + 1) → (∀ k, tv2 k < 100) → (∀ n R, ens t L d r n bf pp tv2 = some R → ∃ n2, reE t L d r n2 pl tv = some R) → ∀ (H : Heap) (locs : List Loc), va_P G.1 vwCl [ob x 4 [.int (nI L), .ref g1, .int (nI pp), .int (nI nu2), .int (nI np2), .int (nI rr), .ref g2, .ref g3], arC G g1 100 (fun j => nI (t j)), ar G g2 24 (fun j => nI (td j)), ar G g3 384 (fun j => nI (tv2 j))] H → va_D A [ob x 4 [.int (nI L), .ref g1, .int (nI pp), .int (nI nu2), .int (nI np2), .int (nI rr), .ref g2, .ref g3], arC G g1 100 (fun j => nI (t j)), ar G g2 24 (fun j => nI (td j)), ar G g3 384 (fun j => nI (tv2 j))] → va_S A s.heap H locs → ∀ (ls : Array Slot), lv_has ls 6 [(0, .ref x), (1, .int (nI r)), (2, .int (nI d)), (3, .int (e1 bf)), (4, .int (nI tn))] → W p l e ({ frames := 3, cells := 0, slots := 0, locals := 61 } : Room) s m args below meth cod H locs 0 0 Q (F0 m 16 ls []) := by
      intro fu
      induction fu with
      | zero => intro bf tn pp nu2 np2 tv2 hm; exact absurd hm (Nat.not_lt_zero _)
      | succ fu ih16 =>
        intro bf tn pp nu2 np2 tv2 hm16 hpp hbf htv2 hI H locs hP hD hS ls hl
        have hP : va_P G.1 vwCl [ob x 4 [.int (nI L), .ref g1, .int (nI pp), .int (nI nu2), .int (nI np2), .int (nI rr), .ref g2, .ref g3], arC G g1 100 (fun j => nI (t j)), ar G g2 24 (fun j => nI (td j)), ar G g3 384 (fun j => nI (tv2 j))] H := hP
        have hD : va_D A [ob x 4 [.int (nI L), .ref g1, .int (nI pp), .int (nI nu2), .int (nI np2), .int (nI rr), .ref g2, .ref g3], arC G g1 100 (fun j => nI (t j)), ar G g2 24 (fun j => nI (td j)), ar G g3 384 (fun j => nI (tv2 j))] := hD
        refine lv_iload hx hb dX4_readEntries_16 (lv_at hl 4 rfl) ?_
        refine lv_bipush (v := (nI 16)) hx hb dX4_readEntries_18 (by decide) ?_
        refine r_icmp_gt (P := 16 < tn) (tgt := 155) hx hb dX4_readEntries_20 (by decide) (nI_ltI (by omega) (by omega)) (fun cq20 => ?_) (fun cq20 => ?_)
        · exact absurd cq20 (by omega)
        · refine lv_aload_n hx hb dX4_readEntries_23 rfl (lv_at hl 0 rfl) ?_
          refine g_I (k_V (q0 := 0) (ci := 4) (n := 0) (As := []) (rest := []) (wc := [ob x 4 [.int (nI L), .ref g1, .int (nI pp), .int (nI nu2), .int (nI np2), .int (nI rr), .ref g2, .ref g3], arC G g1 100 (fun j => nI (t j)), ar G g2 24 (fun j => nI (td j)), ar G g3 384 (fun j => nI (tv2 j))]) hx hb hml hown hts (c_X4_readNumber (l := l) (G := G) (x := x) (g1 := g1) (g2 := g2) (g3 := g3) (L := L) (pl := pp) (nu := nu2) (np := np2) (rr := rr) (t := t) (td := td) (tv := tv2) (hL := by first | assumption | omega) (hpl := by first | assumption | omega) (ht := by first | assumption | omega))  gX4_readEntries_X4_readNumber rfl rfl rfl (by decide +kernel) ⟨Nat.le_of_ble_eq_true rfl, Nat.le_of_ble_eq_true rfl⟩ rfl hK hP hD [0, 1, 2, 3] rfl (by decide)  rfl rfl rfl hl.1 rfl (Nat.le_of_ble_eq_true rfl) dX4_readEntries_24 ⟨Nat.le_of_ble_eq_true rfl, Nat.le_of_ble_eq_true rfl⟩) hP hD hS [0, 1, 2, 3] rfl (fun r24 H locs hB24 back hS => ?_)
          obtain ⟨p224, n224, np224, he24, hp224, hp324, hn224, hP1⟩ := hB24
          obtain rfl := Eq.symm he24
          obtain ⟨hP, hD⟩ := back [ob x 4 [.int (nI L), .ref g1, .int (nI p224), .int (nI n224), .int (nI np224), .int (nI rr), .ref g2, .ref g3], arC G g1 100 (fun j => nI (t j)), ar G g2 24 (fun j => nI (td j)), ar G g3 384 (fun j => nI (tv2 j))] rfl hP1
          have hP : va_P G.1 vwCl [ob x 4 [.int (nI L), .ref g1, .int (nI p224), .int (nI n224), .int (nI np224), .int (nI rr), .ref g2, .ref g3], arC G g1 100 (fun j => nI (t j)), ar G g2 24 (fun j => nI (td j)), ar G g3 384 (fun j => nI (tv2 j))] H := hP
          have hD : va_D A [ob x 4 [.int (nI L), .ref g1, .int (nI p224), .int (nI n224), .int (nI np224), .int (nI rr), .ref g2, .ref g3], arC G g1 100 (fun j => nI (t j)), ar G g2 24 (fun j => nI (td j)), ar G g3 384 (fun j => nI (tv2 j))] := hD
          refine r_if_eq (P := (nmO t L (sk t L pp)) = false) (tgt := 60) hx hb dX4_readEntries_27 (by decide) (bI_eq0) (fun cq27 => ?_) (fun cq27 => ?_)
          · refine lv_iconst (v := (nI 0)) hx hb dX4_readEntries_60 (by decide) ?_
            exact hret _ _ _ _ _ hS dX4_readEntries_61 (⟨false, p224, n224, np224, tv2, rfl, hI 1 _ (by rw [ens_f (enO_1 cq27), hp224]), hp324, by assumption, hP⟩)
          · have O1 := Bool.of_not_eq_false cq27
            obtain ⟨v1, w1, l1⟩ := hn224 O1
            refine lv_aload_n hx hb dX4_readEntries_30 rfl (lv_at hl 0 rfl) ?_
            refine lv_aload_n hx hb dX4_readEntries_31 rfl (lv_at hl 0 rfl) ?_
            refine va_get (D := G.1) (ci := 4) (v := .int (nI n224)) (C := RX4) (T := TX4) (N := 8) hx hb hts iqX4_readEntries_X4 hown hK.1 hP 0 rfl rfl 3 (by decide) (hts (.fieldLink RX4 22 "PushedTables$Text" "number" "I") (List.mem_of_getElem? (i := 1) rfl)) (fun _ h9 => h9) rfl dX4_readEntries_32 ?_
            refine g_ro (k_SN (n := 1) (As := [.int (nI n224)]) (rest := [.ref x]) (wc := []) hx hb hml hown hts (c_X5_isColumn (l := l) (G := G) (xa := nI n224))  gX4_readEntries_X5_isColumn_n72 hK.2.2.2.2.2.2.2.2.2 (hts (.initialized RX5) (List.mem_of_getElem? (i := 33) rfl)) (hts (.static yX5_isColumn) (List.mem_of_getElem? (i := 32) rfl)) rfl rfl rfl (by decide +kernel) ⟨Nat.le_of_ble_eq_true rfl, Nat.le_of_ble_eq_true rfl⟩ rfl hK hP hD [] rfl (by decide)  hl.1 rfl (Nat.le_of_ble_eq_true rfl) dX4_readEntries_35 ⟨Nat.le_of_ble_eq_true rfl, Nat.le_of_ble_eq_true rfl⟩) (fun r35 h35 => ?_)
            obtain rfl : (bI (inr (nI n224) 0 15)) = r35 := Eq.symm h35
            refine r_if_eq (P := (inr (nI n224) 0 15) = false) (tgt := 53) hx hb dX4_readEntries_38 (by decide) (bI_eq0) (fun cq38 => ?_) (fun cq38 => ?_)
            · have I1 := of_decide_eq_false ((inrn (c := n224) (b := 15) (by omega)).symm.trans cq38)
              refine lv_iconst (v := (bI false)) hx hb dX4_readEntries_53 (by decide) ?_
              refine g_I (k_V (q0 := 0) (ci := 4) (n := 1) (As := [.int (bI false)]) (rest := []) (wc := [ob x 4 [.int (nI L), .ref g1, .int (nI p224), .int (nI n224), .int (nI np224), .int (nI rr), .ref g2, .ref g3], arC G g1 100 (fun j => nI (t j)), ar G g2 24 (fun j => nI (td j)), ar G g3 384 (fun j => nI (tv2 j))]) hx hb hml hown hts (c_X4_allowNumber (l := l) (G := G) (x := x) (g1 := g1) (g2 := g2) (g3 := g3) (L := L) (pl := p224) (nu := n224) (np := np224) (rr := rr) (t := t) (td := td) (tv := tv2) (hL := by first | assumption | omega) (hpl := by first | assumption | omega) (ht := by first | assumption | omega) (okb := false))  gX4_readEntries_X4_allowNumber rfl rfl rfl (by decide +kernel) ⟨Nat.le_of_ble_eq_true rfl, Nat.le_of_ble_eq_true rfl⟩ rfl hK hP hD [0, 1, 2, 3] rfl (by decide)  rfl rfl rfl hl.1 rfl (Nat.le_of_ble_eq_true rfl) dX4_readEntries_54 ⟨Nat.le_of_ble_eq_true rfl, Nat.le_of_ble_eq_true rfl⟩) hP hD hS [0, 1, 2, 3] rfl (fun r54 H locs hB54 back hS => ?_)
              obtain ⟨p254, he54, hp254, hP1⟩ := hB54
              obtain rfl := Eq.symm he54
              obtain ⟨hP, hD⟩ := back [ob x 4 [.int (nI L), .ref g1, .int (nI p254), .int (nI n224), .int (nI np224), .int (nI rr), .ref g2, .ref g3], arC G g1 100 (fun j => nI (t j)), ar G g2 24 (fun j => nI (td j)), ar G g3 384 (fun j => nI (tv2 j))] rfl hP1
              have hP : va_P G.1 vwCl [ob x 4 [.int (nI L), .ref g1, .int (nI p254), .int (nI n224), .int (nI np224), .int (nI rr), .ref g2, .ref g3], arC G g1 100 (fun j => nI (t j)), ar G g2 24 (fun j => nI (td j)), ar G g3 384 (fun j => nI (tv2 j))] H := hP
              have hD : va_D A [ob x 4 [.int (nI L), .ref g1, .int (nI p254), .int (nI n224), .int (nI np224), .int (nI rr), .ref g2, .ref g3], arC G g1 100 (fun j => nI (t j)), ar G g2 24 (fun j => nI (td j)), ar G g3 384 (fun j => nI (tv2 j))] := hD
              refine r_if_ne (P := false = false) (tgt := 62) hx hb dX4_readEntries_57 (by decide) (bI_eq0) (fun cq57 => ?_) (fun cq57 => ?_)
              · exact absurd rfl cq57
              · refine lv_iconst (v := (nI 0)) hx hb dX4_readEntries_60 (by decide) ?_
                exact hret _ _ _ _ _ hS dX4_readEntries_61 (⟨false, p254, n224, np224, tv2, rfl, hI 1 _ (by rw [ens_f (enO_2 O1 (by rw [← v1]; omega)), hp254, if_neg (by decide), w1]), by rw [hp254, if_neg (by decide), w1]; exact sk_le hpp, by assumption, hP⟩)
            · have I1 := of_decide_eq_true ((inrn (c := n224) (b := 15) (by omega)).symm.trans (Bool.of_not_eq_false cq38))
              refine lv_aload_n hx hb dX4_readEntries_41 rfl (lv_at hl 0 rfl) ?_
              refine va_get (D := G.1) (ci := 4) (v := .int (nI n224)) (C := RX4) (T := TX4) (N := 8) hx hb hts iqX4_readEntries_X4 hown hK.1 hP 0 rfl rfl 3 (by decide) (hts (.fieldLink RX4 22 "PushedTables$Text" "number" "I") (List.mem_of_getElem? (i := 1) rfl)) (fun _ h9 => h9) rfl dX4_readEntries_42 ?_
              refine lv_iload_n hx hb dX4_readEntries_45 rfl (lv_at hl 3 rfl) ?_
              refine r_icmp_le (P := ¬ (bf = 1000 ∨ bf < n224)) (tgt := 53) hx hb dX4_readEntries_46 (by decide) (e1_ltn (by omega) (by omega)) (fun cq46 => ?_) (fun cq46 => ?_)
              · refine lv_iconst (v := (bI false)) hx hb dX4_readEntries_53 (by decide) ?_
                refine g_I (k_V (q0 := 0) (ci := 4) (n := 1) (As := [.int (bI false)]) (rest := []) (wc := [ob x 4 [.int (nI L), .ref g1, .int (nI p224), .int (nI n224), .int (nI np224), .int (nI rr), .ref g2, .ref g3], arC G g1 100 (fun j => nI (t j)), ar G g2 24 (fun j => nI (td j)), ar G g3 384 (fun j => nI (tv2 j))]) hx hb hml hown hts (c_X4_allowNumber (l := l) (G := G) (x := x) (g1 := g1) (g2 := g2) (g3 := g3) (L := L) (pl := p224) (nu := n224) (np := np224) (rr := rr) (t := t) (td := td) (tv := tv2) (hL := by first | assumption | omega) (hpl := by first | assumption | omega) (ht := by first | assumption | omega) (okb := false))  gX4_readEntries_X4_allowNumber rfl rfl rfl (by decide +kernel) ⟨Nat.le_of_ble_eq_true rfl, Nat.le_of_ble_eq_true rfl⟩ rfl hK hP hD [0, 1, 2, 3] rfl (by decide)  rfl rfl rfl hl.1 rfl (Nat.le_of_ble_eq_true rfl) dX4_readEntries_54 ⟨Nat.le_of_ble_eq_true rfl, Nat.le_of_ble_eq_true rfl⟩) hP hD hS [0, 1, 2, 3] rfl (fun r54 H locs hB54 back hS => ?_)
                obtain ⟨p254, he54, hp254, hP1⟩ := hB54
                obtain rfl := Eq.symm he54
                obtain ⟨hP, hD⟩ := back [ob x 4 [.int (nI L), .ref g1, .int (nI p254), .int (nI n224), .int (nI np224), .int (nI rr), .ref g2, .ref g3], arC G g1 100 (fun j => nI (t j)), ar G g2 24 (fun j => nI (td j)), ar G g3 384 (fun j => nI (tv2 j))] rfl hP1
                have hP : va_P G.1 vwCl [ob x 4 [.int (nI L), .ref g1, .int (nI p254), .int (nI n224), .int (nI np224), .int (nI rr), .ref g2, .ref g3], arC G g1 100 (fun j => nI (t j)), ar G g2 24 (fun j => nI (td j)), ar G g3 384 (fun j => nI (tv2 j))] H := hP
                have hD : va_D A [ob x 4 [.int (nI L), .ref g1, .int (nI p254), .int (nI n224), .int (nI np224), .int (nI rr), .ref g2, .ref g3], arC G g1 100 (fun j => nI (t j)), ar G g2 24 (fun j => nI (td j)), ar G g3 384 (fun j => nI (tv2 j))] := hD
                refine r_if_ne (P := false = false) (tgt := 62) hx hb dX4_readEntries_57 (by decide) (bI_eq0) (fun cq57 => ?_) (fun cq57 => ?_)
                · exact absurd rfl cq57
                · refine lv_iconst (v := (nI 0)) hx hb dX4_readEntries_60 (by decide) ?_
                  exact hret _ _ _ _ _ hS dX4_readEntries_61 (⟨false, p254, n224, np224, tv2, rfl, hI 1 _ (by rw [ens_f (enO_2 O1 (by rw [← v1]; exact fun z => cq46 z.2)), hp254, if_neg (by decide), w1]), by rw [hp254, if_neg (by decide), w1]; exact sk_le hpp, by assumption, hP⟩)
              · have C1 : nmV t L (sk t L pp) < 16 ∧ (bf = 1000 ∨ bf < nmV t L (sk t L pp)) := by rw [← v1]; exact ⟨by omega, Classical.not_not.mp cq46⟩
                refine lv_iconst (v := (bI true)) hx hb dX4_readEntries_49 (by decide) ?_
                refine lv_goto (tgt := 54) hx hb dX4_readEntries_50 (by decide) ?_
                refine g_I (k_V (q0 := 0) (ci := 4) (n := 1) (As := [.int (bI true)]) (rest := []) (wc := [ob x 4 [.int (nI L), .ref g1, .int (nI p224), .int (nI n224), .int (nI np224), .int (nI rr), .ref g2, .ref g3], arC G g1 100 (fun j => nI (t j)), ar G g2 24 (fun j => nI (td j)), ar G g3 384 (fun j => nI (tv2 j))]) hx hb hml hown hts (c_X4_allowNumber (l := l) (G := G) (x := x) (g1 := g1) (g2 := g2) (g3 := g3) (L := L) (pl := p224) (nu := n224) (np := np224) (rr := rr) (t := t) (td := td) (tv := tv2) (hL := by first | assumption | omega) (hpl := by first | assumption | omega) (ht := by first | assumption | omega) (okb := true))  gX4_readEntries_X4_allowNumber rfl rfl rfl (by decide +kernel) ⟨Nat.le_of_ble_eq_true rfl, Nat.le_of_ble_eq_true rfl⟩ rfl hK hP hD [0, 1, 2, 3] rfl (by decide)  rfl rfl rfl hl.1 rfl (Nat.le_of_ble_eq_true rfl) dX4_readEntries_54 ⟨Nat.le_of_ble_eq_true rfl, Nat.le_of_ble_eq_true rfl⟩) hP hD hS [0, 1, 2, 3] rfl (fun r54 H locs hB54 back hS => ?_)
                obtain ⟨p254, he54, hp254, hP1⟩ := hB54
                obtain rfl := Eq.symm he54
                obtain ⟨hP, hD⟩ := back [ob x 4 [.int (nI L), .ref g1, .int (nI p254), .int (nI n224), .int (nI np224), .int (nI rr), .ref g2, .ref g3], arC G g1 100 (fun j => nI (t j)), ar G g2 24 (fun j => nI (td j)), ar G g3 384 (fun j => nI (tv2 j))] rfl hP1
                have hP : va_P G.1 vwCl [ob x 4 [.int (nI L), .ref g1, .int (nI p254), .int (nI n224), .int (nI np224), .int (nI rr), .ref g2, .ref g3], arC G g1 100 (fun j => nI (t j)), ar G g2 24 (fun j => nI (td j)), ar G g3 384 (fun j => nI (tv2 j))] H := hP
                have hD : va_D A [ob x 4 [.int (nI L), .ref g1, .int (nI p254), .int (nI n224), .int (nI np224), .int (nI rr), .ref g2, .ref g3], arC G g1 100 (fun j => nI (t j)), ar G g2 24 (fun j => nI (td j)), ar G g3 384 (fun j => nI (tv2 j))] := hD
                refine r_if_ne (P := true = false) (tgt := 62) hx hb dX4_readEntries_57 (by decide) (bI_eq0) (fun cq57 => ?_) (fun cq57 => ?_)
                · have e54 : p254 = nmP t L (sk t L pp) := by rw [hp254, if_pos rfl, hp224]
                  have hp54 : p254 ≤ L := by rw [hp254, if_pos rfl]; exact hp324
                  refine lv_aload_n hx hb dX4_readEntries_62 rfl (lv_at hl 0 rfl) ?_
                  refine va_get (D := G.1) (ci := 4) (v := .int (nI n224)) (C := RX4) (T := TX4) (N := 8) hx hb hts iqX4_readEntries_X4 hown hK.1 hP 0 rfl rfl 3 (by decide) (hts (.fieldLink RX4 22 "PushedTables$Text" "number" "I") (List.mem_of_getElem? (i := 1) rfl)) (fun _ h9 => h9) rfl dX4_readEntries_63 ?_
                  refine lv_istore (lv' := [(5, .int (nI n224)), (0, .ref x), (1, .int (nI r)), (2, .int (nI d)), (3, .int (e1 bf)), (4, .int (nI tn))]) hx hb dX4_readEntries_66 hl (by decide) rfl (fun ls hl => ?_)
                  refine lv_aload_n hx hb dX4_readEntries_68 rfl (lv_at hl 1 rfl) ?_
                  refine lv_bipush (v := (nI 61)) hx hb dX4_readEntries_69 (by decide) ?_
                  refine g_I (k_V (q0 := 0) (ci := 4) (n := 1) (As := [.int (nI 61)]) (rest := []) (wc := [ob x 4 [.int (nI L), .ref g1, .int (nI p254), .int (nI n224), .int (nI np224), .int (nI rr), .ref g2, .ref g3], arC G g1 100 (fun j => nI (t j)), ar G g2 24 (fun j => nI (td j)), ar G g3 384 (fun j => nI (tv2 j))]) hx hb hml hown hts (c_X4_takeSign (l := l) (G := G) (x := x) (g1 := g1) (g2 := g2) (g3 := g3) (L := L) (pl := p254) (nu := n224) (np := np224) (rr := rr) (t := t) (td := td) (tv := tv2) (hL := by first | assumption | omega) (hpl := by first | assumption | omega) (ht := by first | assumption | omega) (w := 61) (hw := by first | assumption | omega) (hw0 := by first | assumption | omega))  gX4_readEntries_X4_takeSign rfl rfl rfl (by decide +kernel) ⟨Nat.le_of_ble_eq_true rfl, Nat.le_of_ble_eq_true rfl⟩ rfl hK hP hD [0, 1, 2, 3] rfl (by decide)  rfl rfl rfl hl.1 rfl (Nat.le_of_ble_eq_true rfl) dX4_readEntries_71 ⟨Nat.le_of_ble_eq_true rfl, Nat.le_of_ble_eq_true rfl⟩) hP hD hS [0, 1, 2, 3] rfl (fun r71 H locs hB71 back hS => ?_)
                  obtain ⟨p271, he71, hp271, hp371, hP1⟩ := hB71
                  obtain rfl := Eq.symm he71
                  obtain ⟨hP, hD⟩ := back [ob x 4 [.int (nI L), .ref g1, .int (nI p271), .int (nI n224), .int (nI np224), .int (nI rr), .ref g2, .ref g3], arC G g1 100 (fun j => nI (t j)), ar G g2 24 (fun j => nI (td j)), ar G g3 384 (fun j => nI (tv2 j))] rfl hP1
                  have hP : va_P G.1 vwCl [ob x 4 [.int (nI L), .ref g1, .int (nI p271), .int (nI n224), .int (nI np224), .int (nI rr), .ref g2, .ref g3], arC G g1 100 (fun j => nI (t j)), ar G g2 24 (fun j => nI (td j)), ar G g3 384 (fun j => nI (tv2 j))] H := hP
                  have hD : va_D A [ob x 4 [.int (nI L), .ref g1, .int (nI p271), .int (nI n224), .int (nI np224), .int (nI rr), .ref g2, .ref g3], arC G g1 100 (fun j => nI (t j)), ar G g2 24 (fun j => nI (td j)), ar G g3 384 (fun j => nI (tv2 j))] := hD
                  refine r_if_eq (P := (decide (sg t L (sk t L p254) = 61)) = false) (tgt := 104) hx hb dX4_readEntries_74 (by decide) (bI_eq0) (fun cq74 => ?_) (fun cq74 => ?_)
                  · refine lv_iconst (v := (nI 0)) hx hb dX4_readEntries_104 (by decide) ?_
                    exact hret _ _ _ _ _ hS dX4_readEntries_105 (⟨false, p271, n224, np224, tv2, rfl, hI 1 _ (by rw [ens_f (enO_3 O1 C1 (by rw [← e54]; exact of_decide_eq_false cq74)), hp271, if_neg (of_decide_eq_false cq74), e54]), hp371, by assumption, hP⟩)
                  · have S1 : sg t L (sk t L p254) = 61 := of_decide_eq_true (Bool.of_not_eq_false cq74)
                    have e71 : p271 = sk t L p254 + 1 := by rw [hp271, if_pos S1]
                    rw [e54] at S1 e71
                    refine lv_aload_n hx hb dX4_readEntries_77 rfl (lv_at hl 1 rfl) ?_
                    refine g_I (k_V (q0 := 0) (ci := 4) (n := 0) (As := []) (rest := []) (wc := [ob x 4 [.int (nI L), .ref g1, .int (nI p271), .int (nI n224), .int (nI np224), .int (nI rr), .ref g2, .ref g3], arC G g1 100 (fun j => nI (t j)), ar G g2 24 (fun j => nI (td j)), ar G g3 384 (fun j => nI (tv2 j))]) hx hb hml hown hts (c_X4_readNumber (l := l) (G := G) (x := x) (g1 := g1) (g2 := g2) (g3 := g3) (L := L) (pl := p271) (nu := n224) (np := np224) (rr := rr) (t := t) (td := td) (tv := tv2) (hL := by first | assumption | omega) (hpl := by first | assumption | omega) (ht := by first | assumption | omega))  gX4_readEntries_X4_readNumber rfl rfl rfl (by decide +kernel) ⟨Nat.le_of_ble_eq_true rfl, Nat.le_of_ble_eq_true rfl⟩ rfl hK hP hD [0, 1, 2, 3] rfl (by decide)  rfl rfl rfl hl.1 rfl (Nat.le_of_ble_eq_true rfl) dX4_readEntries_78 ⟨Nat.le_of_ble_eq_true rfl, Nat.le_of_ble_eq_true rfl⟩) hP hD hS [0, 1, 2, 3] rfl (fun r78 H locs hB78 back hS => ?_)
                    obtain ⟨p278, n278, np278, he78, hp278, hp378, hn278, hP1⟩ := hB78
                    obtain rfl := Eq.symm he78
                    obtain ⟨hP, hD⟩ := back [ob x 4 [.int (nI L), .ref g1, .int (nI p278), .int (nI n278), .int (nI np278), .int (nI rr), .ref g2, .ref g3], arC G g1 100 (fun j => nI (t j)), ar G g2 24 (fun j => nI (td j)), ar G g3 384 (fun j => nI (tv2 j))] rfl hP1
                    have hP : va_P G.1 vwCl [ob x 4 [.int (nI L), .ref g1, .int (nI p278), .int (nI n278), .int (nI np278), .int (nI rr), .ref g2, .ref g3], arC G g1 100 (fun j => nI (t j)), ar G g2 24 (fun j => nI (td j)), ar G g3 384 (fun j => nI (tv2 j))] H := hP
                    have hD : va_D A [ob x 4 [.int (nI L), .ref g1, .int (nI p278), .int (nI n278), .int (nI np278), .int (nI rr), .ref g2, .ref g3], arC G g1 100 (fun j => nI (t j)), ar G g2 24 (fun j => nI (td j)), ar G g3 384 (fun j => nI (tv2 j))] := hD
                    refine r_if_eq (P := (nmO t L (sk t L p271)) = false) (tgt := 104) hx hb dX4_readEntries_81 (by decide) (bI_eq0) (fun cq81 => ?_) (fun cq81 => ?_)
                    · refine lv_iconst (v := (nI 0)) hx hb dX4_readEntries_104 (by decide) ?_
                      exact hret _ _ _ _ _ hS dX4_readEntries_105 (⟨false, p278, n278, np278, tv2, rfl, hI 1 _ (by rw [ens_f (enO_4 O1 C1 S1 (by rw [← e71]; exact cq81)), hp278, e71]), hp378, by assumption, hP⟩)
                    · have O2 := Bool.of_not_eq_false cq81
                      obtain ⟨v2, w2, l2⟩ := hn278 O2
                      rw [e71] at O2 v2 w2
                      refine lv_aload_n hx hb dX4_readEntries_84 rfl (lv_at hl 1 rfl) ?_
                      refine lv_aload_n hx hb dX4_readEntries_85 rfl (lv_at hl 1 rfl) ?_
                      refine va_get (D := G.1) (ci := 4) (v := .int (nI n278)) (C := RX4) (T := TX4) (N := 8) hx hb hts iqX4_readEntries_X4 hown hK.1 hP 0 rfl rfl 3 (by decide) (hts (.fieldLink RX4 22 "PushedTables$Text" "number" "I") (List.mem_of_getElem? (i := 1) rfl)) (fun _ h9 => h9) rfl dX4_readEntries_86 ?_
                      refine lv_iload_n hx hb dX4_readEntries_89 rfl (lv_at hl 3 rfl) ?_
                      refine r_icmp_eq (P := n278 = d) (tgt := 97) hx hb dX4_readEntries_90 (by decide) (nI_eq (by omega) (by omega)) (fun cq90 => ?_) (fun cq90 => ?_)
                      · refine lv_iconst (v := (bI false)) hx hb dX4_readEntries_97 (by decide) ?_
                        refine g_I (k_V (q0 := 0) (ci := 4) (n := 1) (As := [.int (bI false)]) (rest := []) (wc := [ob x 4 [.int (nI L), .ref g1, .int (nI p278), .int (nI n278), .int (nI np278), .int (nI rr), .ref g2, .ref g3], arC G g1 100 (fun j => nI (t j)), ar G g2 24 (fun j => nI (td j)), ar G g3 384 (fun j => nI (tv2 j))]) hx hb hml hown hts (c_X4_allowNumber (l := l) (G := G) (x := x) (g1 := g1) (g2 := g2) (g3 := g3) (L := L) (pl := p278) (nu := n278) (np := np278) (rr := rr) (t := t) (td := td) (tv := tv2) (hL := by first | assumption | omega) (hpl := by first | assumption | omega) (ht := by first | assumption | omega) (okb := false))  gX4_readEntries_X4_allowNumber rfl rfl rfl (by decide +kernel) ⟨Nat.le_of_ble_eq_true rfl, Nat.le_of_ble_eq_true rfl⟩ rfl hK hP hD [0, 1, 2, 3] rfl (by decide)  rfl rfl rfl hl.1 rfl (Nat.le_of_ble_eq_true rfl) dX4_readEntries_98 ⟨Nat.le_of_ble_eq_true rfl, Nat.le_of_ble_eq_true rfl⟩) hP hD hS [0, 1, 2, 3] rfl (fun r98 H locs hB98 back hS => ?_)
                        obtain ⟨p298, he98, hp298, hP1⟩ := hB98
                        obtain rfl := Eq.symm he98
                        obtain ⟨hP, hD⟩ := back [ob x 4 [.int (nI L), .ref g1, .int (nI p298), .int (nI n278), .int (nI np278), .int (nI rr), .ref g2, .ref g3], arC G g1 100 (fun j => nI (t j)), ar G g2 24 (fun j => nI (td j)), ar G g3 384 (fun j => nI (tv2 j))] rfl hP1
                        have hP : va_P G.1 vwCl [ob x 4 [.int (nI L), .ref g1, .int (nI p298), .int (nI n278), .int (nI np278), .int (nI rr), .ref g2, .ref g3], arC G g1 100 (fun j => nI (t j)), ar G g2 24 (fun j => nI (td j)), ar G g3 384 (fun j => nI (tv2 j))] H := hP
                        have hD : va_D A [ob x 4 [.int (nI L), .ref g1, .int (nI p298), .int (nI n278), .int (nI np278), .int (nI rr), .ref g2, .ref g3], arC G g1 100 (fun j => nI (t j)), ar G g2 24 (fun j => nI (td j)), ar G g3 384 (fun j => nI (tv2 j))] := hD
                        refine r_if_ne (P := false = false) (tgt := 106) hx hb dX4_readEntries_101 (by decide) (bI_eq0) (fun cq101 => ?_) (fun cq101 => ?_)
                        · exact absurd rfl cq101
                        · refine lv_iconst (v := (nI 0)) hx hb dX4_readEntries_104 (by decide) ?_
                          exact hret _ _ _ _ _ hS dX4_readEntries_105 (⟨false, p298, n278, np278, tv2, rfl, hI 1 _ (by rw [ens_f (enO_5 O1 C1 S1 O2 (by rw [← v2]; exact cq90)), hp298, if_neg (by decide), w2]), by rw [hp298, if_neg (by decide), w2, ← e71]; exact sk_le hp371, by assumption, hP⟩)
                      · refine lv_iconst (v := (bI true)) hx hb dX4_readEntries_93 (by decide) ?_
                        refine lv_goto (tgt := 98) hx hb dX4_readEntries_94 (by decide) ?_
                        refine g_I (k_V (q0 := 0) (ci := 4) (n := 1) (As := [.int (bI true)]) (rest := []) (wc := [ob x 4 [.int (nI L), .ref g1, .int (nI p278), .int (nI n278), .int (nI np278), .int (nI rr), .ref g2, .ref g3], arC G g1 100 (fun j => nI (t j)), ar G g2 24 (fun j => nI (td j)), ar G g3 384 (fun j => nI (tv2 j))]) hx hb hml hown hts (c_X4_allowNumber (l := l) (G := G) (x := x) (g1 := g1) (g2 := g2) (g3 := g3) (L := L) (pl := p278) (nu := n278) (np := np278) (rr := rr) (t := t) (td := td) (tv := tv2) (hL := by first | assumption | omega) (hpl := by first | assumption | omega) (ht := by first | assumption | omega) (okb := true))  gX4_readEntries_X4_allowNumber rfl rfl rfl (by decide +kernel) ⟨Nat.le_of_ble_eq_true rfl, Nat.le_of_ble_eq_true rfl⟩ rfl hK hP hD [0, 1, 2, 3] rfl (by decide)  rfl rfl rfl hl.1 rfl (Nat.le_of_ble_eq_true rfl) dX4_readEntries_98 ⟨Nat.le_of_ble_eq_true rfl, Nat.le_of_ble_eq_true rfl⟩) hP hD hS [0, 1, 2, 3] rfl (fun r98 H locs hB98 back hS => ?_)
                        obtain ⟨p298, he98, hp298, hP1⟩ := hB98
                        obtain rfl := Eq.symm he98
                        obtain ⟨hP, hD⟩ := back [ob x 4 [.int (nI L), .ref g1, .int (nI p298), .int (nI n278), .int (nI np278), .int (nI rr), .ref g2, .ref g3], arC G g1 100 (fun j => nI (t j)), ar G g2 24 (fun j => nI (td j)), ar G g3 384 (fun j => nI (tv2 j))] rfl hP1
                        have hP : va_P G.1 vwCl [ob x 4 [.int (nI L), .ref g1, .int (nI p298), .int (nI n278), .int (nI np278), .int (nI rr), .ref g2, .ref g3], arC G g1 100 (fun j => nI (t j)), ar G g2 24 (fun j => nI (td j)), ar G g3 384 (fun j => nI (tv2 j))] H := hP
                        have hD : va_D A [ob x 4 [.int (nI L), .ref g1, .int (nI p298), .int (nI n278), .int (nI np278), .int (nI rr), .ref g2, .ref g3], arC G g1 100 (fun j => nI (t j)), ar G g2 24 (fun j => nI (td j)), ar G g3 384 (fun j => nI (tv2 j))] := hD
                        refine r_if_ne (P := true = false) (tgt := 106) hx hb dX4_readEntries_101 (by decide) (bI_eq0) (fun cq101 => ?_) (fun cq101 => ?_)
                        · have e98 : p298 = nmP t L (sk t L (sk t L (nmP t L (sk t L pp)) + 1)) := by rw [hp298, if_pos rfl, hp278, e71]
                          have hp98 : p298 ≤ L := by rw [hp298, if_pos rfl]; exact hp378
                          have E := enO_6 (d := d) (bf := bf) O1 C1 S1 O2 (fun z => cq90 (by rw [v2]; exact z))
                          rw [← e98, ← v1, ← v2] at E
                          have c16 : n224 < 16 := by rw [v1]; exact C1.1
                          have htv3 : ∀ k, va_up tv2 (r * 16 + n224) n278 k < 100 := up_all (P := fun z => z < 100) htv2 l2
                          refine lv_aload_n hx hb dX4_readEntries_106 rfl (lv_at hl 1 rfl) ?_
                          refine va_get (D := G.1) (ci := 4) (v := .ref g3) (C := RX4) (T := TX4) (N := 8) hx hb hts iqX4_readEntries_X4 hown hK.1 hP 0 rfl rfl 7 (by decide) (hts (.fieldLink RX4 35 "PushedTables$Text" "values" "[I") (List.mem_of_getElem? (i := 2) rfl)) (fun _ h9 => h9) rfl dX4_readEntries_107 ?_
                          refine lv_iload_n hx hb dX4_readEntries_110 rfl (lv_at hl 2 rfl) ?_
                          refine lv_bipush (v := (nI 16)) hx hb dX4_readEntries_111 (by decide) ?_
                          refine r_imul (v := r * 16) hx hb dX4_readEntries_113 rfl ?_
                          refine lv_iload hx hb dX4_readEntries_114 (lv_at hl 0 rfl) ?_
                          refine r_iadd (v := (r * 16) + n224) hx hb dX4_readEntries_116 rfl ?_
                          refine lv_aload_n hx hb dX4_readEntries_117 rfl (lv_at hl 1 rfl) ?_
                          refine va_get (D := G.1) (ci := 4) (v := .int (nI n278)) (C := RX4) (T := TX4) (N := 8) hx hb hts iqX4_readEntries_X4 hown hK.1 hP 0 rfl rfl 3 (by decide) (hts (.fieldLink RX4 22 "PushedTables$Text" "number" "I") (List.mem_of_getElem? (i := 1) rfl)) (fun _ h9 => h9) rfl dX4_readEntries_118 ?_
                          refine g_V (k_SN (n := 3) (As := [.ref g3, .int (nI ((r * 16) + n224)), .int (nI n278)]) (rest := []) (wc := [ar G g3 384 (fun j => nI (tv2 j))]) hx hb hml hown hts (c_X5_putAt_n (l := l) (G := G) (a := g3) (N := 384) (k := (r * 16) + n224) (x := n278) (f := tv2) (hN := by first | assumption | omega) (hk := by first | assumption | omega))  gX4_readEntries_X5_putAt_n42 hK.2.2.2.2.2.2.2.2.1 (hts (.initialized RX5) (List.mem_of_getElem? (i := 33) rfl)) (hts (.static yX5_putAt) (List.mem_of_getElem? (i := 39) rfl)) rfl rfl rfl (by decide +kernel) ⟨Nat.le_of_ble_eq_true rfl, Nat.le_of_ble_eq_true rfl⟩ rfl hK hP hD [3] rfl (by decide)  hl.1 rfl (Nat.le_of_ble_eq_true rfl) dX4_readEntries_121 ⟨Nat.le_of_ble_eq_true rfl, Nat.le_of_ble_eq_true rfl⟩) hP hD hS [3] rfl (fun H locs hB121 back hS => ?_)
                          have hP1 := hB121
                          obtain ⟨hP, hD⟩ := back [ar G g3 384 (fun j => nI ((va_up tv2 ((r * 16) + n224) n278) j))] rfl hP1
                          have hP : va_P G.1 vwCl [ob x 4 [.int (nI L), .ref g1, .int (nI p298), .int (nI n278), .int (nI np278), .int (nI rr), .ref g2, .ref g3], arC G g1 100 (fun j => nI (t j)), ar G g2 24 (fun j => nI (td j)), ar G g3 384 (fun j => nI ((va_up tv2 ((r * 16) + n224) n278) j))] H := hP
                          have hD : va_D A [ob x 4 [.int (nI L), .ref g1, .int (nI p298), .int (nI n278), .int (nI np278), .int (nI rr), .ref g2, .ref g3], arC G g1 100 (fun j => nI (t j)), ar G g2 24 (fun j => nI (td j)), ar G g3 384 (fun j => nI ((va_up tv2 ((r * 16) + n224) n278) j))] := hD
                          refine lv_aload_n hx hb dX4_readEntries_124 rfl (lv_at hl 1 rfl) ?_
                          refine lv_bipush (v := (nI 59)) hx hb dX4_readEntries_125 (by decide) ?_
                          refine g_I (k_V (q0 := 0) (ci := 4) (n := 1) (As := [.int (nI 59)]) (rest := []) (wc := [ob x 4 [.int (nI L), .ref g1, .int (nI p298), .int (nI n278), .int (nI np278), .int (nI rr), .ref g2, .ref g3], arC G g1 100 (fun j => nI (t j)), ar G g2 24 (fun j => nI (td j)), ar G g3 384 (fun j => nI ((va_up tv2 ((r * 16) + n224) n278) j))]) hx hb hml hown hts (c_X4_takeSign (l := l) (G := G) (x := x) (g1 := g1) (g2 := g2) (g3 := g3) (L := L) (pl := p298) (nu := n278) (np := np278) (rr := rr) (t := t) (td := td) (tv := va_up tv2 ((r * 16) + n224) n278) (hL := by first | assumption | omega) (hpl := by first | assumption | omega) (ht := by first | assumption | omega) (w := 59) (hw := by first | assumption | omega) (hw0 := by first | assumption | omega))  gX4_readEntries_X4_takeSign rfl rfl rfl (by decide +kernel) ⟨Nat.le_of_ble_eq_true rfl, Nat.le_of_ble_eq_true rfl⟩ rfl hK hP hD [0, 1, 2, 3] rfl (by decide)  rfl rfl rfl hl.1 rfl (Nat.le_of_ble_eq_true rfl) dX4_readEntries_127 ⟨Nat.le_of_ble_eq_true rfl, Nat.le_of_ble_eq_true rfl⟩) hP hD hS [0, 1, 2, 3] rfl (fun r127 H locs hB127 back hS => ?_)
                          obtain ⟨p2127, he127, hp2127, hp3127, hP1⟩ := hB127
                          obtain rfl := Eq.symm he127
                          obtain ⟨hP, hD⟩ := back [ob x 4 [.int (nI L), .ref g1, .int (nI p2127), .int (nI n278), .int (nI np278), .int (nI rr), .ref g2, .ref g3], arC G g1 100 (fun j => nI (t j)), ar G g2 24 (fun j => nI (td j)), ar G g3 384 (fun j => nI ((va_up tv2 ((r * 16) + n224) n278) j))] rfl hP1
                          have hP : va_P G.1 vwCl [ob x 4 [.int (nI L), .ref g1, .int (nI p2127), .int (nI n278), .int (nI np278), .int (nI rr), .ref g2, .ref g3], arC G g1 100 (fun j => nI (t j)), ar G g2 24 (fun j => nI (td j)), ar G g3 384 (fun j => nI ((va_up tv2 ((r * 16) + n224) n278) j))] H := hP
                          have hD : va_D A [ob x 4 [.int (nI L), .ref g1, .int (nI p2127), .int (nI n278), .int (nI np278), .int (nI rr), .ref g2, .ref g3], arC G g1 100 (fun j => nI (t j)), ar G g2 24 (fun j => nI (td j)), ar G g3 384 (fun j => nI ((va_up tv2 ((r * 16) + n224) n278) j))] := hD
                          refine r_if_eq (P := (decide (sg t L (sk t L p298) = 59)) = false) (tgt := 135) hx hb dX4_readEntries_130 (by decide) (bI_eq0) (fun cq130 => ?_) (fun cq130 => ?_)
                          · have N1 := of_decide_eq_false cq130
                            have e127 : p2127 = sk t L p298 := by rw [hp2127, if_neg N1]
                            refine lv_aload_n hx hb dX4_readEntries_135 rfl (lv_at hl 1 rfl) ?_
                            refine lv_bipush (v := (nI 44)) hx hb dX4_readEntries_136 (by decide) ?_
                            refine g_I (k_V (q0 := 0) (ci := 4) (n := 1) (As := [.int (nI 44)]) (rest := []) (wc := [ob x 4 [.int (nI L), .ref g1, .int (nI p2127), .int (nI n278), .int (nI np278), .int (nI rr), .ref g2, .ref g3], arC G g1 100 (fun j => nI (t j)), ar G g2 24 (fun j => nI (td j)), ar G g3 384 (fun j => nI ((va_up tv2 ((r * 16) + n224) n278) j))]) hx hb hml hown hts (c_X4_takeSign (l := l) (G := G) (x := x) (g1 := g1) (g2 := g2) (g3 := g3) (L := L) (pl := p2127) (nu := n278) (np := np278) (rr := rr) (t := t) (td := td) (tv := (va_up tv2 ((r * 16) + n224) n278)) (hL := by first | assumption | omega) (hpl := by first | assumption | omega) (ht := by first | assumption | omega) (w := 44) (hw := by first | assumption | omega) (hw0 := by first | assumption | omega))  gX4_readEntries_X4_takeSign rfl rfl rfl (by decide +kernel) ⟨Nat.le_of_ble_eq_true rfl, Nat.le_of_ble_eq_true rfl⟩ rfl hK hP hD [0, 1, 2, 3] rfl (by decide)  rfl rfl rfl hl.1 rfl (Nat.le_of_ble_eq_true rfl) dX4_readEntries_138 ⟨Nat.le_of_ble_eq_true rfl, Nat.le_of_ble_eq_true rfl⟩) hP hD hS [0, 1, 2, 3] rfl (fun r138 H locs hB138 back hS => ?_)
                            obtain ⟨p2138, he138, hp2138, hp3138, hP1⟩ := hB138
                            obtain rfl := Eq.symm he138
                            obtain ⟨hP, hD⟩ := back [ob x 4 [.int (nI L), .ref g1, .int (nI p2138), .int (nI n278), .int (nI np278), .int (nI rr), .ref g2, .ref g3], arC G g1 100 (fun j => nI (t j)), ar G g2 24 (fun j => nI (td j)), ar G g3 384 (fun j => nI ((va_up tv2 ((r * 16) + n224) n278) j))] rfl hP1
                            have hP : va_P G.1 vwCl [ob x 4 [.int (nI L), .ref g1, .int (nI p2138), .int (nI n278), .int (nI np278), .int (nI rr), .ref g2, .ref g3], arC G g1 100 (fun j => nI (t j)), ar G g2 24 (fun j => nI (td j)), ar G g3 384 (fun j => nI ((va_up tv2 ((r * 16) + n224) n278) j))] H := hP
                            have hD : va_D A [ob x 4 [.int (nI L), .ref g1, .int (nI p2138), .int (nI n278), .int (nI np278), .int (nI rr), .ref g2, .ref g3], arC G g1 100 (fun j => nI (t j)), ar G g2 24 (fun j => nI (td j)), ar G g3 384 (fun j => nI ((va_up tv2 ((r * 16) + n224) n278) j))] := hD
                            refine r_if_ne (P := (decide (sg t L (sk t L p2127) = 44)) = false) (tgt := 146) hx hb dX4_readEntries_141 (by decide) (bI_eq0) (fun cq141 => ?_) (fun cq141 => ?_)
                            · have M1 := of_decide_eq_true (Bool.of_not_eq_false cq141)
                              rw [e127, sk_sk] at hp2138 M1
                              have e138 : p2138 = sk t L p298 + 1 := by rw [hp2138, if_pos M1]
                              refine lv_iload hx hb dX4_readEntries_146 (lv_at hl 0 rfl) ?_
                              refine r_top (y := (e1 n224)) ((e1_n (by omega)).symm) ?_
                              refine lv_istore_n (lv' := [(3, .int (e1 n224)), (5, .int (nI n224)), (0, .ref x), (1, .int (nI r)), (2, .int (nI d)), (4, .int (nI tn))]) hx hb dX4_readEntries_148 rfl hl (by decide) rfl (fun ls hl => ?_)
                              refine r_iinc (v := tn + 1) (lv' := [(4, .int (nI (tn + 1))), (3, .int (e1 n224)), (5, .int (nI n224)), (0, .ref x), (1, .int (nI r)), (2, .int (nI d))]) hx hb dX4_readEntries_149 hl (k := 5) rfl (nI_1 _) (by decide) rfl (fun ls hl => ?_)
                              refine lv_goto (tgt := 16) hx hb dX4_readEntries_152 (by decide) ?_
                              exact ih16 n224 (tn + 1) p2138 n278 np278 (va_up tv2 ((r * 16) + n224) n278) (by omega) (hp3138) (by have := Classical.not_not.mp cq46; omega) (htv3) (fun n R hR => hI (n + 1) R (by rw [ens_c E N1 M1, ← e138]; exact hR)) _ _ hP hD hS ls (lv_sub hl [3, 4, 5, 1, 0] rfl)
                            · have M2 := of_decide_eq_false cq141
                              rw [e127, sk_sk] at hp2138 M2
                              refine lv_iconst (v := (nI 0)) hx hb dX4_readEntries_144 (by decide) ?_
                              exact hret _ _ _ _ _ hS dX4_readEntries_145 (⟨false, p2138, n278, np278, (va_up tv2 ((r * 16) + n224) n278), rfl, hI 1 _ (by rw [ens_x E N1 M2, hp2138, if_neg M2]), hp3138, htv3, hP⟩)
                          · have Y1 := of_decide_eq_true (Bool.of_not_eq_false cq130)
                            refine lv_iconst (v := (nI 1)) hx hb dX4_readEntries_133 (by decide) ?_
                            exact hret _ _ _ _ _ hS dX4_readEntries_134 (⟨true, p2127, n278, np278, (va_up tv2 ((r * 16) + n224) n278), rfl, hI 1 _ (by rw [ens_e E Y1, hp2127, if_pos Y1]), hp3127, htv3, hP⟩)
                        · exact absurd cq101 (by decide)
                · exact absurd cq57 (by decide)
    exact L16 ((17 - 0) + 1) 1000 0 p23 nu np tv (Nat.lt_succ_self _) (hp33) (Or.inl ⟨rfl, rfl⟩) (htv) (fun n R hR => ⟨n, by unfold reE; rw [if_neg N0, ← e3]; exact hR⟩) _ _ hP hD hS ls (lv_sub hl [2, 3, 4, 1, 0] rfl)
  · have Y0 := of_decide_eq_true (Bool.of_not_eq_false cq6)
    refine lv_iconst (v := (nI 1)) hx hb dX4_readEntries_9 (by decide) ?_
    exact hret _ _ _ _ _ hS dX4_readEntries_10 (⟨true, p23, nu, np, tv, rfl, ⟨0, by unfold reE; rw [if_pos Y0, hp23, if_pos Y0]⟩, hp33, by assumption, hP⟩)

/-- a row's cells with a value, c columns -/
def bgV (tv : Nat → Nat) (r d c : Nat) : Nat → Nat := fun j => if r * 16 ≤ j ∧ j < r * 16 + c then d else tv j
theorem bgV_0 {tv : Nat → Nat} {r d : Nat} : tv = bgV tv r d 0 := by
  funext j; unfold bgV; rw [if_neg]; omega
theorem bgV_s {tv : Nat → Nat} {r d c : Nat} : va_up (bgV tv r d c) (r * 16 + c) d = bgV tv r d (c + 1) := by
  funext j; unfold va_up bgV
  by_cases e : j = r * 16 + c
  · subst e; rw [if_pos rfl, if_pos ⟨by omega, by omega⟩]
  · rw [if_neg e]
    by_cases q : r * 16 ≤ j ∧ j < r * 16 + c
    · rw [if_pos q, if_pos ⟨q.1, by omega⟩]
    · rw [if_neg q, if_neg (fun z => q ⟨z.1, by omega⟩)]
theorem bgV_16 {tv : Nat → Nat} {r d : Nat} : bgV tv r d 16 = fl16 tv r d := by
  funext j; unfold bgV fl16; rw [show (r + 1) * 16 = r * 16 + 16 by omega]
theorem iqX4_beginRow_X4 : ∀ w ∈ u_ws RX4 TX4 8, w ∈ wsX4_beginRow := by decide +kernel
set_option maxHeartbeats 1000000 in
set_option maxRecDepth 100000 in
theorem c_X4_beginRow (l : Launch) (G : kG) (x g1 g2 g3 L pl nu np rr : Nat) (t td tv : Nat → Nat) (r d : Nat) (hr : r < 24) : Met l yX4_beginRow wsX4_beginRow ({ frames := 1, cells := 0, slots := 0, locals := 22 } : Room) (cP G [.ref x, .int (nI r), .int (nI d)] [ob x 4 [.int (nI L), .ref g1, .int (nI pl), .int (nI nu), .int (nI np), .int (nI rr), .ref g2, .ref g3], arC G g1 100 (fun j => nI (t j)), ar G g2 24 (fun j => nI (td j)), ar G g3 384 (fun j => nI (tv j))]) (qV (fun H => va_P G.1 vwCl [ob x 4 [.int (nI L), .ref g1, .int (nI pl), .int (nI nu), .int (nI np), .int (nI rr), .ref g2, .ref g3], arC G g1 100 (fun j => nI (t j)), ar G g2 24 (fun j => nI ((va_up td r d) j)), ar G g3 384 (fun j => nI ((fl16 tv r d) j))] H) (mA [ob x 4 [.int (nI L), .ref g1, .int (nI pl), .int (nI nu), .int (nI np), .int (nI rr), .ref g2, .ref g3], arC G g1 100 (fun j => nI (t j)), ar G g2 24 (fun j => nI (td j)), ar G g3 384 (fun j => nI (tv j))])) 0 0 (mA [ob x 4 [.int (nI L), .ref g1, .int (nI pl), .int (nI nu), .int (nI np), .int (nI rr), .ref g2, .ref g3], arC G g1 100 (fun j => nI (t j)), ar G g2 24 (fun j => nI (td j)), ar G g3 384 (fun j => nI (tv j))]) := by
  refine met_muV (cc := cX4_beginRow) (maxL := 4) (own := RX4) (by decide) rfl rfl (Nat.le_of_ble_eq_true rfl) ?_
  intro p e s m args below meth cod Q A hx hb hml hown hts hK hP hD hS hret ls hl
  have hl : lv_has ls 4 [(0, .ref x), (1, .int (nI r)), (2, .int (nI d))] := hl
  refine lv_aload_n hx hb dX4_beginRow_0 rfl (lv_at hl 0 rfl) ?_
  refine va_get (D := G.1) (ci := 4) (v := .ref g2) (C := RX4) (T := TX4) (N := 8) hx hb hts iqX4_beginRow_X4 hown hK.1 hP 0 rfl rfl 6 (by decide) (hts (.fieldLink RX4 31 "PushedTables$Text" "defaults" "[I") (List.mem_of_getElem? (i := 1) rfl)) (fun _ h9 => h9) rfl dX4_beginRow_1 ?_
  refine lv_iload_n hx hb dX4_beginRow_4 rfl (lv_at hl 1 rfl) ?_
  refine lv_iload_n hx hb dX4_beginRow_5 rfl (lv_at hl 2 rfl) ?_
  refine g_V (k_SN (n := 3) (As := [.ref g2, .int (nI r), .int (nI d)]) (rest := []) (wc := [ar G g2 24 (fun j => nI (td j))]) hx hb hml hown hts (c_X5_putAt_n (l := l) (G := G) (a := g2) (N := 24) (k := r) (x := d) (f := td) (hN := by first | assumption | omega) (hk := by first | assumption | omega))  gX4_beginRow_X5_putAt_n42 hK.2.2.2.2.2.2.2.2.1 (hts (.initialized RX5) (List.mem_of_getElem? (i := 4) rfl)) (hts (.static yX5_putAt) (List.mem_of_getElem? (i := 3) rfl)) rfl rfl rfl (by decide +kernel) ⟨Nat.le_of_ble_eq_true rfl, Nat.le_of_ble_eq_true rfl⟩ rfl hK hP hD [2] rfl (by decide)  hl.1 rfl (Nat.le_of_ble_eq_true rfl) dX4_beginRow_6 ⟨Nat.le_of_ble_eq_true rfl, Nat.le_of_ble_eq_true rfl⟩) hP hD hS [2] rfl (fun H locs hB6 back hS => ?_)
  have hP1 := hB6
  obtain ⟨hP, hD⟩ := back [ar G g2 24 (fun j => nI ((va_up td r d) j))] rfl hP1
  have hP : va_P G.1 vwCl [ob x 4 [.int (nI L), .ref g1, .int (nI pl), .int (nI nu), .int (nI np), .int (nI rr), .ref g2, .ref g3], arC G g1 100 (fun j => nI (t j)), ar G g2 24 (fun j => nI ((va_up td r d) j)), ar G g3 384 (fun j => nI (tv j))] H := hP
  have hD : va_D A [ob x 4 [.int (nI L), .ref g1, .int (nI pl), .int (nI nu), .int (nI np), .int (nI rr), .ref g2, .ref g3], arC G g1 100 (fun j => nI (t j)), ar G g2 24 (fun j => nI ((va_up td r d) j)), ar G g3 384 (fun j => nI (tv j))] := hD
  refine lv_iconst (v := (nI 0)) hx hb dX4_beginRow_9 (by decide) ?_
  refine lv_istore_n (lv' := [(3, .int (nI 0)), (0, .ref x), (1, .int (nI r)), (2, .int (nI d))]) hx hb dX4_beginRow_10 rfl hl (by decide) rfl (fun ls hl => ?_)
  have L11 : ∀ (fu : Nat) (c : Nat) (gv : Nat → Nat), 17 - c < fu → c ≤ 16 → gv = bgV tv r d c → ∀ (H : Heap) (locs : List Loc), va_P G.1 vwCl [ob x 4 [.int (nI L), .ref g1, .int (nI pl), .int (nI nu), .int (nI np), .int (nI rr), .ref g2, .ref g3], arC G g1 100 (fun j => nI (t j)), ar G g2 24 (fun j => nI ((va_up td r d) j)), ar G g3 384 (fun j => nI (gv j))] H → va_D A [ob x 4 [.int (nI L), .ref g1, .int (nI pl), .int (nI nu), .int (nI np), .int (nI rr), .ref g2, .ref g3], arC G g1 100 (fun j => nI (t j)), ar G g2 24 (fun j => nI ((va_up td r d) j)), ar G g3 384 (fun j => nI (gv j))] → va_S A s.heap H locs → ∀ (ls : Array Slot), lv_has ls 4 [(0, .ref x), (1, .int (nI r)), (2, .int (nI d)), (3, .int (nI c))] → W p l e ({ frames := 1, cells := 0, slots := 0, locals := 22 } : Room) s m args below meth cod H locs 0 0 Q (F0 m 11 ls []) := by
    intro fu
    induction fu with
    | zero => intro c gv hm; exact absurd hm (Nat.not_lt_zero _)
    | succ fu ih11 =>
      intro c gv hm11 hc hg H locs hP hD hS ls hl
      have hP : va_P G.1 vwCl [ob x 4 [.int (nI L), .ref g1, .int (nI pl), .int (nI nu), .int (nI np), .int (nI rr), .ref g2, .ref g3], arC G g1 100 (fun j => nI (t j)), ar G g2 24 (fun j => nI ((va_up td r d) j)), ar G g3 384 (fun j => nI (gv j))] H := hP
      have hD : va_D A [ob x 4 [.int (nI L), .ref g1, .int (nI pl), .int (nI nu), .int (nI np), .int (nI rr), .ref g2, .ref g3], arC G g1 100 (fun j => nI (t j)), ar G g2 24 (fun j => nI ((va_up td r d) j)), ar G g3 384 (fun j => nI (gv j))] := hD
      refine lv_iload_n hx hb dX4_beginRow_11 rfl (lv_at hl 3 rfl) ?_
      refine lv_bipush (v := (nI 16)) hx hb dX4_beginRow_12 (by decide) ?_
      refine r_icmp_ge (P := 16 ≤ c) (tgt := 37) hx hb dX4_beginRow_14 (by decide) (nI_leI (by omega) (by omega)) (fun cq14 => ?_) (fun cq14 => ?_)
      · obtain rfl : c = 16 := by omega
        rw [bgV_16] at hg
        subst hg
        exact hret _ _ _ _ hS dX4_beginRow_37 (hP)
      · refine lv_aload_n hx hb dX4_beginRow_17 rfl (lv_at hl 0 rfl) ?_
        refine va_get (D := G.1) (ci := 4) (v := .ref g3) (C := RX4) (T := TX4) (N := 8) hx hb hts iqX4_beginRow_X4 hown hK.1 hP 0 rfl rfl 7 (by decide) (hts (.fieldLink RX4 35 "PushedTables$Text" "values" "[I") (List.mem_of_getElem? (i := 2) rfl)) (fun _ h9 => h9) rfl dX4_beginRow_18 ?_
        refine lv_iload_n hx hb dX4_beginRow_21 rfl (lv_at hl 1 rfl) ?_
        refine lv_bipush (v := (nI 16)) hx hb dX4_beginRow_22 (by decide) ?_
        refine r_imul (v := r * 16) hx hb dX4_beginRow_24 rfl ?_
        refine lv_iload_n hx hb dX4_beginRow_25 rfl (lv_at hl 3 rfl) ?_
        refine r_iadd (v := (r * 16) + c) hx hb dX4_beginRow_26 rfl ?_
        refine lv_iload_n hx hb dX4_beginRow_27 rfl (lv_at hl 2 rfl) ?_
        refine g_V (k_SN (n := 3) (As := [.ref g3, .int (nI ((r * 16) + c)), .int (nI d)]) (rest := []) (wc := [ar G g3 384 (fun j => nI (gv j))]) hx hb hml hown hts (c_X5_putAt_n (l := l) (G := G) (a := g3) (N := 384) (k := (r * 16) + c) (x := d) (f := gv) (hN := by first | assumption | omega) (hk := by first | assumption | omega))  gX4_beginRow_X5_putAt_n42 hK.2.2.2.2.2.2.2.2.1 (hts (.initialized RX5) (List.mem_of_getElem? (i := 4) rfl)) (hts (.static yX5_putAt) (List.mem_of_getElem? (i := 3) rfl)) rfl rfl rfl (by decide +kernel) ⟨Nat.le_of_ble_eq_true rfl, Nat.le_of_ble_eq_true rfl⟩ rfl hK hP hD [3] rfl (by decide)  hl.1 rfl (Nat.le_of_ble_eq_true rfl) dX4_beginRow_28 ⟨Nat.le_of_ble_eq_true rfl, Nat.le_of_ble_eq_true rfl⟩) hP hD hS [3] rfl (fun H locs hB28 back hS => ?_)
        have hP1 := hB28
        obtain ⟨hP, hD⟩ := back [ar G g3 384 (fun j => nI ((va_up gv ((r * 16) + c) d) j))] rfl hP1
        have hP : va_P G.1 vwCl [ob x 4 [.int (nI L), .ref g1, .int (nI pl), .int (nI nu), .int (nI np), .int (nI rr), .ref g2, .ref g3], arC G g1 100 (fun j => nI (t j)), ar G g2 24 (fun j => nI ((va_up td r d) j)), ar G g3 384 (fun j => nI ((va_up gv ((r * 16) + c) d) j))] H := hP
        have hD : va_D A [ob x 4 [.int (nI L), .ref g1, .int (nI pl), .int (nI nu), .int (nI np), .int (nI rr), .ref g2, .ref g3], arC G g1 100 (fun j => nI (t j)), ar G g2 24 (fun j => nI ((va_up td r d) j)), ar G g3 384 (fun j => nI ((va_up gv ((r * 16) + c) d) j))] := hD
        refine r_iinc (v := c + 1) (lv' := [(3, .int (nI (c + 1))), (0, .ref x), (1, .int (nI r)), (2, .int (nI d))]) hx hb dX4_beginRow_31 hl (k := 3) rfl (nI_1 _) (by decide) rfl (fun ls hl => ?_)
        refine lv_goto (tgt := 11) hx hb dX4_beginRow_34 (by decide) ?_
        exact ih11 (c + 1) (va_up gv ((r * 16) + c) d) (by omega) (by omega) (by rw [hg]; exact bgV_s) _ _ hP hD hS ls (lv_sub hl [1, 2, 3, 0] rfl)
  exact L11 ((17 - 0) + 1) 0 tv (Nat.lt_succ_self _) (by omega) (bgV_0) _ _ hP hD hS ls (lv_sub hl [1, 2, 3, 0] rfl)

theorem dfV_f {t : Nat → Nat} {L p : Nat} (h : dg t L p = false) : dfV t L p = 0 := by unfold dfV; rw [h]; rfl
theorem dfV_t {t : Nat → Nat} {L p : Nat} (h : dg t L p = true) : dfV t L p = nmV t L p := by unfold dfV; rw [h]; rfl
theorem dfP_f {t : Nat → Nat} {L p : Nat} (h : dg t L p = false) : dfP t L p = p := by unfold dfP; rw [h]; rfl
theorem dfP_t {t : Nat → Nat} {L p : Nat} (h : dg t L p = true) : dfP t L p = nmP t L p := by unfold dfP; rw [h]; rfl
theorem dfO_f {t : Nat → Nat} {L p : Nat} (h : dg t L p = false) : dfO t L p = true := by unfold dfO; rw [h]; rfl
theorem dfO_t {t : Nat → Nat} {L p : Nat} (h : nmO t L p = true) : dfO t L p = true := by unfold dfO; rw [h, Bool.or_true]
theorem dfO_n {t : Nat → Nat} {L p : Nat} (h : dg t L p = true) (h2 : nmO t L p = false) : dfO t L p = false := by unfold dfO; rw [h, h2]; rfl
theorem fl16_lt {tv : Nat → Nat} {r d : Nat} (h : ∀ k, tv k < 100) (hd : d < 100) : ∀ k, fl16 tv r d k < 100 := fun k => by
  unfold fl16; split
  · exact hd
  · exact h k
theorem rwE_2 {t tv : Nat → Nat} {L r p q dv : Nat} (h : dfO t L p = true) (h2 : ¬ sg t L (sk t L (dfP t L p)) = 58) (e : q = sk t L (dfP t L p)) (hd : dv = dfV t L p) : ∃ n, rwE t L r n p tv = some (false, q, fl16 tv r dv) := by
  refine ⟨0, ?_⟩
  unfold rwE
  rw [if_neg (by rw [h]; decide), if_pos h2, e, hd]
theorem rwE_5 {t tv : Nat → Nat} {L r p q q2 dv : Nat} {b : Bool} {tv2 : Nat → Nat} (h : dfO t L p = true) (h2 : sg t L (sk t L (dfP t L p)) = 58) (e : q = sk t L (dfP t L p) + 1) (hd : dv = dfV t L p) {d : Nat} (hE : ∃ n, reE t L d r n q (fl16 tv r dv) = some (b, q2, tv2)) (e2 : d = dv) : ∃ n, rwE t L r n p tv = some (b, q2, tv2) := by
  obtain ⟨n, hn⟩ := hE
  refine ⟨n, ?_⟩
  unfold rwE
  rw [if_neg (by rw [h]; decide), if_neg (fun z => z h2), ← e, ← hd, ← e2]
  rw [e2] at hn ⊢
  exact hn
theorem rwE_3 {t tv : Nat → Nat} {L r p q q2 dv : Nat} {b : Bool} {tv2 : Nat → Nat} (h : dfO t L p = true) (h2 : sg t L (sk t L (dfP t L p)) = 58) (e : q = sk t L (dfP t L p) + 1) (hd : dv = dfV t L p) {d : Nat} (hE : ∃ n, reE t L d r n q (fl16 tv r dv) = some (b, q2, tv2)) (e2 : d = dv) (hb : b = false) : ∃ n, rwE t L r n p tv = some (false, q2, tv2) := by
  rw [← hb]; exact rwE_5 h h2 e hd hE e2
theorem rwE_4 {t tv : Nat → Nat} {L r p q q2 dv : Nat} {b : Bool} {tv2 : Nat → Nat} (h : dfO t L p = true) (h2 : sg t L (sk t L (dfP t L p)) = 58) (e : q = sk t L (dfP t L p) + 1) (hd : dv = dfV t L p) {d : Nat} (hE : ∃ n, reE t L d r n q (fl16 tv r dv) = some (b, q2, tv2)) (e2 : d = dv) (hb : b = true) : ∃ n, rwE t L r n p tv = some (true, q2, tv2) := by
  rw [← hb]; exact rwE_5 h h2 e hd hE e2
theorem iqX4_readRow_X4 : ∀ w ∈ u_ws RX4 TX4 8, w ∈ wsX4_readRow := by decide +kernel
set_option maxHeartbeats 1000000 in
set_option maxRecDepth 100000 in
theorem c_X4_readRow (l : Launch) (G : kG) (x g1 g2 g3 L pl nu np rr : Nat) (t td tv : Nat → Nat) (hL : L ≤ 100) (hpl : pl ≤ L) (ht : ∀ k, t k < 256) (r : Nat) (hr : r < 24) (hsk : sk t L pl = pl) (htd : ∀ k, td k < 100) (htv : ∀ k, tv k < 100) : Met l yX4_readRow wsX4_readRow ({ frames := 4, cells := 0, slots := 0, locals := 86 } : Room) (cP G [.ref x, .int (nI r)] [ob x 4 [.int (nI L), .ref g1, .int (nI pl), .int (nI nu), .int (nI np), .int (nI rr), .ref g2, .ref g3], arC G g1 100 (fun j => nI (t j)), ar G g2 24 (fun j => nI (td j)), ar G g3 384 (fun j => nI (tv j))]) (qI (fun rv H => ∃ (ok2 : Bool) (p2 : Nat) (n2 : Nat) (np2 : Nat) (td2 : Nat → Nat) (tv2 : Nat → Nat), rv = (bI ok2) ∧ (∃ n, rwE t L r n pl tv = some (ok2, p2, tv2)) ∧ p2 ≤ L ∧ (ok2 = true → td2 = va_up td r (dfV t L pl)) ∧ (∀ k, td2 k < 100) ∧ (∀ k, tv2 k < 100) ∧ va_P G.1 vwCl [ob x 4 [.int (nI L), .ref g1, .int (nI p2), .int (nI n2), .int (nI np2), .int (nI rr), .ref g2, .ref g3], arC G g1 100 (fun j => nI (t j)), ar G g2 24 (fun j => nI (td2 j)), ar G g3 384 (fun j => nI (tv2 j))] H) (mA [ob x 4 [.int (nI L), .ref g1, .int (nI pl), .int (nI nu), .int (nI np), .int (nI rr), .ref g2, .ref g3], arC G g1 100 (fun j => nI (t j)), ar G g2 24 (fun j => nI (td j)), ar G g3 384 (fun j => nI (tv j))])) 0 0 (mA [ob x 4 [.int (nI L), .ref g1, .int (nI pl), .int (nI nu), .int (nI np), .int (nI rr), .ref g2, .ref g3], arC G g1 100 (fun j => nI (t j)), ar G g2 24 (fun j => nI (td j)), ar G g3 384 (fun j => nI (tv j))]) := by
  refine met_muI (cc := cX4_readRow) (maxL := 3) (ty := .boolean) (own := RX4) (by decide) rfl rfl (fun _ _ h => by obtain ⟨_, _, _, _, _, _, rfl, _⟩ := h; exact bI_nar _) (Nat.le_of_ble_eq_true rfl) ?_
  intro p e s m args below meth cod Q A hx hb hml hown hts hK hP hD hS hret ls hl
  have hl : lv_has ls 3 [(0, .ref x), (1, .int (nI r))] := hl
  refine lv_iconst (v := (nI 0)) hx hb dX4_readRow_0 (by decide) ?_
  refine lv_istore_n (lv' := [(2, .int (nI 0)), (0, .ref x), (1, .int (nI r))]) hx hb dX4_readRow_1 rfl hl (by decide) rfl (fun ls hl => ?_)
  refine lv_aload_n hx hb dX4_readRow_2 rfl (lv_at hl 1 rfl) ?_
  refine g_ro (k_V (q0 := 0) (ci := 4) (n := 0) (As := []) (rest := []) (wc := [ob x 4 [.int (nI L), .ref g1, .int (nI pl), .int (nI nu), .int (nI np), .int (nI rr), .ref g2, .ref g3], arC G g1 100 (fun j => nI (t j)), ar G g2 24 (fun j => nI (td j)), ar G g3 384 (fun j => nI (tv j))]) hx hb hml hown hts (c_X4_isDigitHere (l := l) (G := G) (x := x) (g1 := g1) (g2 := g2) (g3 := g3) (L := L) (pl := pl) (nu := nu) (np := np) (rr := rr) (t := t) (td := td) (tv := tv) (hL := by first | assumption | omega) (hpl := by first | assumption | omega) (ht := by first | assumption | omega))  gX4_readRow_X4_isDigitHere rfl rfl rfl (by decide +kernel) ⟨Nat.le_of_ble_eq_true rfl, Nat.le_of_ble_eq_true rfl⟩ rfl hK hP hD [0, 1, 2, 3] rfl (by decide)  rfl rfl rfl hl.1 rfl (Nat.le_of_ble_eq_true rfl) dX4_readRow_3 ⟨Nat.le_of_ble_eq_true rfl, Nat.le_of_ble_eq_true rfl⟩) (fun r3 h3 => ?_)
  obtain rfl : (bI (dg t L pl)) = r3 := Eq.symm h3
  refine r_if_eq (P := (dg t L pl) = false) (tgt := 23) hx hb dX4_readRow_6 (by decide) (bI_eq0) (fun cq6 => ?_) (fun cq6 => ?_)
  · obtain ⟨dv, hdv⟩ : ∃ y, y = dfV t L pl := ⟨_, rfl⟩
    have D1 : dv = 0 := by rw [hdv]; exact dfV_f cq6
    have P1 : pl = dfP t L pl := (dfP_f cq6).symm
    have OK : dfO t L pl = true := dfO_f cq6
    have hd0 : dv < 100 := by omega
    refine lv_aload_n hx hb dX4_readRow_23 rfl (lv_at hl 1 rfl) ?_
    refine lv_iload_n hx hb dX4_readRow_24 rfl (lv_at hl 2 rfl) ?_
    refine lv_iload_n hx hb dX4_readRow_25 rfl (lv_at hl 0 rfl) ?_
    refine r_top (y := (nI dv)) (by rw [D1]) ?_
    refine g_V (k_V (q0 := 0) (ci := 4) (n := 2) (As := [.int (nI r), .int (nI dv)]) (rest := []) (wc := [ob x 4 [.int (nI L), .ref g1, .int (nI pl), .int (nI nu), .int (nI np), .int (nI rr), .ref g2, .ref g3], arC G g1 100 (fun j => nI (t j)), ar G g2 24 (fun j => nI (td j)), ar G g3 384 (fun j => nI (tv j))]) hx hb hml hown hts (c_X4_beginRow (l := l) (G := G) (x := x) (g1 := g1) (g2 := g2) (g3 := g3) (L := L) (pl := pl) (nu := nu) (np := np) (rr := rr) (t := t) (td := td) (tv := tv) (r := r) (d := dv) (hr := by first | assumption | omega))  gX4_readRow_X4_beginRow rfl rfl rfl (by decide +kernel) ⟨Nat.le_of_ble_eq_true rfl, Nat.le_of_ble_eq_true rfl⟩ rfl hK hP hD [0, 1, 2, 3] rfl (by decide)  rfl rfl rfl hl.1 rfl (Nat.le_of_ble_eq_true rfl) dX4_readRow_26 ⟨Nat.le_of_ble_eq_true rfl, Nat.le_of_ble_eq_true rfl⟩) hP hD hS [0, 1, 2, 3] rfl (fun H locs hB26 back hS => ?_)
    have hP1 := hB26
    obtain ⟨hP, hD⟩ := back [ob x 4 [.int (nI L), .ref g1, .int (nI pl), .int (nI nu), .int (nI np), .int (nI rr), .ref g2, .ref g3], arC G g1 100 (fun j => nI (t j)), ar G g2 24 (fun j => nI ((va_up td r dv) j)), ar G g3 384 (fun j => nI ((fl16 tv r dv) j))] rfl hP1
    have hP : va_P G.1 vwCl [ob x 4 [.int (nI L), .ref g1, .int (nI pl), .int (nI nu), .int (nI np), .int (nI rr), .ref g2, .ref g3], arC G g1 100 (fun j => nI (t j)), ar G g2 24 (fun j => nI ((va_up td r dv) j)), ar G g3 384 (fun j => nI ((fl16 tv r dv) j))] H := hP
    have hD : va_D A [ob x 4 [.int (nI L), .ref g1, .int (nI pl), .int (nI nu), .int (nI np), .int (nI rr), .ref g2, .ref g3], arC G g1 100 (fun j => nI (t j)), ar G g2 24 (fun j => nI ((va_up td r dv) j)), ar G g3 384 (fun j => nI ((fl16 tv r dv) j))] := hD
    have tv9 : ∀ k, fl16 tv r dv k < 100 := fl16_lt htv hd0
    have td9 := up_all (P := fun z => z < 100) htd (k := r) (x := dv) hd0
    refine lv_aload_n hx hb dX4_readRow_29 rfl (lv_at hl 1 rfl) ?_
    refine lv_bipush (v := (nI 58)) hx hb dX4_readRow_30 (by decide) ?_
    refine g_I (k_V (q0 := 0) (ci := 4) (n := 1) (As := [.int (nI 58)]) (rest := []) (wc := [ob x 4 [.int (nI L), .ref g1, .int (nI pl), .int (nI nu), .int (nI np), .int (nI rr), .ref g2, .ref g3], arC G g1 100 (fun j => nI (t j)), ar G g2 24 (fun j => nI ((va_up td r dv) j)), ar G g3 384 (fun j => nI ((fl16 tv r dv) j))]) hx hb hml hown hts (c_X4_takeSign (l := l) (G := G) (x := x) (g1 := g1) (g2 := g2) (g3 := g3) (L := L) (pl := pl) (nu := nu) (np := np) (rr := rr) (t := t) (td := (va_up td r dv)) (tv := (fl16 tv r dv)) (hL := by first | assumption | omega) (hpl := by first | assumption | omega) (ht := by first | assumption | omega) (w := 58) (hw := by first | assumption | omega) (hw0 := by first | assumption | omega))  gX4_readRow_X4_takeSign rfl rfl rfl (by decide +kernel) ⟨Nat.le_of_ble_eq_true rfl, Nat.le_of_ble_eq_true rfl⟩ rfl hK hP hD [0, 1, 2, 3] rfl (by decide)  rfl rfl rfl hl.1 rfl (Nat.le_of_ble_eq_true rfl) dX4_readRow_32 ⟨Nat.le_of_ble_eq_true rfl, Nat.le_of_ble_eq_true rfl⟩) hP hD hS [0, 1, 2, 3] rfl (fun r32 H locs hB32 back hS => ?_)
    obtain ⟨p232, he32, hp232, hp332, hP1⟩ := hB32
    obtain rfl := Eq.symm he32
    obtain ⟨hP, hD⟩ := back [ob x 4 [.int (nI L), .ref g1, .int (nI p232), .int (nI nu), .int (nI np), .int (nI rr), .ref g2, .ref g3], arC G g1 100 (fun j => nI (t j)), ar G g2 24 (fun j => nI ((va_up td r dv) j)), ar G g3 384 (fun j => nI ((fl16 tv r dv) j))] rfl hP1
    have hP : va_P G.1 vwCl [ob x 4 [.int (nI L), .ref g1, .int (nI p232), .int (nI nu), .int (nI np), .int (nI rr), .ref g2, .ref g3], arC G g1 100 (fun j => nI (t j)), ar G g2 24 (fun j => nI ((va_up td r dv) j)), ar G g3 384 (fun j => nI ((fl16 tv r dv) j))] H := hP
    have hD : va_D A [ob x 4 [.int (nI L), .ref g1, .int (nI p232), .int (nI nu), .int (nI np), .int (nI rr), .ref g2, .ref g3], arC G g1 100 (fun j => nI (t j)), ar G g2 24 (fun j => nI ((va_up td r dv) j)), ar G g3 384 (fun j => nI ((fl16 tv r dv) j))] := hD
    refine r_if_eq (P := (decide (sg t L (sk t L pl) = 58)) = false) (tgt := 51) hx hb dX4_readRow_35 (by decide) (bI_eq0) (fun cq35 => ?_) (fun cq35 => ?_)
    · refine lv_iconst (v := (nI 0)) hx hb dX4_readRow_51 (by decide) ?_
      exact hret _ _ _ _ _ hS dX4_readRow_52 (⟨false, p232, nu, np, (va_up td r dv), (fl16 tv r dv), rfl, rwE_2 OK (by rw [← P1]; exact of_decide_eq_false cq35) (by rw [hp232, if_neg (of_decide_eq_false cq35), ← P1]) hdv, hp332, fun z => absurd z (by decide), td9, tv9, hP⟩)
    · have Y1 := of_decide_eq_true (Bool.of_not_eq_false cq35)
      refine lv_aload_n hx hb dX4_readRow_38 rfl (lv_at hl 1 rfl) ?_
      refine lv_iload_n hx hb dX4_readRow_39 rfl (lv_at hl 2 rfl) ?_
      refine lv_iload_n hx hb dX4_readRow_40 rfl (lv_at hl 0 rfl) ?_
      refine r_top (y := (nI dv)) (by rw [D1]) ?_
      refine g_I (k_V (q0 := 0) (ci := 4) (n := 2) (As := [.int (nI r), .int (nI dv)]) (rest := []) (wc := [ob x 4 [.int (nI L), .ref g1, .int (nI p232), .int (nI nu), .int (nI np), .int (nI rr), .ref g2, .ref g3], arC G g1 100 (fun j => nI (t j)), ar G g2 24 (fun j => nI ((va_up td r dv) j)), ar G g3 384 (fun j => nI ((fl16 tv r dv) j))]) hx hb hml hown hts (c_X4_readEntries (l := l) (G := G) (x := x) (g1 := g1) (g2 := g2) (g3 := g3) (L := L) (pl := p232) (nu := nu) (np := np) (rr := rr) (t := t) (td := (va_up td r dv)) (tv := (fl16 tv r dv)) (hL := by first | assumption | omega) (hpl := by first | assumption | omega) (ht := by first | assumption | omega) (r := r) (d := dv) (hr := by first | assumption | omega) (hd := by first | assumption | omega) (htd := by first | assumption | omega) (htv := by first | assumption | omega))  gX4_readRow_X4_readEntries rfl rfl rfl (by decide +kernel) ⟨Nat.le_of_ble_eq_true rfl, Nat.le_of_ble_eq_true rfl⟩ rfl hK hP hD [0, 1, 2, 3] rfl (by decide)  rfl rfl rfl hl.1 rfl (Nat.le_of_ble_eq_true rfl) dX4_readRow_41 ⟨Nat.le_of_ble_eq_true rfl, Nat.le_of_ble_eq_true rfl⟩) hP hD hS [0, 1, 2, 3] rfl (fun r41 H locs hB41 back hS => ?_)
      obtain ⟨ok241, p241, n241, np241, tv241, he41, hE41, hp341, hv241, hP1⟩ := hB41
      obtain rfl := Eq.symm he41
      obtain ⟨hP, hD⟩ := back [ob x 4 [.int (nI L), .ref g1, .int (nI p241), .int (nI n241), .int (nI np241), .int (nI rr), .ref g2, .ref g3], arC G g1 100 (fun j => nI (t j)), ar G g2 24 (fun j => nI ((va_up td r dv) j)), ar G g3 384 (fun j => nI (tv241 j))] rfl hP1
      have hP : va_P G.1 vwCl [ob x 4 [.int (nI L), .ref g1, .int (nI p241), .int (nI n241), .int (nI np241), .int (nI rr), .ref g2, .ref g3], arC G g1 100 (fun j => nI (t j)), ar G g2 24 (fun j => nI ((va_up td r dv) j)), ar G g3 384 (fun j => nI (tv241 j))] H := hP
      have hD : va_D A [ob x 4 [.int (nI L), .ref g1, .int (nI p241), .int (nI n241), .int (nI np241), .int (nI rr), .ref g2, .ref g3], arC G g1 100 (fun j => nI (t j)), ar G g2 24 (fun j => nI ((va_up td r dv) j)), ar G g3 384 (fun j => nI (tv241 j))] := hD
      refine r_if_eq (P := ok241 = false) (tgt := 51) hx hb dX4_readRow_44 (by decide) (bI_eq0) (fun cq44 => ?_) (fun cq44 => ?_)
      · refine lv_iconst (v := (nI 0)) hx hb dX4_readRow_51 (by decide) ?_
        exact hret _ _ _ _ _ hS dX4_readRow_52 (⟨false, p241, n241, np241, (va_up td r dv), tv241, rfl, rwE_3 OK (by rw [← P1]; exact Y1) (by rw [hp232, if_pos Y1, ← P1]) hdv hE41 rfl cq44, hp341, fun z => absurd z (by decide), td9, hv241, hP⟩)
      · refine lv_iconst (v := (nI 1)) hx hb dX4_readRow_47 (by decide) ?_
        refine lv_goto (tgt := 52) hx hb dX4_readRow_48 (by decide) ?_
        exact hret _ _ _ _ _ hS dX4_readRow_52 (⟨true, p241, n241, np241, (va_up td r dv), tv241, rfl, rwE_4 OK (by rw [← P1]; exact Y1) (by rw [hp232, if_pos Y1, ← P1]) hdv hE41 rfl (Bool.of_not_eq_false cq44), hp341, fun _ => by rw [← hdv], td9, hv241, hP⟩)
  · refine lv_aload_n hx hb dX4_readRow_9 rfl (lv_at hl 1 rfl) ?_
    refine g_I (k_V (q0 := 0) (ci := 4) (n := 0) (As := []) (rest := []) (wc := [ob x 4 [.int (nI L), .ref g1, .int (nI pl), .int (nI nu), .int (nI np), .int (nI rr), .ref g2, .ref g3], arC G g1 100 (fun j => nI (t j)), ar G g2 24 (fun j => nI (td j)), ar G g3 384 (fun j => nI (tv j))]) hx hb hml hown hts (c_X4_readNumber (l := l) (G := G) (x := x) (g1 := g1) (g2 := g2) (g3 := g3) (L := L) (pl := pl) (nu := nu) (np := np) (rr := rr) (t := t) (td := td) (tv := tv) (hL := by first | assumption | omega) (hpl := by first | assumption | omega) (ht := by first | assumption | omega))  gX4_readRow_X4_readNumber rfl rfl rfl (by decide +kernel) ⟨Nat.le_of_ble_eq_true rfl, Nat.le_of_ble_eq_true rfl⟩ rfl hK hP hD [0, 1, 2, 3] rfl (by decide)  rfl rfl rfl hl.1 rfl (Nat.le_of_ble_eq_true rfl) dX4_readRow_10 ⟨Nat.le_of_ble_eq_true rfl, Nat.le_of_ble_eq_true rfl⟩) hP hD hS [0, 1, 2, 3] rfl (fun r10 H locs hB10 back hS => ?_)
    obtain ⟨p210, n210, np210, he10, hp210, hp310, hn210, hP1⟩ := hB10
    obtain rfl := Eq.symm he10
    obtain ⟨hP, hD⟩ := back [ob x 4 [.int (nI L), .ref g1, .int (nI p210), .int (nI n210), .int (nI np210), .int (nI rr), .ref g2, .ref g3], arC G g1 100 (fun j => nI (t j)), ar G g2 24 (fun j => nI (td j)), ar G g3 384 (fun j => nI (tv j))] rfl hP1
    have hP : va_P G.1 vwCl [ob x 4 [.int (nI L), .ref g1, .int (nI p210), .int (nI n210), .int (nI np210), .int (nI rr), .ref g2, .ref g3], arC G g1 100 (fun j => nI (t j)), ar G g2 24 (fun j => nI (td j)), ar G g3 384 (fun j => nI (tv j))] H := hP
    have hD : va_D A [ob x 4 [.int (nI L), .ref g1, .int (nI p210), .int (nI n210), .int (nI np210), .int (nI rr), .ref g2, .ref g3], arC G g1 100 (fun j => nI (t j)), ar G g2 24 (fun j => nI (td j)), ar G g3 384 (fun j => nI (tv j))] := hD
    refine r_if_ne (P := (nmO t L (sk t L pl)) = false) (tgt := 18) hx hb dX4_readRow_13 (by decide) (bI_eq0) (fun cq13 => ?_) (fun cq13 => ?_)
    · have O1 := Bool.of_not_eq_false cq13
      rw [hsk] at O1
      obtain ⟨v1, w1, l1⟩ := hn210 (by rw [hsk]; exact O1)
      rw [hsk] at v1
      have G1 := Bool.of_not_eq_false cq6
      obtain ⟨dv, hdv⟩ : ∃ y, y = dfV t L pl := ⟨_, rfl⟩
      have D1 : dv = n210 := by rw [hdv, v1]; exact dfV_t G1
      have P1 : p210 = dfP t L pl := by rw [hp210, hsk]; exact (dfP_t G1).symm
      have OK : dfO t L pl = true := dfO_t O1
      have hd0 : dv < 100 := by omega
      refine lv_aload_n hx hb dX4_readRow_18 rfl (lv_at hl 1 rfl) ?_
      refine va_get (D := G.1) (ci := 4) (v := .int (nI n210)) (C := RX4) (T := TX4) (N := 8) hx hb hts iqX4_readRow_X4 hown hK.1 hP 0 rfl rfl 3 (by decide) (hts (.fieldLink RX4 22 "PushedTables$Text" "number" "I") (List.mem_of_getElem? (i := 1) rfl)) (fun _ h9 => h9) rfl dX4_readRow_19 ?_
      refine lv_istore_n (lv' := [(2, .int (nI n210)), (0, .ref x), (1, .int (nI r))]) hx hb dX4_readRow_22 rfl hl (by decide) rfl (fun ls hl => ?_)
      refine lv_aload_n hx hb dX4_readRow_23 rfl (lv_at hl 1 rfl) ?_
      refine lv_iload_n hx hb dX4_readRow_24 rfl (lv_at hl 2 rfl) ?_
      refine lv_iload_n hx hb dX4_readRow_25 rfl (lv_at hl 0 rfl) ?_
      refine r_top (y := (nI dv)) (by rw [D1]) ?_
      refine g_V (k_V (q0 := 0) (ci := 4) (n := 2) (As := [.int (nI r), .int (nI dv)]) (rest := []) (wc := [ob x 4 [.int (nI L), .ref g1, .int (nI p210), .int (nI n210), .int (nI np210), .int (nI rr), .ref g2, .ref g3], arC G g1 100 (fun j => nI (t j)), ar G g2 24 (fun j => nI (td j)), ar G g3 384 (fun j => nI (tv j))]) hx hb hml hown hts (c_X4_beginRow (l := l) (G := G) (x := x) (g1 := g1) (g2 := g2) (g3 := g3) (L := L) (pl := p210) (nu := n210) (np := np210) (rr := rr) (t := t) (td := td) (tv := tv) (r := r) (d := dv) (hr := by first | assumption | omega))  gX4_readRow_X4_beginRow rfl rfl rfl (by decide +kernel) ⟨Nat.le_of_ble_eq_true rfl, Nat.le_of_ble_eq_true rfl⟩ rfl hK hP hD [0, 1, 2, 3] rfl (by decide)  rfl rfl rfl hl.1 rfl (Nat.le_of_ble_eq_true rfl) dX4_readRow_26 ⟨Nat.le_of_ble_eq_true rfl, Nat.le_of_ble_eq_true rfl⟩) hP hD hS [0, 1, 2, 3] rfl (fun H locs hB26 back hS => ?_)
      have hP1 := hB26
      obtain ⟨hP, hD⟩ := back [ob x 4 [.int (nI L), .ref g1, .int (nI p210), .int (nI n210), .int (nI np210), .int (nI rr), .ref g2, .ref g3], arC G g1 100 (fun j => nI (t j)), ar G g2 24 (fun j => nI ((va_up td r dv) j)), ar G g3 384 (fun j => nI ((fl16 tv r dv) j))] rfl hP1
      have hP : va_P G.1 vwCl [ob x 4 [.int (nI L), .ref g1, .int (nI p210), .int (nI n210), .int (nI np210), .int (nI rr), .ref g2, .ref g3], arC G g1 100 (fun j => nI (t j)), ar G g2 24 (fun j => nI ((va_up td r dv) j)), ar G g3 384 (fun j => nI ((fl16 tv r dv) j))] H := hP
      have hD : va_D A [ob x 4 [.int (nI L), .ref g1, .int (nI p210), .int (nI n210), .int (nI np210), .int (nI rr), .ref g2, .ref g3], arC G g1 100 (fun j => nI (t j)), ar G g2 24 (fun j => nI ((va_up td r dv) j)), ar G g3 384 (fun j => nI ((fl16 tv r dv) j))] := hD
      have tv9 : ∀ k, fl16 tv r dv k < 100 := fl16_lt htv hd0
      have td9 := up_all (P := fun z => z < 100) htd (k := r) (x := dv) hd0
      refine lv_aload_n hx hb dX4_readRow_29 rfl (lv_at hl 1 rfl) ?_
      refine lv_bipush (v := (nI 58)) hx hb dX4_readRow_30 (by decide) ?_
      refine g_I (k_V (q0 := 0) (ci := 4) (n := 1) (As := [.int (nI 58)]) (rest := []) (wc := [ob x 4 [.int (nI L), .ref g1, .int (nI p210), .int (nI n210), .int (nI np210), .int (nI rr), .ref g2, .ref g3], arC G g1 100 (fun j => nI (t j)), ar G g2 24 (fun j => nI ((va_up td r dv) j)), ar G g3 384 (fun j => nI ((fl16 tv r dv) j))]) hx hb hml hown hts (c_X4_takeSign (l := l) (G := G) (x := x) (g1 := g1) (g2 := g2) (g3 := g3) (L := L) (pl := p210) (nu := n210) (np := np210) (rr := rr) (t := t) (td := (va_up td r dv)) (tv := (fl16 tv r dv)) (hL := by first | assumption | omega) (hpl := by first | assumption | omega) (ht := by first | assumption | omega) (w := 58) (hw := by first | assumption | omega) (hw0 := by first | assumption | omega))  gX4_readRow_X4_takeSign rfl rfl rfl (by decide +kernel) ⟨Nat.le_of_ble_eq_true rfl, Nat.le_of_ble_eq_true rfl⟩ rfl hK hP hD [0, 1, 2, 3] rfl (by decide)  rfl rfl rfl hl.1 rfl (Nat.le_of_ble_eq_true rfl) dX4_readRow_32 ⟨Nat.le_of_ble_eq_true rfl, Nat.le_of_ble_eq_true rfl⟩) hP hD hS [0, 1, 2, 3] rfl (fun r32 H locs hB32 back hS => ?_)
      obtain ⟨p232, he32, hp232, hp332, hP1⟩ := hB32
      obtain rfl := Eq.symm he32
      obtain ⟨hP, hD⟩ := back [ob x 4 [.int (nI L), .ref g1, .int (nI p232), .int (nI n210), .int (nI np210), .int (nI rr), .ref g2, .ref g3], arC G g1 100 (fun j => nI (t j)), ar G g2 24 (fun j => nI ((va_up td r dv) j)), ar G g3 384 (fun j => nI ((fl16 tv r dv) j))] rfl hP1
      have hP : va_P G.1 vwCl [ob x 4 [.int (nI L), .ref g1, .int (nI p232), .int (nI n210), .int (nI np210), .int (nI rr), .ref g2, .ref g3], arC G g1 100 (fun j => nI (t j)), ar G g2 24 (fun j => nI ((va_up td r dv) j)), ar G g3 384 (fun j => nI ((fl16 tv r dv) j))] H := hP
      have hD : va_D A [ob x 4 [.int (nI L), .ref g1, .int (nI p232), .int (nI n210), .int (nI np210), .int (nI rr), .ref g2, .ref g3], arC G g1 100 (fun j => nI (t j)), ar G g2 24 (fun j => nI ((va_up td r dv) j)), ar G g3 384 (fun j => nI ((fl16 tv r dv) j))] := hD
      refine r_if_eq (P := (decide (sg t L (sk t L p210) = 58)) = false) (tgt := 51) hx hb dX4_readRow_35 (by decide) (bI_eq0) (fun cq35 => ?_) (fun cq35 => ?_)
      · refine lv_iconst (v := (nI 0)) hx hb dX4_readRow_51 (by decide) ?_
        exact hret _ _ _ _ _ hS dX4_readRow_52 (⟨false, p232, n210, np210, (va_up td r dv), (fl16 tv r dv), rfl, rwE_2 OK (by rw [← P1]; exact of_decide_eq_false cq35) (by rw [hp232, if_neg (of_decide_eq_false cq35), ← P1]) hdv, hp332, fun z => absurd z (by decide), td9, tv9, hP⟩)
      · have Y1 := of_decide_eq_true (Bool.of_not_eq_false cq35)
        refine lv_aload_n hx hb dX4_readRow_38 rfl (lv_at hl 1 rfl) ?_
        refine lv_iload_n hx hb dX4_readRow_39 rfl (lv_at hl 2 rfl) ?_
        refine lv_iload_n hx hb dX4_readRow_40 rfl (lv_at hl 0 rfl) ?_
        refine r_top (y := (nI dv)) (by rw [D1]) ?_
        refine g_I (k_V (q0 := 0) (ci := 4) (n := 2) (As := [.int (nI r), .int (nI dv)]) (rest := []) (wc := [ob x 4 [.int (nI L), .ref g1, .int (nI p232), .int (nI n210), .int (nI np210), .int (nI rr), .ref g2, .ref g3], arC G g1 100 (fun j => nI (t j)), ar G g2 24 (fun j => nI ((va_up td r dv) j)), ar G g3 384 (fun j => nI ((fl16 tv r dv) j))]) hx hb hml hown hts (c_X4_readEntries (l := l) (G := G) (x := x) (g1 := g1) (g2 := g2) (g3 := g3) (L := L) (pl := p232) (nu := n210) (np := np210) (rr := rr) (t := t) (td := (va_up td r dv)) (tv := (fl16 tv r dv)) (hL := by first | assumption | omega) (hpl := by first | assumption | omega) (ht := by first | assumption | omega) (r := r) (d := dv) (hr := by first | assumption | omega) (hd := by first | assumption | omega) (htd := by first | assumption | omega) (htv := by first | assumption | omega))  gX4_readRow_X4_readEntries rfl rfl rfl (by decide +kernel) ⟨Nat.le_of_ble_eq_true rfl, Nat.le_of_ble_eq_true rfl⟩ rfl hK hP hD [0, 1, 2, 3] rfl (by decide)  rfl rfl rfl hl.1 rfl (Nat.le_of_ble_eq_true rfl) dX4_readRow_41 ⟨Nat.le_of_ble_eq_true rfl, Nat.le_of_ble_eq_true rfl⟩) hP hD hS [0, 1, 2, 3] rfl (fun r41 H locs hB41 back hS => ?_)
        obtain ⟨ok241, p241, n241, np241, tv241, he41, hE41, hp341, hv241, hP1⟩ := hB41
        obtain rfl := Eq.symm he41
        obtain ⟨hP, hD⟩ := back [ob x 4 [.int (nI L), .ref g1, .int (nI p241), .int (nI n241), .int (nI np241), .int (nI rr), .ref g2, .ref g3], arC G g1 100 (fun j => nI (t j)), ar G g2 24 (fun j => nI ((va_up td r dv) j)), ar G g3 384 (fun j => nI (tv241 j))] rfl hP1
        have hP : va_P G.1 vwCl [ob x 4 [.int (nI L), .ref g1, .int (nI p241), .int (nI n241), .int (nI np241), .int (nI rr), .ref g2, .ref g3], arC G g1 100 (fun j => nI (t j)), ar G g2 24 (fun j => nI ((va_up td r dv) j)), ar G g3 384 (fun j => nI (tv241 j))] H := hP
        have hD : va_D A [ob x 4 [.int (nI L), .ref g1, .int (nI p241), .int (nI n241), .int (nI np241), .int (nI rr), .ref g2, .ref g3], arC G g1 100 (fun j => nI (t j)), ar G g2 24 (fun j => nI ((va_up td r dv) j)), ar G g3 384 (fun j => nI (tv241 j))] := hD
        refine r_if_eq (P := ok241 = false) (tgt := 51) hx hb dX4_readRow_44 (by decide) (bI_eq0) (fun cq44 => ?_) (fun cq44 => ?_)
        · refine lv_iconst (v := (nI 0)) hx hb dX4_readRow_51 (by decide) ?_
          exact hret _ _ _ _ _ hS dX4_readRow_52 (⟨false, p241, n241, np241, (va_up td r dv), tv241, rfl, rwE_3 OK (by rw [← P1]; exact Y1) (by rw [hp232, if_pos Y1, ← P1]) hdv hE41 rfl cq44, hp341, fun z => absurd z (by decide), td9, hv241, hP⟩)
        · refine lv_iconst (v := (nI 1)) hx hb dX4_readRow_47 (by decide) ?_
          refine lv_goto (tgt := 52) hx hb dX4_readRow_48 (by decide) ?_
          exact hret _ _ _ _ _ hS dX4_readRow_52 (⟨true, p241, n241, np241, (va_up td r dv), tv241, rfl, rwE_4 OK (by rw [← P1]; exact Y1) (by rw [hp232, if_pos Y1, ← P1]) hdv hE41 rfl (Bool.of_not_eq_false cq44), hp341, fun _ => by rw [← hdv], td9, hv241, hP⟩)
    · rw [hsk] at cq13
      refine lv_iconst (v := (nI 0)) hx hb dX4_readRow_16 (by decide) ?_
      exact hret _ _ _ _ _ hS dX4_readRow_17 (⟨false, p210, n210, np210, td, tv, rfl, ⟨0, by unfold rwE; rw [if_pos (dfO_n (Bool.of_not_eq_false cq6) cq13), hp210, hsk, dfP_t (Bool.of_not_eq_false cq6)]⟩, hp310, fun z => absurd z (by decide), htd, htv, hP⟩)

theorem iqX4_readTable_X4 : ∀ w ∈ u_ws RX4 TX4 8, w ∈ wsX4_readTable := by decide +kernel
set_option maxHeartbeats 1000000 in
set_option maxRecDepth 100000 in
theorem c_X4_readTable (l : Launch) (G : kG) (x g1 g2 g3 L pl nu np rr : Nat) (t td tv : Nat → Nat) (hL : L ≤ 100) (ht : ∀ k, t k < 256) (room : Nat) (hroom : room ≤ 24) (htd : ∀ k, td k < 100) (htv : ∀ k, tv k < 100) : Met l yX4_readTable wsX4_readTable ({ frames := 5, cells := 0, slots := 0, locals := 108 } : Room) (cP G [.ref x, .int (nI room)] [ob x 4 [.int (nI L), .ref g1, .int (nI pl), .int (nI nu), .int (nI np), .int (nI rr), .ref g2, .ref g3], arC G g1 100 (fun j => nI (t j)), ar G g2 24 (fun j => nI (td j)), ar G g3 384 (fun j => nI (tv j))]) (qI (fun rv H => ∃ (ok2 : Bool) (p2 : Nat) (n2 : Nat) (np2 : Nat) (rr2 : Nat) (td2 : Nat → Nat) (tv2 : Nat → Nat), rv = (bI ok2) ∧ (∃ n k R, tbE t L room n k 0 0 td tv = some R ∧ R.1 = ok2 ∧ R.2.1 = p2 ∧ (ok2 = true → R.2.2 = (rr2, td2, tv2))) ∧ p2 ≤ L ∧ (ok2 = true → rr2 ≤ room) ∧ (∀ k, td2 k < 100) ∧ (∀ k, tv2 k < 100) ∧ va_P G.1 vwCl [ob x 4 [.int (nI L), .ref g1, .int (nI p2), .int (nI n2), .int (nI np2), .int (nI rr2), .ref g2, .ref g3], arC G g1 100 (fun j => nI (t j)), ar G g2 24 (fun j => nI (td2 j)), ar G g3 384 (fun j => nI (tv2 j))] H) (mA [ob x 4 [.int (nI L), .ref g1, .int (nI pl), .int (nI nu), .int (nI np), .int (nI rr), .ref g2, .ref g3], arC G g1 100 (fun j => nI (t j)), ar G g2 24 (fun j => nI (td j)), ar G g3 384 (fun j => nI (tv j))])) 0 0 (mA [ob x 4 [.int (nI L), .ref g1, .int (nI pl), .int (nI nu), .int (nI np), .int (nI rr), .ref g2, .ref g3], arC G g1 100 (fun j => nI (t j)), ar G g2 24 (fun j => nI (td j)), ar G g3 384 (fun j => nI (tv j))]) := by
  refine met_muI (cc := cX4_readTable) (maxL := 3) (ty := .boolean) (own := RX4) (by decide) rfl rfl (fun _ _ h => by obtain ⟨_, _, _, _, _, _, _, rfl, _⟩ := h; exact bI_nar _) (Nat.le_of_ble_eq_true rfl) ?_
  intro p e s m args below meth cod Q A hx hb hml hown hts hK hP hD hS hret ls hl
  have hl : lv_has ls 3 [(0, .ref x), (1, .int (nI room))] := hl
  refine lv_aload_n hx hb dX4_readTable_0 rfl (lv_at hl 0 rfl) ?_
  refine lv_iconst (v := (nI 0)) hx hb dX4_readTable_1 (by decide) ?_
  refine va_put (D := G.1) (ci := 4) (v := .int (nI 0)) (ty := .int) (C := RX4) (T := TX4) (N := 8) hx hb hts iqX4_readTable_X4 tyX4 tyX4_ok nmX4 hown hK.1 hP hD hS 0 rfl rfl 2 (by decide) (hts (.fieldLink RX4 19 "PushedTables$Text" "place" "I") (List.mem_of_getElem? (i := 1) rfl)) (fun _ h9 => h9) rfl (by decide +kernel) rfl rfl (Nat.le_of_ble_eq_true rfl) dX4_readTable_2 (fun H locs hP hD hS => ?_)
  have hP : va_P G.1 vwCl [ob x 4 [.int (nI L), .ref g1, .int (nI 0), .int (nI nu), .int (nI np), .int (nI rr), .ref g2, .ref g3], arC G g1 100 (fun j => nI (t j)), ar G g2 24 (fun j => nI (td j)), ar G g3 384 (fun j => nI (tv j))] H := hP
  have hD : va_D A [ob x 4 [.int (nI L), .ref g1, .int (nI 0), .int (nI nu), .int (nI np), .int (nI rr), .ref g2, .ref g3], arC G g1 100 (fun j => nI (t j)), ar G g2 24 (fun j => nI (td j)), ar G g3 384 (fun j => nI (tv j))] := hD
  refine lv_iconst (v := (nI 0)) hx hb dX4_readTable_5 (by decide) ?_
  refine lv_istore_n (lv' := [(2, .int (nI 0)), (0, .ref x), (1, .int (nI room))]) hx hb dX4_readTable_6 rfl hl (by decide) rfl (fun ls hl => ?_)
  have L7 : ∀ (fu : Nat) (r : Nat) (pp : Nat) (nu2 : Nat) (np2 : Nat) (td3 : Nat → Nat) (tv3 : Nat → Nat), room + 1 - r < fu → r ≤ room → pp ≤ L → (∀ k, td3 k < 100) → (∀ k, tv3 k < 100) → (∀ n k R, tbE t L room n k r pp td3 tv3 = some R → ∃ n2 k2, tbE t L room n2 k2 0 0 td tv = some R) → ∀ (H : Heap) (locs : List Loc), va_P G.1 vwCl [ob x 4 [.int (nI L), .ref g1, .int (nI pp), .int (nI nu2), .int (nI np2), .int (nI rr), .ref g2, .ref g3], arC G g1 100 (fun j => nI (t j)), ar G g2 24 (fun j => nI (td3 j)), ar G g3 384 (fun j => nI (tv3 j))] H → va_D A [ob x 4 [.int (nI L), .ref g1, .int (nI pp), .int (nI nu2), .int (nI np2), .int (nI rr), .ref g2, .ref g3], arC G g1 100 (fun j => nI (t j)), ar G g2 24 (fun j => nI (td3 j)), ar G g3 384 (fun j => nI (tv3 j))] → va_S A s.heap H locs → ∀ (ls : Array Slot), lv_has ls 3 [(0, .ref x), (1, .int (nI room)), (2, .int (nI r))] → W p l e ({ frames := 5, cells := 0, slots := 0, locals := 108 } : Room) s m args below meth cod H locs 0 0 Q (F0 m 7 ls []) := by
    intro fu
    induction fu with
    | zero => intro r pp nu2 np2 td3 tv3 hm; exact absurd hm (Nat.not_lt_zero _)
    | succ fu ih7 =>
      intro r pp nu2 np2 td3 tv3 hm7 hrr hpp htd3 htv3 hI H locs hP hD hS ls hl
      have hP : va_P G.1 vwCl [ob x 4 [.int (nI L), .ref g1, .int (nI pp), .int (nI nu2), .int (nI np2), .int (nI rr), .ref g2, .ref g3], arC G g1 100 (fun j => nI (t j)), ar G g2 24 (fun j => nI (td3 j)), ar G g3 384 (fun j => nI (tv3 j))] H := hP
      have hD : va_D A [ob x 4 [.int (nI L), .ref g1, .int (nI pp), .int (nI nu2), .int (nI np2), .int (nI rr), .ref g2, .ref g3], arC G g1 100 (fun j => nI (t j)), ar G g2 24 (fun j => nI (td3 j)), ar G g3 384 (fun j => nI (tv3 j))] := hD
      refine lv_iload_n hx hb dX4_readTable_7 rfl (lv_at hl 2 rfl) ?_
      refine lv_iload_n hx hb dX4_readTable_8 rfl (lv_at hl 1 rfl) ?_
      refine r_icmp_gt (P := room < r) (tgt := 55) hx hb dX4_readTable_9 (by decide) (nI_ltI (by omega) (by omega)) (fun cq9 => ?_) (fun cq9 => ?_)
      · exact absurd cq9 (by omega)
      · refine lv_aload_n hx hb dX4_readTable_12 rfl (lv_at hl 0 rfl) ?_
        refine g_V (k_V (q0 := 0) (ci := 4) (n := 0) (As := []) (rest := []) (wc := [ob x 4 [.int (nI L), .ref g1, .int (nI pp), .int (nI nu2), .int (nI np2), .int (nI rr), .ref g2, .ref g3], arC G g1 100 (fun j => nI (t j)), ar G g2 24 (fun j => nI (td3 j)), ar G g3 384 (fun j => nI (tv3 j))]) hx hb hml hown hts (c_X4_skipSpaces (l := l) (G := G) (x := x) (g1 := g1) (g2 := g2) (g3 := g3) (L := L) (pl := pp) (nu := nu2) (np := np2) (rr := rr) (t := t) (td := td3) (tv := tv3) (hL := by first | assumption | omega) (hpl := by first | assumption | omega) (ht := by first | assumption | omega))  gX4_readTable_X4_skipSpaces rfl rfl rfl (by decide +kernel) ⟨Nat.le_of_ble_eq_true rfl, Nat.le_of_ble_eq_true rfl⟩ rfl hK hP hD [0, 1, 2, 3] rfl (by decide)  rfl rfl rfl hl.1 rfl (Nat.le_of_ble_eq_true rfl) dX4_readTable_13 ⟨Nat.le_of_ble_eq_true rfl, Nat.le_of_ble_eq_true rfl⟩) hP hD hS [0, 1, 2, 3] rfl (fun H locs hB13 back hS => ?_)
        have hP1 := hB13
        obtain ⟨hP, hD⟩ := back [ob x 4 [.int (nI L), .ref g1, .int (nI (sk t L pp)), .int (nI nu2), .int (nI np2), .int (nI rr), .ref g2, .ref g3], arC G g1 100 (fun j => nI (t j)), ar G g2 24 (fun j => nI (td3 j)), ar G g3 384 (fun j => nI (tv3 j))] rfl hP1
        have hP : va_P G.1 vwCl [ob x 4 [.int (nI L), .ref g1, .int (nI (sk t L pp)), .int (nI nu2), .int (nI np2), .int (nI rr), .ref g2, .ref g3], arC G g1 100 (fun j => nI (t j)), ar G g2 24 (fun j => nI (td3 j)), ar G g3 384 (fun j => nI (tv3 j))] H := hP
        have hD : va_D A [ob x 4 [.int (nI L), .ref g1, .int (nI (sk t L pp)), .int (nI nu2), .int (nI np2), .int (nI rr), .ref g2, .ref g3], arC G g1 100 (fun j => nI (t j)), ar G g2 24 (fun j => nI (td3 j)), ar G g3 384 (fun j => nI (tv3 j))] := hD
        have skl := sk_le (t := t) hpp
        refine lv_aload_n hx hb dX4_readTable_16 rfl (lv_at hl 0 rfl) ?_
        refine va_get (D := G.1) (ci := 4) (v := .int (nI (sk t L pp))) (C := RX4) (T := TX4) (N := 8) hx hb hts iqX4_readTable_X4 hown hK.1 hP 0 rfl rfl 2 (by decide) (hts (.fieldLink RX4 19 "PushedTables$Text" "place" "I") (List.mem_of_getElem? (i := 1) rfl)) (fun _ h9 => h9) rfl dX4_readTable_17 ?_
        refine lv_aload_n hx hb dX4_readTable_20 rfl (lv_at hl 0 rfl) ?_
        refine va_get (D := G.1) (ci := 4) (v := .int (nI L)) (C := RX4) (T := TX4) (N := 8) hx hb hts iqX4_readTable_X4 hown hK.1 hP 0 rfl rfl 0 (by decide) (hts (.fieldLink RX4 9 "PushedTables$Text" "length" "I") (List.mem_of_getElem? (i := 2) rfl)) (fun _ h9 => h9) rfl dX4_readTable_21 ?_
        refine r_icmp_lt (P := (sk t L pp) < L) (tgt := 34) hx hb dX4_readTable_24 (by decide) (nI_ltI (by omega) (by omega)) (fun cq24 => ?_) (fun cq24 => ?_)
        · refine lv_iload_n hx hb dX4_readTable_34 rfl (lv_at hl 2 rfl) ?_
          refine lv_iload_n hx hb dX4_readTable_35 rfl (lv_at hl 1 rfl) ?_
          refine r_icmp_eq (P := r = room) (tgt := 47) hx hb dX4_readTable_36 (by decide) (nI_eq (by omega) (by omega)) (fun cq36 => ?_) (fun cq36 => ?_)
          · refine lv_iconst (v := (nI 0)) hx hb dX4_readTable_47 (by decide) ?_
            exact hret _ _ _ _ _ hS dX4_readTable_48 (⟨false, (sk t L pp), nu2, np2, rr, td3, tv3, rfl, by obtain ⟨a, b, e⟩ := hI _ _ _ (by rw [cq36]; exact tbE_r (by omega)); exact ⟨a, b, _, e, rfl, rfl, fun z => absurd z (by decide)⟩, skl, fun z => absurd z (by decide), htd3, htv3, hP⟩)
          · have ssk := sk_sk t L pp
            refine lv_aload_n hx hb dX4_readTable_39 rfl (lv_at hl 0 rfl) ?_
            refine lv_iload_n hx hb dX4_readTable_40 rfl (lv_at hl 2 rfl) ?_
            refine g_I (k_V (q0 := 0) (ci := 4) (n := 1) (As := [.int (nI r)]) (rest := []) (wc := [ob x 4 [.int (nI L), .ref g1, .int (nI (sk t L pp)), .int (nI nu2), .int (nI np2), .int (nI rr), .ref g2, .ref g3], arC G g1 100 (fun j => nI (t j)), ar G g2 24 (fun j => nI (td3 j)), ar G g3 384 (fun j => nI (tv3 j))]) hx hb hml hown hts (c_X4_readRow (l := l) (G := G) (x := x) (g1 := g1) (g2 := g2) (g3 := g3) (L := L) (pl := (sk t L pp)) (nu := nu2) (np := np2) (rr := rr) (t := t) (td := td3) (tv := tv3) (hL := by first | assumption | omega) (hpl := by first | assumption | omega) (ht := by first | assumption | omega) (r := r) (hr := by first | assumption | omega) (hsk := by first | assumption | omega) (htd := by first | assumption | omega) (htv := by first | assumption | omega))  gX4_readTable_X4_readRow rfl rfl rfl (by decide +kernel) ⟨Nat.le_of_ble_eq_true rfl, Nat.le_of_ble_eq_true rfl⟩ rfl hK hP hD [0, 1, 2, 3] rfl (by decide)  rfl rfl rfl hl.1 rfl (Nat.le_of_ble_eq_true rfl) dX4_readTable_41 ⟨Nat.le_of_ble_eq_true rfl, Nat.le_of_ble_eq_true rfl⟩) hP hD hS [0, 1, 2, 3] rfl (fun r41 H locs hB41 back hS => ?_)
            obtain ⟨ok241, p241, n241, np241, td241, tv241, he41, hE41, hp341, hd241, htd241, hv241, hP1⟩ := hB41
            obtain rfl := Eq.symm he41
            obtain ⟨hP, hD⟩ := back [ob x 4 [.int (nI L), .ref g1, .int (nI p241), .int (nI n241), .int (nI np241), .int (nI rr), .ref g2, .ref g3], arC G g1 100 (fun j => nI (t j)), ar G g2 24 (fun j => nI (td241 j)), ar G g3 384 (fun j => nI (tv241 j))] rfl hP1
            have hP : va_P G.1 vwCl [ob x 4 [.int (nI L), .ref g1, .int (nI p241), .int (nI n241), .int (nI np241), .int (nI rr), .ref g2, .ref g3], arC G g1 100 (fun j => nI (t j)), ar G g2 24 (fun j => nI (td241 j)), ar G g3 384 (fun j => nI (tv241 j))] H := hP
            have hD : va_D A [ob x 4 [.int (nI L), .ref g1, .int (nI p241), .int (nI n241), .int (nI np241), .int (nI rr), .ref g2, .ref g3], arC G g1 100 (fun j => nI (t j)), ar G g2 24 (fun j => nI (td241 j)), ar G g3 384 (fun j => nI (tv241 j))] := hD
            refine r_if_ne (P := ok241 = false) (tgt := 49) hx hb dX4_readTable_44 (by decide) (bI_eq0) (fun cq44 => ?_) (fun cq44 => ?_)
            · obtain ⟨n9, hE9⟩ := hE41
              rw [Bool.of_not_eq_false cq44] at hE9
              have hd9 := hd241 (Bool.of_not_eq_false cq44)
              refine r_iinc (v := r + 1) (lv' := [(2, .int (nI (r + 1))), (0, .ref x), (1, .int (nI room))]) hx hb dX4_readTable_49 hl (k := 2) rfl (nI_1 _) (by decide) rfl (fun ls hl => ?_)
              refine lv_goto (tgt := 7) hx hb dX4_readTable_52 (by decide) ?_
              exact ih7 (r + 1) p241 n241 np241 td241 tv241 (by omega) (by omega) (hp341) (htd241) (hv241) (fun n k R hR => hI _ _ R (tbE_s (by omega) cq36 hE9 (by rw [← hd9]; exact hR))) _ _ hP hD hS ls (lv_sub hl [1, 2, 0] rfl)
            · obtain ⟨n9, hE9⟩ := hE41
              rw [cq44] at hE9
              refine lv_iconst (v := (nI 0)) hx hb dX4_readTable_47 (by decide) ?_
              exact hret _ _ _ _ _ hS dX4_readTable_48 (⟨false, p241, n241, np241, rr, td241, tv241, rfl, by obtain ⟨a, b, e⟩ := hI _ _ _ (tbE_f (by omega) cq36 hE9); exact ⟨a, b, _, e, rfl, rfl, fun z => absurd z (by decide)⟩, hp341, fun z => absurd z (by decide), htd241, hv241, hP⟩)
        · refine lv_aload_n hx hb dX4_readTable_27 rfl (lv_at hl 0 rfl) ?_
          refine lv_iload_n hx hb dX4_readTable_28 rfl (lv_at hl 2 rfl) ?_
          refine va_put (D := G.1) (ci := 4) (v := .int (nI r)) (ty := .int) (C := RX4) (T := TX4) (N := 8) hx hb hts iqX4_readTable_X4 tyX4 tyX4_ok nmX4 hown hK.1 hP hD hS 0 rfl rfl 5 (by decide) (hts (.fieldLink RX4 28 "PushedTables$Text" "rowsRead" "I") (List.mem_of_getElem? (i := 3) rfl)) (fun _ h9 => h9) rfl (by decide +kernel) rfl rfl (Nat.le_of_ble_eq_true rfl) dX4_readTable_29 (fun H locs hP hD hS => ?_)
          have hP : va_P G.1 vwCl [ob x 4 [.int (nI L), .ref g1, .int (nI (sk t L pp)), .int (nI nu2), .int (nI np2), .int (nI r), .ref g2, .ref g3], arC G g1 100 (fun j => nI (t j)), ar G g2 24 (fun j => nI (td3 j)), ar G g3 384 (fun j => nI (tv3 j))] H := hP
          have hD : va_D A [ob x 4 [.int (nI L), .ref g1, .int (nI (sk t L pp)), .int (nI nu2), .int (nI np2), .int (nI r), .ref g2, .ref g3], arC G g1 100 (fun j => nI (t j)), ar G g2 24 (fun j => nI (td3 j)), ar G g3 384 (fun j => nI (tv3 j))] := hD
          refine lv_iconst (v := (nI 1)) hx hb dX4_readTable_32 (by decide) ?_
          exact hret _ _ _ _ _ hS dX4_readTable_33 (⟨true, (sk t L pp), nu2, np2, r, td3, tv3, rfl, by obtain ⟨a, b, e⟩ := hI _ _ _ (tbE_e (by omega)); exact ⟨a, b, _, e, rfl, rfl, fun _ => rfl⟩, skl, fun _ => hrr, htd3, htv3, hP⟩)
  exact L7 ((room + 1 - 0) + 1) 0 0 nu np td tv (Nat.lt_succ_self _) (by omega) (by omega) (htd) (htv) (fun n k R hR => ⟨n, k, hR⟩) _ _ hP hD hS ls (lv_sub hl [1, 2, 0] rfl)

theorem iqX4_appendSign_X4 : ∀ w ∈ u_ws RX4 TX4 8, w ∈ wsX4_appendSign := by decide +kernel
set_option maxHeartbeats 1000000 in
set_option maxRecDepth 100000 in
theorem c_X4_appendSign (l : Launch) (G : kG) (x g1 g2 g3 L pl nu np rr : Nat) (t td tv : Nat → Nat) (hL : L ≤ 100) (ht : ∀ k, t k < 256) (w : Nat) (hw : w < 256) (hL2 : L < 100) : Met l yX4_appendSign wsX4_appendSign ({ frames := 0, cells := 0, slots := 0, locals := 0 } : Room) (cP G [.ref x, .int (nI w)] [ob x 4 [.int (nI L), .ref g1, .int (nI pl), .int (nI nu), .int (nI np), .int (nI rr), .ref g2, .ref g3], arC G g1 100 (fun j => nI (t j)), ar G g2 24 (fun j => nI (td j)), ar G g3 384 (fun j => nI (tv j))]) (qV (fun H => va_P G.1 vwCl [ob x 4 [.int (nI (L + 1)), .ref g1, .int (nI pl), .int (nI nu), .int (nI np), .int (nI rr), .ref g2, .ref g3], arC G g1 100 (fun j => nI ((va_up t L w) j)), ar G g2 24 (fun j => nI (td j)), ar G g3 384 (fun j => nI (tv j))] H) (mA [ob x 4 [.int (nI L), .ref g1, .int (nI pl), .int (nI nu), .int (nI np), .int (nI rr), .ref g2, .ref g3], arC G g1 100 (fun j => nI (t j)), ar G g2 24 (fun j => nI (td j)), ar G g3 384 (fun j => nI (tv j))])) 0 0 (mA [ob x 4 [.int (nI L), .ref g1, .int (nI pl), .int (nI nu), .int (nI np), .int (nI rr), .ref g2, .ref g3], arC G g1 100 (fun j => nI (t j)), ar G g2 24 (fun j => nI (td j)), ar G g3 384 (fun j => nI (tv j))]) := by
  refine met_muV (cc := cX4_appendSign) (maxL := 2) (own := RX4) (by decide) rfl rfl (Nat.le_of_ble_eq_true rfl) ?_
  intro p e s m args below meth cod Q A hx hb hml hown hts hK hP hD hS hret ls hl
  have hl : lv_has ls 2 [(0, .ref x), (1, .int (nI w))] := hl
  refine lv_aload_n hx hb dX4_appendSign_0 rfl (lv_at hl 0 rfl) ?_
  refine va_get (D := G.1) (ci := 4) (v := .int (nI L)) (C := RX4) (T := TX4) (N := 8) hx hb hts iqX4_appendSign_X4 hown hK.1 hP 0 rfl rfl 0 (by decide) (hts (.fieldLink RX4 9 "PushedTables$Text" "length" "I") (List.mem_of_getElem? (i := 1) rfl)) (fun _ h9 => h9) rfl dX4_appendSign_1 ?_
  refine lv_bipush (v := (nI 100)) hx hb dX4_appendSign_4 (by decide) ?_
  refine r_icmp_ge (P := 100 ≤ L) (tgt := 29) hx hb dX4_appendSign_6 (by decide) (nI_leI (by omega) (by omega)) (fun cq6 => ?_) (fun cq6 => ?_)
  · exact absurd cq6 (by omega)
  · refine lv_aload_n hx hb dX4_appendSign_9 rfl (lv_at hl 0 rfl) ?_
    refine va_get (D := G.1) (ci := 4) (v := .ref g1) (C := RX4) (T := TX4) (N := 8) hx hb hts iqX4_appendSign_X4 hown hK.1 hP 0 rfl rfl 1 (by decide) (hts (.fieldLink RX4 15 "PushedTables$Text" "signs" "[C") (List.mem_of_getElem? (i := 2) rfl)) (fun _ h9 => h9) rfl dX4_appendSign_10 ?_
    refine lv_aload_n hx hb dX4_appendSign_13 rfl (lv_at hl 0 rfl) ?_
    refine va_get (D := G.1) (ci := 4) (v := .int (nI L)) (C := RX4) (T := TX4) (N := 8) hx hb hts iqX4_appendSign_X4 hown hK.1 hP 0 rfl rfl 0 (by decide) (hts (.fieldLink RX4 9 "PushedTables$Text" "length" "I") (List.mem_of_getElem? (i := 1) rfl)) (fun _ h9 => h9) rfl dX4_appendSign_14 ?_
    refine lv_iload_n hx hb dX4_appendSign_17 rfl (lv_at hl 1 rfl) ?_
    refine r_cast (e1 := L) (x := (nI w)) (g := (fun j => nI ((va_up t L w) j))) hx hb hK.1 hP hD hS 1 1 rfl rfl (by omega) (by first | decide | assumption) (by unfold vp_nar; rw [(pk_charN (by omega)).1]; exact up_nI _ _ _) dX4_appendSign_18 (fun H locs hP hD hS => ?_)
    have hP : va_P G.1 vwCl [ob x 4 [.int (nI L), .ref g1, .int (nI pl), .int (nI nu), .int (nI np), .int (nI rr), .ref g2, .ref g3], arC G g1 100 (fun j => nI ((va_up t L w) j)), ar G g2 24 (fun j => nI (td j)), ar G g3 384 (fun j => nI (tv j))] H := hP
    have hD : va_D A [ob x 4 [.int (nI L), .ref g1, .int (nI pl), .int (nI nu), .int (nI np), .int (nI rr), .ref g2, .ref g3], arC G g1 100 (fun j => nI ((va_up t L w) j)), ar G g2 24 (fun j => nI (td j)), ar G g3 384 (fun j => nI (tv j))] := hD
    refine lv_aload_n hx hb dX4_appendSign_19 rfl (lv_at hl 0 rfl) ?_
    refine lv_dup hx hb dX4_appendSign_20 rfl ?_
    refine va_get (D := G.1) (ci := 4) (v := .int (nI L)) (C := RX4) (T := TX4) (N := 8) hx hb hts iqX4_appendSign_X4 hown hK.1 hP 0 rfl rfl 0 (by decide) (hts (.fieldLink RX4 9 "PushedTables$Text" "length" "I") (List.mem_of_getElem? (i := 1) rfl)) (fun _ h9 => h9) rfl dX4_appendSign_21 ?_
    refine lv_iconst (v := (nI 1)) hx hb dX4_appendSign_24 (by decide) ?_
    refine r_iadd (v := L + 1) hx hb dX4_appendSign_25 rfl ?_
    refine va_put (D := G.1) (ci := 4) (v := .int (nI (L + 1))) (ty := .int) (C := RX4) (T := TX4) (N := 8) hx hb hts iqX4_appendSign_X4 tyX4 tyX4_ok nmX4 hown hK.1 hP hD hS 0 rfl rfl 0 (by decide) (hts (.fieldLink RX4 9 "PushedTables$Text" "length" "I") (List.mem_of_getElem? (i := 1) rfl)) (fun _ h9 => h9) rfl (by decide +kernel) rfl rfl (Nat.le_of_ble_eq_true rfl) dX4_appendSign_26 (fun H locs hP hD hS => ?_)
    have hP : va_P G.1 vwCl [ob x 4 [.int (nI (L + 1)), .ref g1, .int (nI pl), .int (nI nu), .int (nI np), .int (nI rr), .ref g2, .ref g3], arC G g1 100 (fun j => nI ((va_up t L w) j)), ar G g2 24 (fun j => nI (td j)), ar G g3 384 (fun j => nI (tv j))] H := hP
    have hD : va_D A [ob x 4 [.int (nI (L + 1)), .ref g1, .int (nI pl), .int (nI nu), .int (nI np), .int (nI rr), .ref g2, .ref g3], arC G g1 100 (fun j => nI ((va_up t L w) j)), ar G g2 24 (fun j => nI (td j)), ar G g3 384 (fun j => nI (tv j))] := hD
    exact hret _ _ _ _ hS dX4_appendSign_29 (hP)
